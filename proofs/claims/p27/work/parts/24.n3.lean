theorem hmL_years_cl : Cond.classLink RL 14 RX5 ∈ wsL_years := List.mem_of_getElem? (i := 1) rfl
theorem hmL_years_in : Cond.instantiable RX5 6 ∈ wsL_years := List.mem_of_getElem? (i := 2) rfl
theorem hmL_years_ini : Cond.initialized RX5 ∈ wsL_years := List.mem_of_getElem? (i := 3) rfl
theorem hmL_years_ml : Cond.methodLink RL 83 yX5_init ∈ wsL_years := List.mem_of_getElem? (i := 8) rfl
theorem hmL_years_im : Cond.instanceMethod yX5_init ∈ wsL_years := List.mem_of_getElem? (i := 9) rfl
theorem hmL_years_98 : Cond.constant RL 98 (1000000) ∈ wsL_years := List.mem_of_getElem? (i := 4) rfl
theorem hmL_years_99 : Cond.constant RL 99 (1000080) ∈ wsL_years := List.mem_of_getElem? (i := 5) rfl
theorem hmL_years_100 : Cond.constant RL 100 (999980) ∈ wsL_years := List.mem_of_getElem? (i := 6) rfl
theorem hmL_years_101 : Cond.constant RL 101 (999940) ∈ wsL_years := List.mem_of_getElem? (i := 7) rfl
theorem hiL_years_X5 : ∀ w ∈ wsX50, w ∈ wsL_years := fun _ h => List.mem_cons_of_mem _ (List.mem_append_left _ (List.mem_append_left _ (List.mem_append_left _ (List.mem_append_left _ (List.mem_append_left _ (List.mem_append_right _ h))))))
def lL_years_1013 (n : Nat) (k : Int32 → lm → Option Int32) : Nat → Int32 → lm → Option Int32
  | 0, _, _ => none
  | f + 1, x2, μ => if (8 : Int32) ≤ x2 then
(k x2 μ)
else
(bi (fX5_addFlat n (x2 + (1 : Int32)) μ.1) (fun r1023 m1023 =>
if r1023 = x2 then
(lL_years_1013 n k f (x2 + (1 : Int32)) (m1023, μ.2))
else
(some (0 : Int32))))
def lL_years_1040 (n : Nat) (k : Int32 → lm → Option Int32) : Nat → Int32 → lm → Option Int32
  | 0, _, _ => none
  | f + 1, x2, μ => if (20 : Int32) ≤ x2 then
(k x2 μ)
else
(bi (fX5_addDevice n (x2 - x2 / (8 : Int32) * (8 : Int32)) (x2 + (1 : Int32)) μ.1) (fun r1054 m1054 =>
if r1054 = x2 then
(lL_years_1040 n k f (x2 + (1 : Int32)) (m1054, μ.2))
else
(some (0 : Int32))))
def lL_years_1117 (n : Nat) (k : Int32 → lm → Option Int32) : Nat → Int32 → lm → Option Int32
  | 0, _, _ => none
  | f + 1, x2, μ => if (4 : Int32) ≤ x2 then
(k x2 μ)
else
(bi (fX5_close n μ.1) (fun r1123 m1123 =>
if r1123 = x2 then
(lL_years_1117 n k f (x2 + (1 : Int32)) (m1123, μ.2))
else
(some (0 : Int32))))
set_option maxRecDepth 100000 in
def fL_years (n : Nat) : Option Int32 :=
bi (fX5_undo n mz) (fun r9 m9 =>
if r9 = (-5 : Int32) then
(bi (fX5_restore n m9) (fun r18 m18 =>
if r18 = (-5 : Int32) then
(bi (fX5_close n m18) (fun r27 m27 =>
if r27 = (-4 : Int32) then
(bi (fX5_count n (5 : Int32) m27) (fun r37 m37 =>
if r37 = (40 : Int32) then
(bi (fX5_count n (9 : Int32) m37) (fun r48 m48 =>
if r48 = 0 then
(bi (fX5_greatest n (0 : Int32) m48) (fun r56 m56 =>
if r56 = (-5 : Int32) then
(bi (fX5_addFlat n (50 : Int32) m56) (fun r67 m67 =>
if r67 = 0 then
(bi (fX5_addFlat n (100 : Int32) m67) (fun r76 m76 =>
if r76 = (1 : Int32) then
(bi (fX5_addDevice n (0 : Int32) (2 : Int32) m76) (fun r86 m86 =>
if r86 = 0 then
(bi (fX5_addDevice n (1 : Int32) (1 : Int32) m86) (fun r95 m95 =>
if r95 = (1 : Int32) then
(bi (fX5_addDevice n (1 : Int32) (3 : Int32) m95) (fun r105 m105 =>
if r105 = (2 : Int32) then
(bi (fX5_set n (0 : Int32) (1000 : Int32) m105) (fun r117 m117 =>
if r117 = 0 then
(bi (fX5_flat n (0 : Int32) (3 : Int32) m117) (fun r126 m126 =>
if r126 = (133 : Int32) then
(bi (fX5_flat n (1 : Int32) (3 : Int32) m126) (fun r138 m138 =>
if r138 = (267 : Int32) then
(bi (fX5_flat n (0 : Int32) (4 : Int32) m138) (fun r150 m150 =>
if r150 = (200 : Int32) then
(bi (fX5_flat n (1 : Int32) (5 : Int32) m150) (fun r162 m162 =>
if r162 = (667 : Int32) then
(bi (fX5_flat n (1 : Int32) (1 : Int32) m162) (fun r174 m174 =>
if r174 = (6 : Int32) then
(bi (fX5_count n (7 : Int32) m174) (fun r185 m185 =>
if r185 = (150 : Int32) then
(bi (fX5_read n (0 : Int32) (10 : Int32) m185) (fun r200 m200 =>
if r200 = (20 : Int32) then
(bi (fX5_read n (1 : Int32) (30 : Int32) m200) (fun r212 m212 =>
if r212 = (30 : Int32) then
(bi (fX5_read n (2 : Int32) (10 : Int32) m212) (fun r224 m224 =>
if r224 = (30 : Int32) then
(bi (fX5_flat n (0 : Int32) (4 : Int32) m224) (fun r235 m235 =>
if r235 = (150 : Int32) then
(bi (fX5_flat n (1 : Int32) (5 : Int32) m235) (fun r247 m247 =>
if r247 = (717 : Int32) then
(bi (fX5_greatest n (0 : Int32) m247) (fun r258 m258 =>
if r258 = (1 : Int32) then
(bi (fX5_greatest n (1 : Int32) m258) (fun r267 m267 =>
if r267 = 0 then
(bi (fX5_greatest n (2 : Int32) m267) (fun r275 m275 =>
if r275 = (-5 : Int32) then
(bi (fX5_mark n (2 : Int32) (1 : Int32) m275) (fun r286 m286 =>
if r286 = (1 : Int32) then
(bi (fX5_device n (2 : Int32) (5 : Int32) m286) (fun r296 m296 =>
if r296 = (50 : Int32) then
(bi (fX5_flat n (1 : Int32) (2 : Int32) m296) (fun r307 m307 =>
if r307 = (80 : Int32) then
(bi (fX5_flat n (0 : Int32) (4 : Int32) m307) (fun r318 m318 =>
if r318 = (120 : Int32) then
(bi (fX5_between n (1 : Int32) (5 : Int32) m318) (fun r329 m329 =>
if r329 = (-4 : Int32) then
(bi (fX5_draft n (1 : Int32) (1 : Int32) m329) (fun r340 m340 =>
if r340 = (-1 : Int32) then
(bi (fX5_draft n (1 : Int32) (0 : Int32) m340) (fun r350 m350 =>
if r350 = (747 : Int32) then
(bi (fX5_move n (1 : Int32) (6 : Int32) m350) (fun r363 m363 =>
if r363 = (583 : Int32) then
(bi (fX5_move n (1 : Int32) (7 : Int32) m363) (fun r376 m376 =>
if r376 = (-4 : Int32) then
(bi (fX5_draft n (1 : Int32) (0 : Int32) m376) (fun r387 m387 =>
if r387 = (412 : Int32) then
(bi (fX5_draft n (1 : Int32) (1 : Int32) m387) (fun r399 m399 =>
if r399 = (335 : Int32) then
(bi (fX5_between n (1 : Int32) (500 : Int32) m399) (fun r413 m413 =>
if r413 = (1 : Int32) then
(bi (fX5_draft n (1 : Int32) (0 : Int32) m413) (fun r423 m423 =>
if r423 = (373 : Int32) then
(bi (fX5_between n (1 : Int32) (250 : Int32) m423) (fun r437 m437 =>
if r437 = 0 then
(bi (fX5_draft n (1 : Int32) (0 : Int32) m437) (fun r446 m446 =>
if r446 = (253 : Int32) then
(bi (fX5_draft n (1 : Int32) (1 : Int32) m446) (fun r458 m458 =>
if r458 = (494 : Int32) then
(bi (fX5_flat n (1 : Int32) (6 : Int32) m458) (fun r471 m471 =>
if r471 = (6 : Int32) then
(bi (fX5_flat n (1 : Int32) (7 : Int32) m471) (fun r483 m483 =>
if r483 = (250 : Int32) then
(bi (fX5_count n (12 : Int32) m483) (fun r495 m495 =>
if r495 = (1 : Int32) then
(bi (fL_refused n m495) (fun r503 m503 =>
if r503 = 0 then
(some (0 : Int32))
else
(bi (fX5_close n m503) (fun r512 m512 =>
if r512 = 0 then
(bi (fX5_count n (0 : Int32) m512) (fun r520 m520 =>
if r520 = (1 : Int32) then
(bi (fX5_count n (10 : Int32) m520) (fun r530 m530 =>
if r530 = (1000 : Int32) then
(bi (fX5_count n (4 : Int32) m530) (fun r541 m541 =>
if r541 = 0 then
(bi (fX5_bill n (0 : Int32) (1 : Int32) (0 : Int32) (0 : Int32) m541) (fun r552 m552 =>
if r552 = (253 : Int32) then
(bi (fX5_bill n (0 : Int32) (1 : Int32) (1 : Int32) (0 : Int32) m552) (fun r566 m566 =>
if r566 = (494 : Int32) then
(bi (fX5_bill n (0 : Int32) (0 : Int32) (0 : Int32) (0 : Int32) m566) (fun r580 m580 =>
if r580 = (253 : Int32) then
(bi (fX5_bill n (0 : Int32) (0 : Int32) (1 : Int32) (0 : Int32) m580) (fun r594 m594 =>
if r594 = (-1 : Int32) then
(bi (fX5_bill n (0 : Int32) (0 : Int32) (0 : Int32) (1 : Int32) m594) (fun r606 m606 =>
if r606 = (1000000 : Int32) then
(bi (fX5_units n (0 : Int32) (2 : Int32) m606) (fun r617 m617 =>
if r617 = (50 : Int32) then
(bi (fX5_device n (2 : Int32) (2 : Int32) m617) (fun r628 m628 =>
if r628 = (10 : Int32) then
(bi (fX5_device n (2 : Int32) (3 : Int32) m628) (fun r639 m639 =>
if r639 = (10 : Int32) then
(bi (fX5_device n (2 : Int32) (4 : Int32) m639) (fun r650 m650 =>
if r650 = (1 : Int32) then
(bi (fX5_device n (2 : Int32) (5 : Int32) m650) (fun r660 m660 =>
if r660 = 0 then
(bi (fX5_flat n (1 : Int32) (6 : Int32) m660) (fun r670 m670 =>
if r670 = (-5 : Int32) then
(bi (fX5_flat n (1 : Int32) (7 : Int32) m670) (fun r682 m682 =>
if r682 = (-5 : Int32) then
(bi (fX5_count n (12 : Int32) m682) (fun r693 m693 =>
if r693 = 0 then
(bi (fX5_addFlat n (5 : Int32) m693) (fun r701 m701 =>
if r701 = (-4 : Int32) then
(bi (fX5_read n (0 : Int32) (9 : Int32) m701) (fun r713 m713 =>
if r713 = (-4 : Int32) then
(bi (fX5_set n (2 : Int32) (1 : Int32) m713) (fun r724 m724 =>
if r724 = 0 then
(bi (fX5_device n (2 : Int32) (5 : Int32) m724) (fun r733 m733 =>
if r733 = (50 : Int32) then
(bi (fX5_addDevice n (0 : Int32) (1 : Int32) m733) (fun r744 m744 =>
if r744 = (3 : Int32) then
(bi (fX5_units n (0 : Int32) (3 : Int32) m744) (fun r754 m754 =>
if r754 = (-1 : Int32) then
(bi (fX5_mark n (3 : Int32) (1 : Int32) m754) (fun r764 m764 =>
if r764 = (2 : Int32) then
(bi (fX5_device n (3 : Int32) (5 : Int32) m764) (fun r774 m774 =>
if r774 = 0 then
(bi (fX5_correct n (0 : Int32) (2 : Int32) (10 : Int32) m774) (fun r787 m787 =>
if r787 = (3 : Int32) then
(bi (fX5_bill n (0 : Int32) (0 : Int32) (0 : Int32) (0 : Int32) m787) (fun r799 m799 =>
if r799 = (333 : Int32) then
(bi (fX5_bill n (0 : Int32) (1 : Int32) (0 : Int32) (0 : Int32) m799) (fun r813 m813 =>
if r813 = (233 : Int32) then
(bi (fX5_bill n (0 : Int32) (1 : Int32) (1 : Int32) (0 : Int32) m813) (fun r827 m827 =>
if r827 = (434 : Int32) then
(bi (fX5_bill n (0 : Int32) (0 : Int32) (0 : Int32) (1 : Int32) m827) (fun r841 m841 =>
if r841 = (1000080 : Int32) then
(bi (fX5_bill n (0 : Int32) (1 : Int32) (0 : Int32) (1 : Int32) m841) (fun r854 m854 =>
if r854 = (999980 : Int32) then
(bi (fX5_bill n (0 : Int32) (1 : Int32) (1 : Int32) (1 : Int32) m854) (fun r867 m867 =>
if r867 = (999940 : Int32) then
(bi (fX5_device n (2 : Int32) (5 : Int32) m867) (fun r878 m878 =>
if r878 = (10 : Int32) then
(bi (fX5_count n (10 : Int32) m878) (fun r889 m889 =>
if r889 = (1000 : Int32) then
(bi (fX5_count n (11 : Int32) m889) (fun r901 m901 =>
if r901 = (1 : Int32) then
(bi (fX5_set n (0 : Int32) (300 : Int32) m901) (fun r913 m913 =>
if r913 = 0 then
(bi (fX5_flat n (0 : Int32) (5 : Int32) m913) (fun r922 m922 =>
if r922 = (40 : Int32) then
(bi (fX5_flat n (1 : Int32) (5 : Int32) m922) (fun r933 m933 =>
if r933 = (260 : Int32) then
(bi (fX5_billIf n (0 : Int32) (100 : Int32) m933) (fun r946 m946 =>
if r946 = (100 : Int32) then
(bi (fX5_billIf n (0 : Int32) (0 : Int32) m946) (fun r957 m957 =>
if r957 = 0 then
(bi (fX5_bestShare n (0 : Int32) m957) (fun r965 m965 =>
if r965 = 0 then
(bi (fX5_bestShare n (1 : Int32) m965) (fun r973 m973 =>
if r973 = (100 : Int32) then
(bi (fX5_billIf n (1 : Int32) (100 : Int32) m973) (fun r985 m985 =>
if r985 = (200 : Int32) then
(bi (fL_refused n m985) (fun r995 m995 =>
if r995 = 0 then
(some (0 : Int32))
else
(lL_years_1013 n (fun x2_1013 m1013 =>
lL_years_1040 n (fun x2_1040 m1040 =>
bi (fX5_addFlat n (5 : Int32) m1040.1) (fun r1071 m1071 =>
if r1071 = (-3 : Int32) then
(bi (fX5_addDevice n (0 : Int32) (5 : Int32) m1071) (fun r1082 m1082 =>
if r1082 = (-3 : Int32) then
(bi (fX5_addDevice n (0 : Int32) (21 : Int32) m1082) (fun r1094 m1094 =>
if r1094 = (-2 : Int32) then
(bi (fX5_mark n (19 : Int32) (1 : Int32) m1094) (fun r1106 m1106 =>
if r1106 = (1 : Int32) then
(lL_years_1117 n (fun x2_1117 m1117 =>
bi (fX5_close n m1117.1) (fun r1139 m1139 =>
if r1139 = (-3 : Int32) then
(bi (fX5_addFlat n (5 : Int32) m1139) (fun r1149 m1149 =>
if r1149 = (-3 : Int32) then
(bi (fX5_addFlat n (0 : Int32) m1149) (fun r1159 m1159 =>
if r1159 = (-2 : Int32) then
(bi (fX5_count n (10 : Int32) m1159) (fun r1170 m1170 =>
if r1170 = 0 then
(bi (fX5_bestShare n (7 : Int32) m1170) (fun r1179 m1179 =>
if r1179 = 0 then
(bi (fL_refused n m1179) (fun r1186 m1186 =>
if r1186 = 0 then
(some (0 : Int32))
else
(some (1 : Int32))))
else
(some (0 : Int32))))
else
(some (0 : Int32))))
else
(some (0 : Int32))))
else
(some (0 : Int32))))
else
(some (0 : Int32)))) n (0 : Int32) (m1106, m1040.2))
else
(some (0 : Int32))))
else
(some (0 : Int32))))
else
(some (0 : Int32))))
else
(some (0 : Int32)))) n (0 : Int32) m1013) n (0 : Int32) (mz, (fun _ => 0)))))
else
(some (0 : Int32))))
else
(some (0 : Int32))))
else
(some (0 : Int32))))
else
(some (0 : Int32))))
else
(some (0 : Int32))))
else
(some (0 : Int32))))
else
(some (0 : Int32))))
else
(some (0 : Int32))))
else
(some (0 : Int32))))
else
(some (0 : Int32))))
else
(some (0 : Int32))))
else
(some (0 : Int32))))
else
(some (0 : Int32))))
else
(some (0 : Int32))))
else
(some (0 : Int32))))
else
(some (0 : Int32))))
else
(some (0 : Int32))))
else
(some (0 : Int32))))
else
(some (0 : Int32))))
else
(some (0 : Int32))))
else
(some (0 : Int32))))
else
(some (0 : Int32))))
else
(some (0 : Int32))))
else
(some (0 : Int32))))
else
(some (0 : Int32))))
else
(some (0 : Int32))))
else
(some (0 : Int32))))
else
(some (0 : Int32))))
else
(some (0 : Int32))))
else
(some (0 : Int32))))
else
(some (0 : Int32))))
else
(some (0 : Int32))))
else
(some (0 : Int32))))
else
(some (0 : Int32))))
else
(some (0 : Int32))))
else
(some (0 : Int32))))
else
(some (0 : Int32))))
else
(some (0 : Int32))))
else
(some (0 : Int32))))
else
(some (0 : Int32))))
else
(some (0 : Int32))))
else
(some (0 : Int32))))
else
(some (0 : Int32))))))
else
(some (0 : Int32))))
else
(some (0 : Int32))))
else
(some (0 : Int32))))
else
(some (0 : Int32))))
else
(some (0 : Int32))))
else
(some (0 : Int32))))
else
(some (0 : Int32))))
else
(some (0 : Int32))))
else
(some (0 : Int32))))
else
(some (0 : Int32))))
else
(some (0 : Int32))))
else
(some (0 : Int32))))
else
(some (0 : Int32))))
else
(some (0 : Int32))))
else
(some (0 : Int32))))
else
(some (0 : Int32))))
else
(some (0 : Int32))))
else
(some (0 : Int32))))
else
(some (0 : Int32))))
else
(some (0 : Int32))))
else
(some (0 : Int32))))
else
(some (0 : Int32))))
else
(some (0 : Int32))))
else
(some (0 : Int32))))
else
(some (0 : Int32))))
else
(some (0 : Int32))))
else
(some (0 : Int32))))
else
(some (0 : Int32))))
else
(some (0 : Int32))))
else
(some (0 : Int32))))
else
(some (0 : Int32))))
else
(some (0 : Int32))))
else
(some (0 : Int32))))
else
(some (0 : Int32))))
else
(some (0 : Int32))))
else
(some (0 : Int32))))
else
(some (0 : Int32))))
else
(some (0 : Int32))))
else
(some (0 : Int32))))
else
(some (0 : Int32))))
else
(some (0 : Int32))))
else
(some (0 : Int32))))
else
(some (0 : Int32))))
else
(some (0 : Int32))))
else
(some (0 : Int32)))
abbrev rmL_years : Room := { frames := 8, cells := 482, slots := 6374, locals := 193 }
set_option maxRecDepth 100000 in
set_option maxHeartbeats 4000000 in
theorem tL_years {l : Launch} {D : va_G} {cI cZ cC cJ cY cH : ClassId} {t1 t2 : Nat} (n : Nat) : ∀ r, fL_years n = some r → Met l yL_years wsL_years rmL_years (va_Pc [] (nR D cI cZ cC cJ cY cH t1 t2)) (nQ r) 482 6374 (fun _ => False) := by
  refine n_start (cc := cL_years) (maxL := 3) (ret := (some .boolean)) (by decide) rfl (Nat.le_of_ble_eq_true rfl) [] rfl ?_
  intro p e s m args below meth c hC hr
  have L1013 : ∀ (ad : Nat → Nat) (k : Int32 → lm → Option Int32) (hk : ∀ (x2 : Int32) (μ : lm), nV p l e rmL_years s m args below meth c 3 D cI cZ cC cJ cY cH (nqQ below args s 482 6374) (some ad, none) 482 6374 μ 1038 [(2, .int x2), (1, .ref (ad 228))] [] (k x2 μ)) (f : Nat) (x2 : Int32) (μ : lm), nV p l e rmL_years s m args below meth c 3 D cI cZ cC cJ cY cH (nqQ below args s 482 6374) (some ad, none) 482 6374 μ 1013 [(2, .int x2), (1, .ref (ad 228))] [] (lL_years_1013 n k f x2 μ) := by
    intro ad k hk f
    induction f with
    | zero => intro x2 μ; rw [lL_years_1013]; exact nr_none
    | succ f ih =>
      intro x2 μ
      rw [lL_years_1013]
      refine nr_iload_n hC dL_years_1013 rfl 0 rfl ?_
      refine nr_bipush (v := 8) hC dL_years_1014 (by decide) ?_
      refine nr_icmp_ge (tgt := 1038) hC dL_years_1016 (by decide) (fun _ => ?_) (fun _ => ?_)
      · refine nr_sub (lv' := [(2, .int x2), (1, .ref (ad 228))]) [0, 1] rfl ?_
        exact hk _ _
      · refine nr_aload_n hC dL_years_1019 rfl 1 rfl ?_
        refine nr_iload_n hC dL_years_1020 rfl 0 rfl ?_
        refine nr_iconst (v := 1) hC dL_years_1021 (by decide) ?_
        refine nr_iadd hC dL_years_1022 ?_
        refine nr_callVi (As := [.int (x2 + (1 : Int32))]) hC rfl (fun hI => tX5_addFlat (t1 := t1) (t2 := t2) hI n (x2 + (1 : Int32)) μ.1) (cwV 1 hC.1.2.2.2.2 gL_years_X5_addFlat rfl rfl rfl (by decide +kernel) ⟨Nat.le_of_ble_eq_true rfl, Nat.le_of_ble_eq_true rfl⟩) rfl (Nat.le_of_ble_eq_true rfl) ⟨Nat.le_of_ble_eq_true rfl, Nat.le_of_ble_eq_true rfl⟩ dL_years_1023 (fun r1023 m1023 => ?_)
        refine nr_iload_n hC dL_years_1026 rfl 0 rfl ?_
        refine nr_icmp_eq (tgt := 1032) hC dL_years_1027 (by decide) (fun _ => ?_) (fun _ => ?_)
        · refine nr_iinc (v := (x2 + (1 : Int32))) (lv' := [(2, .int (x2 + (1 : Int32))), (1, .ref (ad 228))]) (kx := 0) hC dL_years_1032 rfl rfl (by decide) rfl ?_
          refine nr_goto (tgt := 1013) hC dL_years_1035 (by decide) ?_
          refine nr_sub (lv' := [(2, .int (x2 + (1 : Int32))), (1, .ref (ad 228))]) [0, 1] rfl ?_
          exact ih _ _
        · refine nr_iconst (v := 0) hC dL_years_1030 (by decide) ?_
          exact nr_iretz hC hr (Nat.le_of_ble_eq_true rfl) (Nat.le_of_ble_eq_true rfl) dL_years_1031 rfl
  have L1040 : ∀ (ad : Nat → Nat) (k : Int32 → lm → Option Int32) (hk : ∀ (x2 : Int32) (μ : lm), nV p l e rmL_years s m args below meth c 3 D cI cZ cC cJ cY cH (nqQ below args s 482 6374) (some ad, none) 482 6374 μ 1069 [(2, .int x2), (1, .ref (ad 228))] [] (k x2 μ)) (f : Nat) (x2 : Int32) (μ : lm), nV p l e rmL_years s m args below meth c 3 D cI cZ cC cJ cY cH (nqQ below args s 482 6374) (some ad, none) 482 6374 μ 1040 [(2, .int x2), (1, .ref (ad 228))] [] (lL_years_1040 n k f x2 μ) := by
    intro ad k hk f
    induction f with
    | zero => intro x2 μ; rw [lL_years_1040]; exact nr_none
    | succ f ih =>
      intro x2 μ
      rw [lL_years_1040]
      refine nr_iload_n hC dL_years_1040 rfl 0 rfl ?_
      refine nr_bipush (v := 20) hC dL_years_1041 (by decide) ?_
      refine nr_icmp_ge (tgt := 1069) hC dL_years_1043 (by decide) (fun _ => ?_) (fun _ => ?_)
      · refine nr_sub (lv' := [(2, .int x2), (1, .ref (ad 228))]) [0, 1] rfl ?_
        exact hk _ _
      · refine nr_aload_n hC dL_years_1046 rfl 1 rfl ?_
        refine nr_iload_n hC dL_years_1047 rfl 0 rfl ?_
        refine nr_bipush (v := 8) hC dL_years_1048 (by decide) ?_
        refine nr_irem hC dL_years_1050 (by decide) ?_
        refine nr_iload_n hC dL_years_1051 rfl 0 rfl ?_
        refine nr_iconst (v := 1) hC dL_years_1052 (by decide) ?_
        refine nr_iadd hC dL_years_1053 ?_
        refine nr_callVi (As := [.int (x2 - x2 / (8 : Int32) * (8 : Int32)), .int (x2 + (1 : Int32))]) hC rfl (fun hI => tX5_addDevice (t1 := t1) (t2 := t2) hI n (x2 - x2 / (8 : Int32) * (8 : Int32)) (x2 + (1 : Int32)) μ.1) (cwV 2 hC.1.2.2.2.2 gL_years_X5_addDevice rfl rfl rfl (by decide +kernel) ⟨Nat.le_of_ble_eq_true rfl, Nat.le_of_ble_eq_true rfl⟩) rfl (Nat.le_of_ble_eq_true rfl) ⟨Nat.le_of_ble_eq_true rfl, Nat.le_of_ble_eq_true rfl⟩ dL_years_1054 (fun r1054 m1054 => ?_)
        refine nr_iload_n hC dL_years_1057 rfl 0 rfl ?_
        refine nr_icmp_eq (tgt := 1063) hC dL_years_1058 (by decide) (fun _ => ?_) (fun _ => ?_)
        · refine nr_iinc (v := (x2 + (1 : Int32))) (lv' := [(2, .int (x2 + (1 : Int32))), (1, .ref (ad 228))]) (kx := 0) hC dL_years_1063 rfl rfl (by decide) rfl ?_
          refine nr_goto (tgt := 1040) hC dL_years_1066 (by decide) ?_
          refine nr_sub (lv' := [(2, .int (x2 + (1 : Int32))), (1, .ref (ad 228))]) [0, 1] rfl ?_
          exact ih _ _
        · refine nr_iconst (v := 0) hC dL_years_1061 (by decide) ?_
          exact nr_iretz hC hr (Nat.le_of_ble_eq_true rfl) (Nat.le_of_ble_eq_true rfl) dL_years_1062 rfl
  have L1117 : ∀ (ad : Nat → Nat) (k : Int32 → lm → Option Int32) (hk : ∀ (x2 : Int32) (μ : lm), nV p l e rmL_years s m args below meth c 3 D cI cZ cC cJ cY cH (nqQ below args s 482 6374) (some ad, none) 482 6374 μ 1138 [(2, .int x2), (1, .ref (ad 228))] [] (k x2 μ)) (f : Nat) (x2 : Int32) (μ : lm), nV p l e rmL_years s m args below meth c 3 D cI cZ cC cJ cY cH (nqQ below args s 482 6374) (some ad, none) 482 6374 μ 1117 [(2, .int x2), (1, .ref (ad 228))] [] (lL_years_1117 n k f x2 μ) := by
    intro ad k hk f
    induction f with
    | zero => intro x2 μ; rw [lL_years_1117]; exact nr_none
    | succ f ih =>
      intro x2 μ
      rw [lL_years_1117]
      refine nr_iload_n hC dL_years_1117 rfl 0 rfl ?_
      refine nr_iconst (v := 4) hC dL_years_1118 (by decide) ?_
      refine nr_icmp_ge (tgt := 1138) hC dL_years_1119 (by decide) (fun _ => ?_) (fun _ => ?_)
      · refine nr_sub (lv' := [(2, .int x2), (1, .ref (ad 228))]) [0, 1] rfl ?_
        exact hk _ _
      · refine nr_aload_n hC dL_years_1122 rfl 1 rfl ?_
        refine nr_callVi (As := []) hC rfl (fun hI => tX5_close (t1 := t1) (t2 := t2) hI n μ.1) (cwV 0 hC.1.2.2.2.2 gL_years_X5_close rfl rfl rfl (by decide +kernel) ⟨Nat.le_of_ble_eq_true rfl, Nat.le_of_ble_eq_true rfl⟩) rfl (Nat.le_of_ble_eq_true rfl) ⟨Nat.le_of_ble_eq_true rfl, Nat.le_of_ble_eq_true rfl⟩ dL_years_1123 (fun r1123 m1123 => ?_)
        refine nr_iload_n hC dL_years_1126 rfl 0 rfl ?_
        refine nr_icmp_eq (tgt := 1132) hC dL_years_1127 (by decide) (fun _ => ?_) (fun _ => ?_)
        · refine nr_iinc (v := (x2 + (1 : Int32))) (lv' := [(2, .int (x2 + (1 : Int32))), (1, .ref (ad 228))]) (kx := 0) hC dL_years_1132 rfl rfl (by decide) rfl ?_
          refine nr_goto (tgt := 1117) hC dL_years_1135 (by decide) ?_
          refine nr_sub (lv' := [(2, .int (x2 + (1 : Int32))), (1, .ref (ad 228))]) [0, 1] rfl ?_
          exact ih _ _
        · refine nr_iconst (v := 0) hC dL_years_1130 (by decide) ?_
          exact nr_iretz hC hr (Nat.le_of_ble_eq_true rfl) (Nat.le_of_ble_eq_true rfl) dL_years_1131 rfl
  rw [fL_years]
  refine nr_new hC hiL_years_X5 hmL_years_cl hmL_years_in hmL_years_ini (cwI 0 hC.1.2.2.2.2 gL_years_X5_init rfl rfl rfl (hC.1.2.2.2.2 _ hmL_years_ini) (hC.1.2.2.2.2 _ hmL_years_ml) (hC.1.2.2.2.2 _ hmL_years_im) rfl (by decide +kernel) ⟨Nat.le_of_ble_eq_true rfl, Nat.le_of_ble_eq_true rfl⟩) (Nat.le_of_ble_eq_true rfl) (Nat.le_of_ble_eq_true rfl) (Nat.le_of_ble_eq_true rfl) dL_years_0 dL_years_3 dL_years_4 (fun ad => ?_)
  refine nr_astore_n (lv' := [(0, .ref (ad 228))]) hC dL_years_7 rfl (by decide) rfl ?_
  refine nr_aload_n hC dL_years_8 rfl 0 rfl ?_
  refine nr_callVi (As := []) hC rfl (fun hI => tX5_undo (t1 := t1) (t2 := t2) hI n mz) (cwV 0 hC.1.2.2.2.2 gL_years_X5_undo rfl rfl rfl (by decide +kernel) ⟨Nat.le_of_ble_eq_true rfl, Nat.le_of_ble_eq_true rfl⟩) rfl (Nat.le_of_ble_eq_true rfl) ⟨Nat.le_of_ble_eq_true rfl, Nat.le_of_ble_eq_true rfl⟩ dL_years_9 (fun r9 m9 => ?_)
  refine nr_bipush (v := -5) hC dL_years_12 (by decide) ?_
  refine nr_icmp_ne (tgt := 194) hC dL_years_14 (by decide) (fun _ => ?_) (fun _ => ?_)
  · refine nr_aload_n hC dL_years_17 rfl 0 rfl ?_
    refine nr_callVi (As := []) hC rfl (fun hI => tX5_restore (t1 := t1) (t2 := t2) hI n m9) (cwV 0 hC.1.2.2.2.2 gL_years_X5_restore rfl rfl rfl (by decide +kernel) ⟨Nat.le_of_ble_eq_true rfl, Nat.le_of_ble_eq_true rfl⟩) rfl (Nat.le_of_ble_eq_true rfl) ⟨Nat.le_of_ble_eq_true rfl, Nat.le_of_ble_eq_true rfl⟩ dL_years_18 (fun r18 m18 => ?_)
    refine nr_bipush (v := -5) hC dL_years_21 (by decide) ?_
    refine nr_icmp_ne (tgt := 194) hC dL_years_23 (by decide) (fun _ => ?_) (fun _ => ?_)
    · refine nr_aload_n hC dL_years_26 rfl 0 rfl ?_
      refine nr_callVi (As := []) hC rfl (fun hI => tX5_close (t1 := t1) (t2 := t2) hI n m18) (cwV 0 hC.1.2.2.2.2 gL_years_X5_close rfl rfl rfl (by decide +kernel) ⟨Nat.le_of_ble_eq_true rfl, Nat.le_of_ble_eq_true rfl⟩) rfl (Nat.le_of_ble_eq_true rfl) ⟨Nat.le_of_ble_eq_true rfl, Nat.le_of_ble_eq_true rfl⟩ dL_years_27 (fun r27 m27 => ?_)
      refine nr_bipush (v := -4) hC dL_years_30 (by decide) ?_
      refine nr_icmp_ne (tgt := 194) hC dL_years_32 (by decide) (fun _ => ?_) (fun _ => ?_)
      · refine nr_aload_n hC dL_years_35 rfl 0 rfl ?_
        refine nr_iconst (v := 5) hC dL_years_36 (by decide) ?_
        refine nr_callVi (As := [.int (5 : Int32)]) hC rfl (fun hI => tX5_count (t1 := t1) (t2 := t2) hI n (5 : Int32) m27) (cwV 1 hC.1.2.2.2.2 gL_years_X5_count rfl rfl rfl (by decide +kernel) ⟨Nat.le_of_ble_eq_true rfl, Nat.le_of_ble_eq_true rfl⟩) rfl (Nat.le_of_ble_eq_true rfl) ⟨Nat.le_of_ble_eq_true rfl, Nat.le_of_ble_eq_true rfl⟩ dL_years_37 (fun r37 m37 => ?_)
        refine nr_bipush (v := 40) hC dL_years_40 (by decide) ?_
        refine nr_icmp_ne (tgt := 194) hC dL_years_42 (by decide) (fun _ => ?_) (fun _ => ?_)
        · refine nr_aload_n hC dL_years_45 rfl 0 rfl ?_
          refine nr_bipush (v := 9) hC dL_years_46 (by decide) ?_
          refine nr_callVi (As := [.int (9 : Int32)]) hC rfl (fun hI => tX5_count (t1 := t1) (t2 := t2) hI n (9 : Int32) m37) (cwV 1 hC.1.2.2.2.2 gL_years_X5_count rfl rfl rfl (by decide +kernel) ⟨Nat.le_of_ble_eq_true rfl, Nat.le_of_ble_eq_true rfl⟩) rfl (Nat.le_of_ble_eq_true rfl) ⟨Nat.le_of_ble_eq_true rfl, Nat.le_of_ble_eq_true rfl⟩ dL_years_48 (fun r48 m48 => ?_)
          refine nr_if_ne (tgt := 194) hC dL_years_51 (by decide) (fun _ => ?_) (fun _ => ?_)
          · refine nr_aload_n hC dL_years_54 rfl 0 rfl ?_
            refine nr_iconst (v := 0) hC dL_years_55 (by decide) ?_
            refine nr_callVi (As := [.int (0 : Int32)]) hC rfl (fun hI => tX5_greatest (t1 := t1) (t2 := t2) hI n (0 : Int32) m48) (cwV 1 hC.1.2.2.2.2 gL_years_X5_greatest rfl rfl rfl (by decide +kernel) ⟨Nat.le_of_ble_eq_true rfl, Nat.le_of_ble_eq_true rfl⟩) rfl (Nat.le_of_ble_eq_true rfl) ⟨Nat.le_of_ble_eq_true rfl, Nat.le_of_ble_eq_true rfl⟩ dL_years_56 (fun r56 m56 => ?_)
            refine nr_bipush (v := -5) hC dL_years_59 (by decide) ?_
            refine nr_icmp_ne (tgt := 194) hC dL_years_61 (by decide) (fun _ => ?_) (fun _ => ?_)
            · refine nr_aload_n hC dL_years_64 rfl 0 rfl ?_
              refine nr_bipush (v := 50) hC dL_years_65 (by decide) ?_
              refine nr_callVi (As := [.int (50 : Int32)]) hC rfl (fun hI => tX5_addFlat (t1 := t1) (t2 := t2) hI n (50 : Int32) m56) (cwV 1 hC.1.2.2.2.2 gL_years_X5_addFlat rfl rfl rfl (by decide +kernel) ⟨Nat.le_of_ble_eq_true rfl, Nat.le_of_ble_eq_true rfl⟩) rfl (Nat.le_of_ble_eq_true rfl) ⟨Nat.le_of_ble_eq_true rfl, Nat.le_of_ble_eq_true rfl⟩ dL_years_67 (fun r67 m67 => ?_)
              refine nr_if_ne (tgt := 194) hC dL_years_70 (by decide) (fun _ => ?_) (fun _ => ?_)
              · refine nr_aload_n hC dL_years_73 rfl 0 rfl ?_
                refine nr_bipush (v := 100) hC dL_years_74 (by decide) ?_
                refine nr_callVi (As := [.int (100 : Int32)]) hC rfl (fun hI => tX5_addFlat (t1 := t1) (t2 := t2) hI n (100 : Int32) m67) (cwV 1 hC.1.2.2.2.2 gL_years_X5_addFlat rfl rfl rfl (by decide +kernel) ⟨Nat.le_of_ble_eq_true rfl, Nat.le_of_ble_eq_true rfl⟩) rfl (Nat.le_of_ble_eq_true rfl) ⟨Nat.le_of_ble_eq_true rfl, Nat.le_of_ble_eq_true rfl⟩ dL_years_76 (fun r76 m76 => ?_)
                refine nr_iconst (v := 1) hC dL_years_79 (by decide) ?_
                refine nr_icmp_ne (tgt := 194) hC dL_years_80 (by decide) (fun _ => ?_) (fun _ => ?_)
                · refine nr_aload_n hC dL_years_83 rfl 0 rfl ?_
                  refine nr_iconst (v := 0) hC dL_years_84 (by decide) ?_
                  refine nr_iconst (v := 2) hC dL_years_85 (by decide) ?_
                  refine nr_callVi (As := [.int (0 : Int32), .int (2 : Int32)]) hC rfl (fun hI => tX5_addDevice (t1 := t1) (t2 := t2) hI n (0 : Int32) (2 : Int32) m76) (cwV 2 hC.1.2.2.2.2 gL_years_X5_addDevice rfl rfl rfl (by decide +kernel) ⟨Nat.le_of_ble_eq_true rfl, Nat.le_of_ble_eq_true rfl⟩) rfl (Nat.le_of_ble_eq_true rfl) ⟨Nat.le_of_ble_eq_true rfl, Nat.le_of_ble_eq_true rfl⟩ dL_years_86 (fun r86 m86 => ?_)
                  refine nr_if_ne (tgt := 194) hC dL_years_89 (by decide) (fun _ => ?_) (fun _ => ?_)
                  · refine nr_aload_n hC dL_years_92 rfl 0 rfl ?_
                    refine nr_iconst (v := 1) hC dL_years_93 (by decide) ?_
                    refine nr_iconst (v := 1) hC dL_years_94 (by decide) ?_
                    refine nr_callVi (As := [.int (1 : Int32), .int (1 : Int32)]) hC rfl (fun hI => tX5_addDevice (t1 := t1) (t2 := t2) hI n (1 : Int32) (1 : Int32) m86) (cwV 2 hC.1.2.2.2.2 gL_years_X5_addDevice rfl rfl rfl (by decide +kernel) ⟨Nat.le_of_ble_eq_true rfl, Nat.le_of_ble_eq_true rfl⟩) rfl (Nat.le_of_ble_eq_true rfl) ⟨Nat.le_of_ble_eq_true rfl, Nat.le_of_ble_eq_true rfl⟩ dL_years_95 (fun r95 m95 => ?_)
                    refine nr_iconst (v := 1) hC dL_years_98 (by decide) ?_
                    refine nr_icmp_ne (tgt := 194) hC dL_years_99 (by decide) (fun _ => ?_) (fun _ => ?_)
                    · refine nr_aload_n hC dL_years_102 rfl 0 rfl ?_
                      refine nr_iconst (v := 1) hC dL_years_103 (by decide) ?_
                      refine nr_iconst (v := 3) hC dL_years_104 (by decide) ?_
                      refine nr_callVi (As := [.int (1 : Int32), .int (3 : Int32)]) hC rfl (fun hI => tX5_addDevice (t1 := t1) (t2 := t2) hI n (1 : Int32) (3 : Int32) m95) (cwV 2 hC.1.2.2.2.2 gL_years_X5_addDevice rfl rfl rfl (by decide +kernel) ⟨Nat.le_of_ble_eq_true rfl, Nat.le_of_ble_eq_true rfl⟩) rfl (Nat.le_of_ble_eq_true rfl) ⟨Nat.le_of_ble_eq_true rfl, Nat.le_of_ble_eq_true rfl⟩ dL_years_105 (fun r105 m105 => ?_)
                      refine nr_iconst (v := 2) hC dL_years_108 (by decide) ?_
                      refine nr_icmp_ne (tgt := 194) hC dL_years_109 (by decide) (fun _ => ?_) (fun _ => ?_)
                      · refine nr_aload_n hC dL_years_112 rfl 0 rfl ?_
                        refine nr_iconst (v := 0) hC dL_years_113 (by decide) ?_
                        refine nr_sipush (v := 1000) hC dL_years_114 (by decide) ?_
                        refine nr_callVi (As := [.int (0 : Int32), .int (1000 : Int32)]) hC rfl (fun hI => tX5_set (t1 := t1) (t2 := t2) hI n (0 : Int32) (1000 : Int32) m105) (cwV 2 hC.1.2.2.2.2 gL_years_X5_set rfl rfl rfl (by decide +kernel) ⟨Nat.le_of_ble_eq_true rfl, Nat.le_of_ble_eq_true rfl⟩) rfl (Nat.le_of_ble_eq_true rfl) ⟨Nat.le_of_ble_eq_true rfl, Nat.le_of_ble_eq_true rfl⟩ dL_years_117 (fun r117 m117 => ?_)
                        refine nr_if_ne (tgt := 194) hC dL_years_120 (by decide) (fun _ => ?_) (fun _ => ?_)
                        · refine nr_aload_n hC dL_years_123 rfl 0 rfl ?_
                          refine nr_iconst (v := 0) hC dL_years_124 (by decide) ?_
                          refine nr_iconst (v := 3) hC dL_years_125 (by decide) ?_
                          refine nr_callVi (As := [.int (0 : Int32), .int (3 : Int32)]) hC rfl (fun hI => tX5_flat (t1 := t1) (t2 := t2) hI n (0 : Int32) (3 : Int32) m117) (cwV 2 hC.1.2.2.2.2 gL_years_X5_flat rfl rfl rfl (by decide +kernel) ⟨Nat.le_of_ble_eq_true rfl, Nat.le_of_ble_eq_true rfl⟩) rfl (Nat.le_of_ble_eq_true rfl) ⟨Nat.le_of_ble_eq_true rfl, Nat.le_of_ble_eq_true rfl⟩ dL_years_126 (fun r126 m126 => ?_)
                          refine nr_sipush (v := 133) hC dL_years_129 (by decide) ?_
                          refine nr_icmp_ne (tgt := 194) hC dL_years_132 (by decide) (fun _ => ?_) (fun _ => ?_)
                          · refine nr_aload_n hC dL_years_135 rfl 0 rfl ?_
                            refine nr_iconst (v := 1) hC dL_years_136 (by decide) ?_
                            refine nr_iconst (v := 3) hC dL_years_137 (by decide) ?_
                            refine nr_callVi (As := [.int (1 : Int32), .int (3 : Int32)]) hC rfl (fun hI => tX5_flat (t1 := t1) (t2 := t2) hI n (1 : Int32) (3 : Int32) m126) (cwV 2 hC.1.2.2.2.2 gL_years_X5_flat rfl rfl rfl (by decide +kernel) ⟨Nat.le_of_ble_eq_true rfl, Nat.le_of_ble_eq_true rfl⟩) rfl (Nat.le_of_ble_eq_true rfl) ⟨Nat.le_of_ble_eq_true rfl, Nat.le_of_ble_eq_true rfl⟩ dL_years_138 (fun r138 m138 => ?_)
                            refine nr_sipush (v := 267) hC dL_years_141 (by decide) ?_
                            refine nr_icmp_ne (tgt := 194) hC dL_years_144 (by decide) (fun _ => ?_) (fun _ => ?_)
                            · refine nr_aload_n hC dL_years_147 rfl 0 rfl ?_
                              refine nr_iconst (v := 0) hC dL_years_148 (by decide) ?_
                              refine nr_iconst (v := 4) hC dL_years_149 (by decide) ?_
                              refine nr_callVi (As := [.int (0 : Int32), .int (4 : Int32)]) hC rfl (fun hI => tX5_flat (t1 := t1) (t2 := t2) hI n (0 : Int32) (4 : Int32) m138) (cwV 2 hC.1.2.2.2.2 gL_years_X5_flat rfl rfl rfl (by decide +kernel) ⟨Nat.le_of_ble_eq_true rfl, Nat.le_of_ble_eq_true rfl⟩) rfl (Nat.le_of_ble_eq_true rfl) ⟨Nat.le_of_ble_eq_true rfl, Nat.le_of_ble_eq_true rfl⟩ dL_years_150 (fun r150 m150 => ?_)
                              refine nr_sipush (v := 200) hC dL_years_153 (by decide) ?_
                              refine nr_icmp_ne (tgt := 194) hC dL_years_156 (by decide) (fun _ => ?_) (fun _ => ?_)
                              · refine nr_aload_n hC dL_years_159 rfl 0 rfl ?_
                                refine nr_iconst (v := 1) hC dL_years_160 (by decide) ?_
                                refine nr_iconst (v := 5) hC dL_years_161 (by decide) ?_
                                refine nr_callVi (As := [.int (1 : Int32), .int (5 : Int32)]) hC rfl (fun hI => tX5_flat (t1 := t1) (t2 := t2) hI n (1 : Int32) (5 : Int32) m150) (cwV 2 hC.1.2.2.2.2 gL_years_X5_flat rfl rfl rfl (by decide +kernel) ⟨Nat.le_of_ble_eq_true rfl, Nat.le_of_ble_eq_true rfl⟩) rfl (Nat.le_of_ble_eq_true rfl) ⟨Nat.le_of_ble_eq_true rfl, Nat.le_of_ble_eq_true rfl⟩ dL_years_162 (fun r162 m162 => ?_)
                                refine nr_sipush (v := 667) hC dL_years_165 (by decide) ?_
                                refine nr_icmp_ne (tgt := 194) hC dL_years_168 (by decide) (fun _ => ?_) (fun _ => ?_)
                                · refine nr_aload_n hC dL_years_171 rfl 0 rfl ?_
                                  refine nr_iconst (v := 1) hC dL_years_172 (by decide) ?_
                                  refine nr_iconst (v := 1) hC dL_years_173 (by decide) ?_
                                  refine nr_callVi (As := [.int (1 : Int32), .int (1 : Int32)]) hC rfl (fun hI => tX5_flat (t1 := t1) (t2 := t2) hI n (1 : Int32) (1 : Int32) m162) (cwV 2 hC.1.2.2.2.2 gL_years_X5_flat rfl rfl rfl (by decide +kernel) ⟨Nat.le_of_ble_eq_true rfl, Nat.le_of_ble_eq_true rfl⟩) rfl (Nat.le_of_ble_eq_true rfl) ⟨Nat.le_of_ble_eq_true rfl, Nat.le_of_ble_eq_true rfl⟩ dL_years_174 (fun r174 m174 => ?_)
                                  refine nr_bipush (v := 6) hC dL_years_177 (by decide) ?_
                                  refine nr_icmp_ne (tgt := 194) hC dL_years_179 (by decide) (fun _ => ?_) (fun _ => ?_)
                                  · refine nr_aload_n hC dL_years_182 rfl 0 rfl ?_
                                    refine nr_bipush (v := 7) hC dL_years_183 (by decide) ?_
                                    refine nr_callVi (As := [.int (7 : Int32)]) hC rfl (fun hI => tX5_count (t1 := t1) (t2 := t2) hI n (7 : Int32) m174) (cwV 1 hC.1.2.2.2.2 gL_years_X5_count rfl rfl rfl (by decide +kernel) ⟨Nat.le_of_ble_eq_true rfl, Nat.le_of_ble_eq_true rfl⟩) rfl (Nat.le_of_ble_eq_true rfl) ⟨Nat.le_of_ble_eq_true rfl, Nat.le_of_ble_eq_true rfl⟩ dL_years_185 (fun r185 m185 => ?_)
                                    refine nr_sipush (v := 150) hC dL_years_188 (by decide) ?_
                                    refine nr_icmp_eq (tgt := 196) hC dL_years_191 (by decide) (fun _ => ?_) (fun _ => ?_)
                                    · refine nr_aload_n hC dL_years_196 rfl 0 rfl ?_
                                      refine nr_iconst (v := 0) hC dL_years_197 (by decide) ?_
                                      refine nr_bipush (v := 10) hC dL_years_198 (by decide) ?_
                                      refine nr_callVi (As := [.int (0 : Int32), .int (10 : Int32)]) hC rfl (fun hI => tX5_read (t1 := t1) (t2 := t2) hI n (0 : Int32) (10 : Int32) m185) (cwV 2 hC.1.2.2.2.2 gL_years_X5_read rfl rfl rfl (by decide +kernel) ⟨Nat.le_of_ble_eq_true rfl, Nat.le_of_ble_eq_true rfl⟩) rfl (Nat.le_of_ble_eq_true rfl) ⟨Nat.le_of_ble_eq_true rfl, Nat.le_of_ble_eq_true rfl⟩ dL_years_200 (fun r200 m200 => ?_)
                                      refine nr_bipush (v := 20) hC dL_years_203 (by decide) ?_
                                      refine nr_icmp_ne (tgt := 509) hC dL_years_205 (by decide) (fun _ => ?_) (fun _ => ?_)
                                      · refine nr_aload_n hC dL_years_208 rfl 0 rfl ?_
                                        refine nr_iconst (v := 1) hC dL_years_209 (by decide) ?_
                                        refine nr_bipush (v := 30) hC dL_years_210 (by decide) ?_
                                        refine nr_callVi (As := [.int (1 : Int32), .int (30 : Int32)]) hC rfl (fun hI => tX5_read (t1 := t1) (t2 := t2) hI n (1 : Int32) (30 : Int32) m200) (cwV 2 hC.1.2.2.2.2 gL_years_X5_read rfl rfl rfl (by decide +kernel) ⟨Nat.le_of_ble_eq_true rfl, Nat.le_of_ble_eq_true rfl⟩) rfl (Nat.le_of_ble_eq_true rfl) ⟨Nat.le_of_ble_eq_true rfl, Nat.le_of_ble_eq_true rfl⟩ dL_years_212 (fun r212 m212 => ?_)
                                        refine nr_bipush (v := 30) hC dL_years_215 (by decide) ?_
                                        refine nr_icmp_ne (tgt := 509) hC dL_years_217 (by decide) (fun _ => ?_) (fun _ => ?_)
                                        · refine nr_aload_n hC dL_years_220 rfl 0 rfl ?_
                                          refine nr_iconst (v := 2) hC dL_years_221 (by decide) ?_
                                          refine nr_bipush (v := 10) hC dL_years_222 (by decide) ?_
                                          refine nr_callVi (As := [.int (2 : Int32), .int (10 : Int32)]) hC rfl (fun hI => tX5_read (t1 := t1) (t2 := t2) hI n (2 : Int32) (10 : Int32) m212) (cwV 2 hC.1.2.2.2.2 gL_years_X5_read rfl rfl rfl (by decide +kernel) ⟨Nat.le_of_ble_eq_true rfl, Nat.le_of_ble_eq_true rfl⟩) rfl (Nat.le_of_ble_eq_true rfl) ⟨Nat.le_of_ble_eq_true rfl, Nat.le_of_ble_eq_true rfl⟩ dL_years_224 (fun r224 m224 => ?_)
                                          refine nr_bipush (v := 30) hC dL_years_227 (by decide) ?_
                                          refine nr_icmp_ne (tgt := 509) hC dL_years_229 (by decide) (fun _ => ?_) (fun _ => ?_)
                                          · refine nr_aload_n hC dL_years_232 rfl 0 rfl ?_
                                            refine nr_iconst (v := 0) hC dL_years_233 (by decide) ?_
                                            refine nr_iconst (v := 4) hC dL_years_234 (by decide) ?_
                                            refine nr_callVi (As := [.int (0 : Int32), .int (4 : Int32)]) hC rfl (fun hI => tX5_flat (t1 := t1) (t2 := t2) hI n (0 : Int32) (4 : Int32) m224) (cwV 2 hC.1.2.2.2.2 gL_years_X5_flat rfl rfl rfl (by decide +kernel) ⟨Nat.le_of_ble_eq_true rfl, Nat.le_of_ble_eq_true rfl⟩) rfl (Nat.le_of_ble_eq_true rfl) ⟨Nat.le_of_ble_eq_true rfl, Nat.le_of_ble_eq_true rfl⟩ dL_years_235 (fun r235 m235 => ?_)
                                            refine nr_sipush (v := 150) hC dL_years_238 (by decide) ?_
                                            refine nr_icmp_ne (tgt := 509) hC dL_years_241 (by decide) (fun _ => ?_) (fun _ => ?_)
                                            · refine nr_aload_n hC dL_years_244 rfl 0 rfl ?_
                                              refine nr_iconst (v := 1) hC dL_years_245 (by decide) ?_
                                              refine nr_iconst (v := 5) hC dL_years_246 (by decide) ?_
                                              refine nr_callVi (As := [.int (1 : Int32), .int (5 : Int32)]) hC rfl (fun hI => tX5_flat (t1 := t1) (t2 := t2) hI n (1 : Int32) (5 : Int32) m235) (cwV 2 hC.1.2.2.2.2 gL_years_X5_flat rfl rfl rfl (by decide +kernel) ⟨Nat.le_of_ble_eq_true rfl, Nat.le_of_ble_eq_true rfl⟩) rfl (Nat.le_of_ble_eq_true rfl) ⟨Nat.le_of_ble_eq_true rfl, Nat.le_of_ble_eq_true rfl⟩ dL_years_247 (fun r247 m247 => ?_)
                                              refine nr_sipush (v := 717) hC dL_years_250 (by decide) ?_
                                              refine nr_icmp_ne (tgt := 509) hC dL_years_253 (by decide) (fun _ => ?_) (fun _ => ?_)
                                              · refine nr_aload_n hC dL_years_256 rfl 0 rfl ?_
                                                refine nr_iconst (v := 0) hC dL_years_257 (by decide) ?_
                                                refine nr_callVi (As := [.int (0 : Int32)]) hC rfl (fun hI => tX5_greatest (t1 := t1) (t2 := t2) hI n (0 : Int32) m247) (cwV 1 hC.1.2.2.2.2 gL_years_X5_greatest rfl rfl rfl (by decide +kernel) ⟨Nat.le_of_ble_eq_true rfl, Nat.le_of_ble_eq_true rfl⟩) rfl (Nat.le_of_ble_eq_true rfl) ⟨Nat.le_of_ble_eq_true rfl, Nat.le_of_ble_eq_true rfl⟩ dL_years_258 (fun r258 m258 => ?_)
                                                refine nr_iconst (v := 1) hC dL_years_261 (by decide) ?_
                                                refine nr_icmp_ne (tgt := 509) hC dL_years_262 (by decide) (fun _ => ?_) (fun _ => ?_)
                                                · refine nr_aload_n hC dL_years_265 rfl 0 rfl ?_
                                                  refine nr_iconst (v := 1) hC dL_years_266 (by decide) ?_
                                                  refine nr_callVi (As := [.int (1 : Int32)]) hC rfl (fun hI => tX5_greatest (t1 := t1) (t2 := t2) hI n (1 : Int32) m258) (cwV 1 hC.1.2.2.2.2 gL_years_X5_greatest rfl rfl rfl (by decide +kernel) ⟨Nat.le_of_ble_eq_true rfl, Nat.le_of_ble_eq_true rfl⟩) rfl (Nat.le_of_ble_eq_true rfl) ⟨Nat.le_of_ble_eq_true rfl, Nat.le_of_ble_eq_true rfl⟩ dL_years_267 (fun r267 m267 => ?_)
                                                  refine nr_if_ne (tgt := 509) hC dL_years_270 (by decide) (fun _ => ?_) (fun _ => ?_)
                                                  · refine nr_aload_n hC dL_years_273 rfl 0 rfl ?_
                                                    refine nr_iconst (v := 2) hC dL_years_274 (by decide) ?_
                                                    refine nr_callVi (As := [.int (2 : Int32)]) hC rfl (fun hI => tX5_greatest (t1 := t1) (t2 := t2) hI n (2 : Int32) m267) (cwV 1 hC.1.2.2.2.2 gL_years_X5_greatest rfl rfl rfl (by decide +kernel) ⟨Nat.le_of_ble_eq_true rfl, Nat.le_of_ble_eq_true rfl⟩) rfl (Nat.le_of_ble_eq_true rfl) ⟨Nat.le_of_ble_eq_true rfl, Nat.le_of_ble_eq_true rfl⟩ dL_years_275 (fun r275 m275 => ?_)
                                                    refine nr_bipush (v := -5) hC dL_years_278 (by decide) ?_
                                                    refine nr_icmp_ne (tgt := 509) hC dL_years_280 (by decide) (fun _ => ?_) (fun _ => ?_)
                                                    · refine nr_aload_n hC dL_years_283 rfl 0 rfl ?_
                                                      refine nr_iconst (v := 2) hC dL_years_284 (by decide) ?_
                                                      refine nr_iconst (v := 1) hC dL_years_285 (by decide) ?_
                                                      refine nr_callVi (As := [.int (2 : Int32), .int (1 : Int32)]) hC rfl (fun hI => tX5_mark (t1 := t1) (t2 := t2) hI n (2 : Int32) (1 : Int32) m275) (cwV 2 hC.1.2.2.2.2 gL_years_X5_mark rfl rfl rfl (by decide +kernel) ⟨Nat.le_of_ble_eq_true rfl, Nat.le_of_ble_eq_true rfl⟩) rfl (Nat.le_of_ble_eq_true rfl) ⟨Nat.le_of_ble_eq_true rfl, Nat.le_of_ble_eq_true rfl⟩ dL_years_286 (fun r286 m286 => ?_)
                                                      refine nr_iconst (v := 1) hC dL_years_289 (by decide) ?_
                                                      refine nr_icmp_ne (tgt := 509) hC dL_years_290 (by decide) (fun _ => ?_) (fun _ => ?_)
                                                      · refine nr_aload_n hC dL_years_293 rfl 0 rfl ?_
                                                        refine nr_iconst (v := 2) hC dL_years_294 (by decide) ?_
                                                        refine nr_iconst (v := 5) hC dL_years_295 (by decide) ?_
                                                        refine nr_callVi (As := [.int (2 : Int32), .int (5 : Int32)]) hC rfl (fun hI => tX5_device (t1 := t1) (t2 := t2) hI n (2 : Int32) (5 : Int32) m286) (cwV 2 hC.1.2.2.2.2 gL_years_X5_device rfl rfl rfl (by decide +kernel) ⟨Nat.le_of_ble_eq_true rfl, Nat.le_of_ble_eq_true rfl⟩) rfl (Nat.le_of_ble_eq_true rfl) ⟨Nat.le_of_ble_eq_true rfl, Nat.le_of_ble_eq_true rfl⟩ dL_years_296 (fun r296 m296 => ?_)
                                                        refine nr_bipush (v := 50) hC dL_years_299 (by decide) ?_
                                                        refine nr_icmp_ne (tgt := 509) hC dL_years_301 (by decide) (fun _ => ?_) (fun _ => ?_)
                                                        · refine nr_aload_n hC dL_years_304 rfl 0 rfl ?_
                                                          refine nr_iconst (v := 1) hC dL_years_305 (by decide) ?_
                                                          refine nr_iconst (v := 2) hC dL_years_306 (by decide) ?_
                                                          refine nr_callVi (As := [.int (1 : Int32), .int (2 : Int32)]) hC rfl (fun hI => tX5_flat (t1 := t1) (t2 := t2) hI n (1 : Int32) (2 : Int32) m296) (cwV 2 hC.1.2.2.2.2 gL_years_X5_flat rfl rfl rfl (by decide +kernel) ⟨Nat.le_of_ble_eq_true rfl, Nat.le_of_ble_eq_true rfl⟩) rfl (Nat.le_of_ble_eq_true rfl) ⟨Nat.le_of_ble_eq_true rfl, Nat.le_of_ble_eq_true rfl⟩ dL_years_307 (fun r307 m307 => ?_)
                                                          refine nr_bipush (v := 80) hC dL_years_310 (by decide) ?_
                                                          refine nr_icmp_ne (tgt := 509) hC dL_years_312 (by decide) (fun _ => ?_) (fun _ => ?_)
                                                          · refine nr_aload_n hC dL_years_315 rfl 0 rfl ?_
                                                            refine nr_iconst (v := 0) hC dL_years_316 (by decide) ?_
                                                            refine nr_iconst (v := 4) hC dL_years_317 (by decide) ?_
                                                            refine nr_callVi (As := [.int (0 : Int32), .int (4 : Int32)]) hC rfl (fun hI => tX5_flat (t1 := t1) (t2 := t2) hI n (0 : Int32) (4 : Int32) m307) (cwV 2 hC.1.2.2.2.2 gL_years_X5_flat rfl rfl rfl (by decide +kernel) ⟨Nat.le_of_ble_eq_true rfl, Nat.le_of_ble_eq_true rfl⟩) rfl (Nat.le_of_ble_eq_true rfl) ⟨Nat.le_of_ble_eq_true rfl, Nat.le_of_ble_eq_true rfl⟩ dL_years_318 (fun r318 m318 => ?_)
                                                            refine nr_bipush (v := 120) hC dL_years_321 (by decide) ?_
                                                            refine nr_icmp_ne (tgt := 509) hC dL_years_323 (by decide) (fun _ => ?_) (fun _ => ?_)
                                                            · refine nr_aload_n hC dL_years_326 rfl 0 rfl ?_
                                                              refine nr_iconst (v := 1) hC dL_years_327 (by decide) ?_
                                                              refine nr_iconst (v := 5) hC dL_years_328 (by decide) ?_
                                                              refine nr_callVi (As := [.int (1 : Int32), .int (5 : Int32)]) hC rfl (fun hI => tX5_between (t1 := t1) (t2 := t2) hI n (1 : Int32) (5 : Int32) m318) (cwV 2 hC.1.2.2.2.2 gL_years_X5_between rfl rfl rfl (by decide +kernel) ⟨Nat.le_of_ble_eq_true rfl, Nat.le_of_ble_eq_true rfl⟩) rfl (Nat.le_of_ble_eq_true rfl) ⟨Nat.le_of_ble_eq_true rfl, Nat.le_of_ble_eq_true rfl⟩ dL_years_329 (fun r329 m329 => ?_)
                                                              refine nr_bipush (v := -4) hC dL_years_332 (by decide) ?_
                                                              refine nr_icmp_ne (tgt := 509) hC dL_years_334 (by decide) (fun _ => ?_) (fun _ => ?_)
                                                              · refine nr_aload_n hC dL_years_337 rfl 0 rfl ?_
                                                                refine nr_iconst (v := 1) hC dL_years_338 (by decide) ?_
                                                                refine nr_iconst (v := 1) hC dL_years_339 (by decide) ?_
                                                                refine nr_callVi (As := [.int (1 : Int32), .int (1 : Int32)]) hC rfl (fun hI => tX5_draft (t1 := t1) (t2 := t2) hI n (1 : Int32) (1 : Int32) m329) (cwV 2 hC.1.2.2.2.2 gL_years_X5_draft rfl rfl rfl (by decide +kernel) ⟨Nat.le_of_ble_eq_true rfl, Nat.le_of_ble_eq_true rfl⟩) rfl (Nat.le_of_ble_eq_true rfl) ⟨Nat.le_of_ble_eq_true rfl, Nat.le_of_ble_eq_true rfl⟩ dL_years_340 (fun r340 m340 => ?_)
                                                                refine nr_iconst (v := -1) hC dL_years_343 (by decide) ?_
                                                                refine nr_icmp_ne (tgt := 509) hC dL_years_344 (by decide) (fun _ => ?_) (fun _ => ?_)
                                                                · refine nr_aload_n hC dL_years_347 rfl 0 rfl ?_
                                                                  refine nr_iconst (v := 1) hC dL_years_348 (by decide) ?_
                                                                  refine nr_iconst (v := 0) hC dL_years_349 (by decide) ?_
                                                                  refine nr_callVi (As := [.int (1 : Int32), .int (0 : Int32)]) hC rfl (fun hI => tX5_draft (t1 := t1) (t2 := t2) hI n (1 : Int32) (0 : Int32) m340) (cwV 2 hC.1.2.2.2.2 gL_years_X5_draft rfl rfl rfl (by decide +kernel) ⟨Nat.le_of_ble_eq_true rfl, Nat.le_of_ble_eq_true rfl⟩) rfl (Nat.le_of_ble_eq_true rfl) ⟨Nat.le_of_ble_eq_true rfl, Nat.le_of_ble_eq_true rfl⟩ dL_years_350 (fun r350 m350 => ?_)
                                                                  refine nr_sipush (v := 747) hC dL_years_353 (by decide) ?_
                                                                  refine nr_icmp_ne (tgt := 509) hC dL_years_356 (by decide) (fun _ => ?_) (fun _ => ?_)
                                                                  · refine nr_aload_n hC dL_years_359 rfl 0 rfl ?_
                                                                    refine nr_iconst (v := 1) hC dL_years_360 (by decide) ?_
                                                                    refine nr_bipush (v := 6) hC dL_years_361 (by decide) ?_
                                                                    refine nr_callVi (As := [.int (1 : Int32), .int (6 : Int32)]) hC rfl (fun hI => tX5_move (t1 := t1) (t2 := t2) hI n (1 : Int32) (6 : Int32) m350) (cwV 2 hC.1.2.2.2.2 gL_years_X5_move rfl rfl rfl (by decide +kernel) ⟨Nat.le_of_ble_eq_true rfl, Nat.le_of_ble_eq_true rfl⟩) rfl (Nat.le_of_ble_eq_true rfl) ⟨Nat.le_of_ble_eq_true rfl, Nat.le_of_ble_eq_true rfl⟩ dL_years_363 (fun r363 m363 => ?_)
                                                                    refine nr_sipush (v := 583) hC dL_years_366 (by decide) ?_
                                                                    refine nr_icmp_ne (tgt := 509) hC dL_years_369 (by decide) (fun _ => ?_) (fun _ => ?_)
                                                                    · refine nr_aload_n hC dL_years_372 rfl 0 rfl ?_
                                                                      refine nr_iconst (v := 1) hC dL_years_373 (by decide) ?_
                                                                      refine nr_bipush (v := 7) hC dL_years_374 (by decide) ?_
                                                                      refine nr_callVi (As := [.int (1 : Int32), .int (7 : Int32)]) hC rfl (fun hI => tX5_move (t1 := t1) (t2 := t2) hI n (1 : Int32) (7 : Int32) m363) (cwV 2 hC.1.2.2.2.2 gL_years_X5_move rfl rfl rfl (by decide +kernel) ⟨Nat.le_of_ble_eq_true rfl, Nat.le_of_ble_eq_true rfl⟩) rfl (Nat.le_of_ble_eq_true rfl) ⟨Nat.le_of_ble_eq_true rfl, Nat.le_of_ble_eq_true rfl⟩ dL_years_376 (fun r376 m376 => ?_)
                                                                      refine nr_bipush (v := -4) hC dL_years_379 (by decide) ?_
                                                                      refine nr_icmp_ne (tgt := 509) hC dL_years_381 (by decide) (fun _ => ?_) (fun _ => ?_)
                                                                      · refine nr_aload_n hC dL_years_384 rfl 0 rfl ?_
                                                                        refine nr_iconst (v := 1) hC dL_years_385 (by decide) ?_
                                                                        refine nr_iconst (v := 0) hC dL_years_386 (by decide) ?_
                                                                        refine nr_callVi (As := [.int (1 : Int32), .int (0 : Int32)]) hC rfl (fun hI => tX5_draft (t1 := t1) (t2 := t2) hI n (1 : Int32) (0 : Int32) m376) (cwV 2 hC.1.2.2.2.2 gL_years_X5_draft rfl rfl rfl (by decide +kernel) ⟨Nat.le_of_ble_eq_true rfl, Nat.le_of_ble_eq_true rfl⟩) rfl (Nat.le_of_ble_eq_true rfl) ⟨Nat.le_of_ble_eq_true rfl, Nat.le_of_ble_eq_true rfl⟩ dL_years_387 (fun r387 m387 => ?_)
                                                                        refine nr_sipush (v := 412) hC dL_years_390 (by decide) ?_
                                                                        refine nr_icmp_ne (tgt := 509) hC dL_years_393 (by decide) (fun _ => ?_) (fun _ => ?_)
                                                                        · refine nr_aload_n hC dL_years_396 rfl 0 rfl ?_
                                                                          refine nr_iconst (v := 1) hC dL_years_397 (by decide) ?_
                                                                          refine nr_iconst (v := 1) hC dL_years_398 (by decide) ?_
                                                                          refine nr_callVi (As := [.int (1 : Int32), .int (1 : Int32)]) hC rfl (fun hI => tX5_draft (t1 := t1) (t2 := t2) hI n (1 : Int32) (1 : Int32) m387) (cwV 2 hC.1.2.2.2.2 gL_years_X5_draft rfl rfl rfl (by decide +kernel) ⟨Nat.le_of_ble_eq_true rfl, Nat.le_of_ble_eq_true rfl⟩) rfl (Nat.le_of_ble_eq_true rfl) ⟨Nat.le_of_ble_eq_true rfl, Nat.le_of_ble_eq_true rfl⟩ dL_years_399 (fun r399 m399 => ?_)
                                                                          refine nr_sipush (v := 335) hC dL_years_402 (by decide) ?_
                                                                          refine nr_icmp_ne (tgt := 509) hC dL_years_405 (by decide) (fun _ => ?_) (fun _ => ?_)
                                                                          · refine nr_aload_n hC dL_years_408 rfl 0 rfl ?_
                                                                            refine nr_iconst (v := 1) hC dL_years_409 (by decide) ?_
                                                                            refine nr_sipush (v := 500) hC dL_years_410 (by decide) ?_
                                                                            refine nr_callVi (As := [.int (1 : Int32), .int (500 : Int32)]) hC rfl (fun hI => tX5_between (t1 := t1) (t2 := t2) hI n (1 : Int32) (500 : Int32) m399) (cwV 2 hC.1.2.2.2.2 gL_years_X5_between rfl rfl rfl (by decide +kernel) ⟨Nat.le_of_ble_eq_true rfl, Nat.le_of_ble_eq_true rfl⟩) rfl (Nat.le_of_ble_eq_true rfl) ⟨Nat.le_of_ble_eq_true rfl, Nat.le_of_ble_eq_true rfl⟩ dL_years_413 (fun r413 m413 => ?_)
                                                                            refine nr_iconst (v := 1) hC dL_years_416 (by decide) ?_
                                                                            refine nr_icmp_ne (tgt := 509) hC dL_years_417 (by decide) (fun _ => ?_) (fun _ => ?_)
                                                                            · refine nr_aload_n hC dL_years_420 rfl 0 rfl ?_
                                                                              refine nr_iconst (v := 1) hC dL_years_421 (by decide) ?_
                                                                              refine nr_iconst (v := 0) hC dL_years_422 (by decide) ?_
                                                                              refine nr_callVi (As := [.int (1 : Int32), .int (0 : Int32)]) hC rfl (fun hI => tX5_draft (t1 := t1) (t2 := t2) hI n (1 : Int32) (0 : Int32) m413) (cwV 2 hC.1.2.2.2.2 gL_years_X5_draft rfl rfl rfl (by decide +kernel) ⟨Nat.le_of_ble_eq_true rfl, Nat.le_of_ble_eq_true rfl⟩) rfl (Nat.le_of_ble_eq_true rfl) ⟨Nat.le_of_ble_eq_true rfl, Nat.le_of_ble_eq_true rfl⟩ dL_years_423 (fun r423 m423 => ?_)
                                                                              refine nr_sipush (v := 373) hC dL_years_426 (by decide) ?_
                                                                              refine nr_icmp_ne (tgt := 509) hC dL_years_429 (by decide) (fun _ => ?_) (fun _ => ?_)
                                                                              · refine nr_aload_n hC dL_years_432 rfl 0 rfl ?_
                                                                                refine nr_iconst (v := 1) hC dL_years_433 (by decide) ?_
                                                                                refine nr_sipush (v := 250) hC dL_years_434 (by decide) ?_
                                                                                refine nr_callVi (As := [.int (1 : Int32), .int (250 : Int32)]) hC rfl (fun hI => tX5_between (t1 := t1) (t2 := t2) hI n (1 : Int32) (250 : Int32) m423) (cwV 2 hC.1.2.2.2.2 gL_years_X5_between rfl rfl rfl (by decide +kernel) ⟨Nat.le_of_ble_eq_true rfl, Nat.le_of_ble_eq_true rfl⟩) rfl (Nat.le_of_ble_eq_true rfl) ⟨Nat.le_of_ble_eq_true rfl, Nat.le_of_ble_eq_true rfl⟩ dL_years_437 (fun r437 m437 => ?_)
                                                                                refine nr_if_ne (tgt := 509) hC dL_years_440 (by decide) (fun _ => ?_) (fun _ => ?_)
                                                                                · refine nr_aload_n hC dL_years_443 rfl 0 rfl ?_
                                                                                  refine nr_iconst (v := 1) hC dL_years_444 (by decide) ?_
                                                                                  refine nr_iconst (v := 0) hC dL_years_445 (by decide) ?_
                                                                                  refine nr_callVi (As := [.int (1 : Int32), .int (0 : Int32)]) hC rfl (fun hI => tX5_draft (t1 := t1) (t2 := t2) hI n (1 : Int32) (0 : Int32) m437) (cwV 2 hC.1.2.2.2.2 gL_years_X5_draft rfl rfl rfl (by decide +kernel) ⟨Nat.le_of_ble_eq_true rfl, Nat.le_of_ble_eq_true rfl⟩) rfl (Nat.le_of_ble_eq_true rfl) ⟨Nat.le_of_ble_eq_true rfl, Nat.le_of_ble_eq_true rfl⟩ dL_years_446 (fun r446 m446 => ?_)
                                                                                  refine nr_sipush (v := 253) hC dL_years_449 (by decide) ?_
                                                                                  refine nr_icmp_ne (tgt := 509) hC dL_years_452 (by decide) (fun _ => ?_) (fun _ => ?_)
                                                                                  · refine nr_aload_n hC dL_years_455 rfl 0 rfl ?_
                                                                                    refine nr_iconst (v := 1) hC dL_years_456 (by decide) ?_
                                                                                    refine nr_iconst (v := 1) hC dL_years_457 (by decide) ?_
                                                                                    refine nr_callVi (As := [.int (1 : Int32), .int (1 : Int32)]) hC rfl (fun hI => tX5_draft (t1 := t1) (t2 := t2) hI n (1 : Int32) (1 : Int32) m446) (cwV 2 hC.1.2.2.2.2 gL_years_X5_draft rfl rfl rfl (by decide +kernel) ⟨Nat.le_of_ble_eq_true rfl, Nat.le_of_ble_eq_true rfl⟩) rfl (Nat.le_of_ble_eq_true rfl) ⟨Nat.le_of_ble_eq_true rfl, Nat.le_of_ble_eq_true rfl⟩ dL_years_458 (fun r458 m458 => ?_)
                                                                                    refine nr_sipush (v := 494) hC dL_years_461 (by decide) ?_
                                                                                    refine nr_icmp_ne (tgt := 509) hC dL_years_464 (by decide) (fun _ => ?_) (fun _ => ?_)
                                                                                    · refine nr_aload_n hC dL_years_467 rfl 0 rfl ?_
                                                                                      refine nr_iconst (v := 1) hC dL_years_468 (by decide) ?_
                                                                                      refine nr_bipush (v := 6) hC dL_years_469 (by decide) ?_
                                                                                      refine nr_callVi (As := [.int (1 : Int32), .int (6 : Int32)]) hC rfl (fun hI => tX5_flat (t1 := t1) (t2 := t2) hI n (1 : Int32) (6 : Int32) m458) (cwV 2 hC.1.2.2.2.2 gL_years_X5_flat rfl rfl rfl (by decide +kernel) ⟨Nat.le_of_ble_eq_true rfl, Nat.le_of_ble_eq_true rfl⟩) rfl (Nat.le_of_ble_eq_true rfl) ⟨Nat.le_of_ble_eq_true rfl, Nat.le_of_ble_eq_true rfl⟩ dL_years_471 (fun r471 m471 => ?_)
                                                                                      refine nr_bipush (v := 6) hC dL_years_474 (by decide) ?_
                                                                                      refine nr_icmp_ne (tgt := 509) hC dL_years_476 (by decide) (fun _ => ?_) (fun _ => ?_)
                                                                                      · refine nr_aload_n hC dL_years_479 rfl 0 rfl ?_
                                                                                        refine nr_iconst (v := 1) hC dL_years_480 (by decide) ?_
                                                                                        refine nr_bipush (v := 7) hC dL_years_481 (by decide) ?_
                                                                                        refine nr_callVi (As := [.int (1 : Int32), .int (7 : Int32)]) hC rfl (fun hI => tX5_flat (t1 := t1) (t2 := t2) hI n (1 : Int32) (7 : Int32) m471) (cwV 2 hC.1.2.2.2.2 gL_years_X5_flat rfl rfl rfl (by decide +kernel) ⟨Nat.le_of_ble_eq_true rfl, Nat.le_of_ble_eq_true rfl⟩) rfl (Nat.le_of_ble_eq_true rfl) ⟨Nat.le_of_ble_eq_true rfl, Nat.le_of_ble_eq_true rfl⟩ dL_years_483 (fun r483 m483 => ?_)
                                                                                        refine nr_sipush (v := 250) hC dL_years_486 (by decide) ?_
                                                                                        refine nr_icmp_ne (tgt := 509) hC dL_years_489 (by decide) (fun _ => ?_) (fun _ => ?_)
                                                                                        · refine nr_aload_n hC dL_years_492 rfl 0 rfl ?_
                                                                                          refine nr_bipush (v := 12) hC dL_years_493 (by decide) ?_
                                                                                          refine nr_callVi (As := [.int (12 : Int32)]) hC rfl (fun hI => tX5_count (t1 := t1) (t2 := t2) hI n (12 : Int32) m483) (cwV 1 hC.1.2.2.2.2 gL_years_X5_count rfl rfl rfl (by decide +kernel) ⟨Nat.le_of_ble_eq_true rfl, Nat.le_of_ble_eq_true rfl⟩) rfl (Nat.le_of_ble_eq_true rfl) ⟨Nat.le_of_ble_eq_true rfl, Nat.le_of_ble_eq_true rfl⟩ dL_years_495 (fun r495 m495 => ?_)
                                                                                          refine nr_iconst (v := 1) hC dL_years_498 (by decide) ?_
                                                                                          refine nr_icmp_ne (tgt := 509) hC dL_years_499 (by decide) (fun _ => ?_) (fun _ => ?_)
                                                                                          · refine nr_aload_n hC dL_years_502 rfl 0 rfl ?_
                                                                                            refine nr_callSi (As := [.ref (ad 228)]) hC rfl (fun hI => tL_refused (t1 := t1) (t2 := t2) hI n m495) (va_cwS 1 hC.1.2.2.2.2 gL_years_L_refused rfl rfl rfl (by decide +kernel) ⟨Nat.le_of_ble_eq_true rfl, Nat.le_of_ble_eq_true rfl⟩) rfl (Nat.le_of_ble_eq_true rfl) ⟨Nat.le_of_ble_eq_true rfl, Nat.le_of_ble_eq_true rfl⟩ dL_years_503 (fun r503 m503 => ?_)
                                                                                            refine nr_if_ne (tgt := 511) hC dL_years_506 (by decide) (fun _ => ?_) (fun _ => ?_)
                                                                                            · refine nr_iconst (v := 0) hC dL_years_509 (by decide) ?_
                                                                                              exact nr_iretz hC hr (Nat.le_of_ble_eq_true rfl) (Nat.le_of_ble_eq_true rfl) dL_years_510 rfl
                                                                                            · refine nr_aload_n hC dL_years_511 rfl 0 rfl ?_
                                                                                              refine nr_callVi (As := []) hC rfl (fun hI => tX5_close (t1 := t1) (t2 := t2) hI n m503) (cwV 0 hC.1.2.2.2.2 gL_years_X5_close rfl rfl rfl (by decide +kernel) ⟨Nat.le_of_ble_eq_true rfl, Nat.le_of_ble_eq_true rfl⟩) rfl (Nat.le_of_ble_eq_true rfl) ⟨Nat.le_of_ble_eq_true rfl, Nat.le_of_ble_eq_true rfl⟩ dL_years_512 (fun r512 m512 => ?_)
                                                                                              refine nr_if_ne (tgt := 780) hC dL_years_515 (by decide) (fun _ => ?_) (fun _ => ?_)
                                                                                              · refine nr_aload_n hC dL_years_518 rfl 0 rfl ?_
                                                                                                refine nr_iconst (v := 0) hC dL_years_519 (by decide) ?_
                                                                                                refine nr_callVi (As := [.int (0 : Int32)]) hC rfl (fun hI => tX5_count (t1 := t1) (t2 := t2) hI n (0 : Int32) m512) (cwV 1 hC.1.2.2.2.2 gL_years_X5_count rfl rfl rfl (by decide +kernel) ⟨Nat.le_of_ble_eq_true rfl, Nat.le_of_ble_eq_true rfl⟩) rfl (Nat.le_of_ble_eq_true rfl) ⟨Nat.le_of_ble_eq_true rfl, Nat.le_of_ble_eq_true rfl⟩ dL_years_520 (fun r520 m520 => ?_)
                                                                                                refine nr_iconst (v := 1) hC dL_years_523 (by decide) ?_
                                                                                                refine nr_icmp_ne (tgt := 780) hC dL_years_524 (by decide) (fun _ => ?_) (fun _ => ?_)
                                                                                                · refine nr_aload_n hC dL_years_527 rfl 0 rfl ?_
                                                                                                  refine nr_bipush (v := 10) hC dL_years_528 (by decide) ?_
                                                                                                  refine nr_callVi (As := [.int (10 : Int32)]) hC rfl (fun hI => tX5_count (t1 := t1) (t2 := t2) hI n (10 : Int32) m520) (cwV 1 hC.1.2.2.2.2 gL_years_X5_count rfl rfl rfl (by decide +kernel) ⟨Nat.le_of_ble_eq_true rfl, Nat.le_of_ble_eq_true rfl⟩) rfl (Nat.le_of_ble_eq_true rfl) ⟨Nat.le_of_ble_eq_true rfl, Nat.le_of_ble_eq_true rfl⟩ dL_years_530 (fun r530 m530 => ?_)
                                                                                                  refine nr_sipush (v := 1000) hC dL_years_533 (by decide) ?_
                                                                                                  refine nr_icmp_ne (tgt := 780) hC dL_years_536 (by decide) (fun _ => ?_) (fun _ => ?_)
                                                                                                  · refine nr_aload_n hC dL_years_539 rfl 0 rfl ?_
                                                                                                    refine nr_iconst (v := 4) hC dL_years_540 (by decide) ?_
                                                                                                    refine nr_callVi (As := [.int (4 : Int32)]) hC rfl (fun hI => tX5_count (t1 := t1) (t2 := t2) hI n (4 : Int32) m530) (cwV 1 hC.1.2.2.2.2 gL_years_X5_count rfl rfl rfl (by decide +kernel) ⟨Nat.le_of_ble_eq_true rfl, Nat.le_of_ble_eq_true rfl⟩) rfl (Nat.le_of_ble_eq_true rfl) ⟨Nat.le_of_ble_eq_true rfl, Nat.le_of_ble_eq_true rfl⟩ dL_years_541 (fun r541 m541 => ?_)
                                                                                                    refine nr_if_ne (tgt := 780) hC dL_years_544 (by decide) (fun _ => ?_) (fun _ => ?_)
                                                                                                    · refine nr_aload_n hC dL_years_547 rfl 0 rfl ?_
                                                                                                      refine nr_iconst (v := 0) hC dL_years_548 (by decide) ?_
                                                                                                      refine nr_iconst (v := 1) hC dL_years_549 (by decide) ?_
                                                                                                      refine nr_iconst (v := 0) hC dL_years_550 (by decide) ?_
                                                                                                      refine nr_iconst (v := 0) hC dL_years_551 (by decide) ?_
                                                                                                      refine nr_callVi (As := [.int (0 : Int32), .int (1 : Int32), .int (0 : Int32), .int (0 : Int32)]) hC rfl (fun hI => tX5_bill (t1 := t1) (t2 := t2) hI n (0 : Int32) (1 : Int32) (0 : Int32) (0 : Int32) m541) (cwV 4 hC.1.2.2.2.2 gL_years_X5_bill rfl rfl rfl (by decide +kernel) ⟨Nat.le_of_ble_eq_true rfl, Nat.le_of_ble_eq_true rfl⟩) rfl (Nat.le_of_ble_eq_true rfl) ⟨Nat.le_of_ble_eq_true rfl, Nat.le_of_ble_eq_true rfl⟩ dL_years_552 (fun r552 m552 => ?_)
                                                                                                      refine nr_sipush (v := 253) hC dL_years_555 (by decide) ?_
                                                                                                      refine nr_icmp_ne (tgt := 780) hC dL_years_558 (by decide) (fun _ => ?_) (fun _ => ?_)
                                                                                                      · refine nr_aload_n hC dL_years_561 rfl 0 rfl ?_
                                                                                                        refine nr_iconst (v := 0) hC dL_years_562 (by decide) ?_
                                                                                                        refine nr_iconst (v := 1) hC dL_years_563 (by decide) ?_
                                                                                                        refine nr_iconst (v := 1) hC dL_years_564 (by decide) ?_
                                                                                                        refine nr_iconst (v := 0) hC dL_years_565 (by decide) ?_
                                                                                                        refine nr_callVi (As := [.int (0 : Int32), .int (1 : Int32), .int (1 : Int32), .int (0 : Int32)]) hC rfl (fun hI => tX5_bill (t1 := t1) (t2 := t2) hI n (0 : Int32) (1 : Int32) (1 : Int32) (0 : Int32) m552) (cwV 4 hC.1.2.2.2.2 gL_years_X5_bill rfl rfl rfl (by decide +kernel) ⟨Nat.le_of_ble_eq_true rfl, Nat.le_of_ble_eq_true rfl⟩) rfl (Nat.le_of_ble_eq_true rfl) ⟨Nat.le_of_ble_eq_true rfl, Nat.le_of_ble_eq_true rfl⟩ dL_years_566 (fun r566 m566 => ?_)
                                                                                                        refine nr_sipush (v := 494) hC dL_years_569 (by decide) ?_
                                                                                                        refine nr_icmp_ne (tgt := 780) hC dL_years_572 (by decide) (fun _ => ?_) (fun _ => ?_)
                                                                                                        · refine nr_aload_n hC dL_years_575 rfl 0 rfl ?_
                                                                                                          refine nr_iconst (v := 0) hC dL_years_576 (by decide) ?_
                                                                                                          refine nr_iconst (v := 0) hC dL_years_577 (by decide) ?_
                                                                                                          refine nr_iconst (v := 0) hC dL_years_578 (by decide) ?_
                                                                                                          refine nr_iconst (v := 0) hC dL_years_579 (by decide) ?_
                                                                                                          refine nr_callVi (As := [.int (0 : Int32), .int (0 : Int32), .int (0 : Int32), .int (0 : Int32)]) hC rfl (fun hI => tX5_bill (t1 := t1) (t2 := t2) hI n (0 : Int32) (0 : Int32) (0 : Int32) (0 : Int32) m566) (cwV 4 hC.1.2.2.2.2 gL_years_X5_bill rfl rfl rfl (by decide +kernel) ⟨Nat.le_of_ble_eq_true rfl, Nat.le_of_ble_eq_true rfl⟩) rfl (Nat.le_of_ble_eq_true rfl) ⟨Nat.le_of_ble_eq_true rfl, Nat.le_of_ble_eq_true rfl⟩ dL_years_580 (fun r580 m580 => ?_)
                                                                                                          refine nr_sipush (v := 253) hC dL_years_583 (by decide) ?_
                                                                                                          refine nr_icmp_ne (tgt := 780) hC dL_years_586 (by decide) (fun _ => ?_) (fun _ => ?_)
                                                                                                          · refine nr_aload_n hC dL_years_589 rfl 0 rfl ?_
                                                                                                            refine nr_iconst (v := 0) hC dL_years_590 (by decide) ?_
                                                                                                            refine nr_iconst (v := 0) hC dL_years_591 (by decide) ?_
                                                                                                            refine nr_iconst (v := 1) hC dL_years_592 (by decide) ?_
                                                                                                            refine nr_iconst (v := 0) hC dL_years_593 (by decide) ?_
                                                                                                            refine nr_callVi (As := [.int (0 : Int32), .int (0 : Int32), .int (1 : Int32), .int (0 : Int32)]) hC rfl (fun hI => tX5_bill (t1 := t1) (t2 := t2) hI n (0 : Int32) (0 : Int32) (1 : Int32) (0 : Int32) m580) (cwV 4 hC.1.2.2.2.2 gL_years_X5_bill rfl rfl rfl (by decide +kernel) ⟨Nat.le_of_ble_eq_true rfl, Nat.le_of_ble_eq_true rfl⟩) rfl (Nat.le_of_ble_eq_true rfl) ⟨Nat.le_of_ble_eq_true rfl, Nat.le_of_ble_eq_true rfl⟩ dL_years_594 (fun r594 m594 => ?_)
                                                                                                            refine nr_iconst (v := -1) hC dL_years_597 (by decide) ?_
                                                                                                            refine nr_icmp_ne (tgt := 780) hC dL_years_598 (by decide) (fun _ => ?_) (fun _ => ?_)
                                                                                                            · refine nr_aload_n hC dL_years_601 rfl 0 rfl ?_
                                                                                                              refine nr_iconst (v := 0) hC dL_years_602 (by decide) ?_
                                                                                                              refine nr_iconst (v := 0) hC dL_years_603 (by decide) ?_
                                                                                                              refine nr_iconst (v := 0) hC dL_years_604 (by decide) ?_
                                                                                                              refine nr_iconst (v := 1) hC dL_years_605 (by decide) ?_
                                                                                                              refine nr_callVi (As := [.int (0 : Int32), .int (0 : Int32), .int (0 : Int32), .int (1 : Int32)]) hC rfl (fun hI => tX5_bill (t1 := t1) (t2 := t2) hI n (0 : Int32) (0 : Int32) (0 : Int32) (1 : Int32) m594) (cwV 4 hC.1.2.2.2.2 gL_years_X5_bill rfl rfl rfl (by decide +kernel) ⟨Nat.le_of_ble_eq_true rfl, Nat.le_of_ble_eq_true rfl⟩) rfl (Nat.le_of_ble_eq_true rfl) ⟨Nat.le_of_ble_eq_true rfl, Nat.le_of_ble_eq_true rfl⟩ dL_years_606 (fun r606 m606 => ?_)
                                                                                                              refine nr_ldc (v := 1000000) hC dL_years_609 hmL_years_98 ?_
                                                                                                              refine nr_icmp_ne (tgt := 780) hC dL_years_611 (by decide) (fun _ => ?_) (fun _ => ?_)
                                                                                                              · refine nr_aload_n hC dL_years_614 rfl 0 rfl ?_
                                                                                                                refine nr_iconst (v := 0) hC dL_years_615 (by decide) ?_
                                                                                                                refine nr_iconst (v := 2) hC dL_years_616 (by decide) ?_
                                                                                                                refine nr_callVi (As := [.int (0 : Int32), .int (2 : Int32)]) hC rfl (fun hI => tX5_units (t1 := t1) (t2 := t2) hI n (0 : Int32) (2 : Int32) m606) (cwV 2 hC.1.2.2.2.2 gL_years_X5_units rfl rfl rfl (by decide +kernel) ⟨Nat.le_of_ble_eq_true rfl, Nat.le_of_ble_eq_true rfl⟩) rfl (Nat.le_of_ble_eq_true rfl) ⟨Nat.le_of_ble_eq_true rfl, Nat.le_of_ble_eq_true rfl⟩ dL_years_617 (fun r617 m617 => ?_)
                                                                                                                refine nr_bipush (v := 50) hC dL_years_620 (by decide) ?_
                                                                                                                refine nr_icmp_ne (tgt := 780) hC dL_years_622 (by decide) (fun _ => ?_) (fun _ => ?_)
                                                                                                                · refine nr_aload_n hC dL_years_625 rfl 0 rfl ?_
                                                                                                                  refine nr_iconst (v := 2) hC dL_years_626 (by decide) ?_
                                                                                                                  refine nr_iconst (v := 2) hC dL_years_627 (by decide) ?_
                                                                                                                  refine nr_callVi (As := [.int (2 : Int32), .int (2 : Int32)]) hC rfl (fun hI => tX5_device (t1 := t1) (t2 := t2) hI n (2 : Int32) (2 : Int32) m617) (cwV 2 hC.1.2.2.2.2 gL_years_X5_device rfl rfl rfl (by decide +kernel) ⟨Nat.le_of_ble_eq_true rfl, Nat.le_of_ble_eq_true rfl⟩) rfl (Nat.le_of_ble_eq_true rfl) ⟨Nat.le_of_ble_eq_true rfl, Nat.le_of_ble_eq_true rfl⟩ dL_years_628 (fun r628 m628 => ?_)
                                                                                                                  refine nr_bipush (v := 10) hC dL_years_631 (by decide) ?_
                                                                                                                  refine nr_icmp_ne (tgt := 780) hC dL_years_633 (by decide) (fun _ => ?_) (fun _ => ?_)
                                                                                                                  · refine nr_aload_n hC dL_years_636 rfl 0 rfl ?_
                                                                                                                    refine nr_iconst (v := 2) hC dL_years_637 (by decide) ?_
                                                                                                                    refine nr_iconst (v := 3) hC dL_years_638 (by decide) ?_
                                                                                                                    refine nr_callVi (As := [.int (2 : Int32), .int (3 : Int32)]) hC rfl (fun hI => tX5_device (t1 := t1) (t2 := t2) hI n (2 : Int32) (3 : Int32) m628) (cwV 2 hC.1.2.2.2.2 gL_years_X5_device rfl rfl rfl (by decide +kernel) ⟨Nat.le_of_ble_eq_true rfl, Nat.le_of_ble_eq_true rfl⟩) rfl (Nat.le_of_ble_eq_true rfl) ⟨Nat.le_of_ble_eq_true rfl, Nat.le_of_ble_eq_true rfl⟩ dL_years_639 (fun r639 m639 => ?_)
                                                                                                                    refine nr_bipush (v := 10) hC dL_years_642 (by decide) ?_
                                                                                                                    refine nr_icmp_ne (tgt := 780) hC dL_years_644 (by decide) (fun _ => ?_) (fun _ => ?_)
                                                                                                                    · refine nr_aload_n hC dL_years_647 rfl 0 rfl ?_
                                                                                                                      refine nr_iconst (v := 2) hC dL_years_648 (by decide) ?_
                                                                                                                      refine nr_iconst (v := 4) hC dL_years_649 (by decide) ?_
                                                                                                                      refine nr_callVi (As := [.int (2 : Int32), .int (4 : Int32)]) hC rfl (fun hI => tX5_device (t1 := t1) (t2 := t2) hI n (2 : Int32) (4 : Int32) m639) (cwV 2 hC.1.2.2.2.2 gL_years_X5_device rfl rfl rfl (by decide +kernel) ⟨Nat.le_of_ble_eq_true rfl, Nat.le_of_ble_eq_true rfl⟩) rfl (Nat.le_of_ble_eq_true rfl) ⟨Nat.le_of_ble_eq_true rfl, Nat.le_of_ble_eq_true rfl⟩ dL_years_650 (fun r650 m650 => ?_)
                                                                                                                      refine nr_iconst (v := 1) hC dL_years_653 (by decide) ?_
                                                                                                                      refine nr_icmp_ne (tgt := 780) hC dL_years_654 (by decide) (fun _ => ?_) (fun _ => ?_)
                                                                                                                      · refine nr_aload_n hC dL_years_657 rfl 0 rfl ?_
                                                                                                                        refine nr_iconst (v := 2) hC dL_years_658 (by decide) ?_
                                                                                                                        refine nr_iconst (v := 5) hC dL_years_659 (by decide) ?_
                                                                                                                        refine nr_callVi (As := [.int (2 : Int32), .int (5 : Int32)]) hC rfl (fun hI => tX5_device (t1 := t1) (t2 := t2) hI n (2 : Int32) (5 : Int32) m650) (cwV 2 hC.1.2.2.2.2 gL_years_X5_device rfl rfl rfl (by decide +kernel) ⟨Nat.le_of_ble_eq_true rfl, Nat.le_of_ble_eq_true rfl⟩) rfl (Nat.le_of_ble_eq_true rfl) ⟨Nat.le_of_ble_eq_true rfl, Nat.le_of_ble_eq_true rfl⟩ dL_years_660 (fun r660 m660 => ?_)
                                                                                                                        refine nr_if_ne (tgt := 780) hC dL_years_663 (by decide) (fun _ => ?_) (fun _ => ?_)
                                                                                                                        · refine nr_aload_n hC dL_years_666 rfl 0 rfl ?_
                                                                                                                          refine nr_iconst (v := 1) hC dL_years_667 (by decide) ?_
                                                                                                                          refine nr_bipush (v := 6) hC dL_years_668 (by decide) ?_
                                                                                                                          refine nr_callVi (As := [.int (1 : Int32), .int (6 : Int32)]) hC rfl (fun hI => tX5_flat (t1 := t1) (t2 := t2) hI n (1 : Int32) (6 : Int32) m660) (cwV 2 hC.1.2.2.2.2 gL_years_X5_flat rfl rfl rfl (by decide +kernel) ⟨Nat.le_of_ble_eq_true rfl, Nat.le_of_ble_eq_true rfl⟩) rfl (Nat.le_of_ble_eq_true rfl) ⟨Nat.le_of_ble_eq_true rfl, Nat.le_of_ble_eq_true rfl⟩ dL_years_670 (fun r670 m670 => ?_)
                                                                                                                          refine nr_bipush (v := -5) hC dL_years_673 (by decide) ?_
                                                                                                                          refine nr_icmp_ne (tgt := 780) hC dL_years_675 (by decide) (fun _ => ?_) (fun _ => ?_)
                                                                                                                          · refine nr_aload_n hC dL_years_678 rfl 0 rfl ?_
                                                                                                                            refine nr_iconst (v := 1) hC dL_years_679 (by decide) ?_
                                                                                                                            refine nr_bipush (v := 7) hC dL_years_680 (by decide) ?_
                                                                                                                            refine nr_callVi (As := [.int (1 : Int32), .int (7 : Int32)]) hC rfl (fun hI => tX5_flat (t1 := t1) (t2 := t2) hI n (1 : Int32) (7 : Int32) m670) (cwV 2 hC.1.2.2.2.2 gL_years_X5_flat rfl rfl rfl (by decide +kernel) ⟨Nat.le_of_ble_eq_true rfl, Nat.le_of_ble_eq_true rfl⟩) rfl (Nat.le_of_ble_eq_true rfl) ⟨Nat.le_of_ble_eq_true rfl, Nat.le_of_ble_eq_true rfl⟩ dL_years_682 (fun r682 m682 => ?_)
                                                                                                                            refine nr_bipush (v := -5) hC dL_years_685 (by decide) ?_
                                                                                                                            refine nr_icmp_ne (tgt := 780) hC dL_years_687 (by decide) (fun _ => ?_) (fun _ => ?_)
                                                                                                                            · refine nr_aload_n hC dL_years_690 rfl 0 rfl ?_
                                                                                                                              refine nr_bipush (v := 12) hC dL_years_691 (by decide) ?_
                                                                                                                              refine nr_callVi (As := [.int (12 : Int32)]) hC rfl (fun hI => tX5_count (t1 := t1) (t2 := t2) hI n (12 : Int32) m682) (cwV 1 hC.1.2.2.2.2 gL_years_X5_count rfl rfl rfl (by decide +kernel) ⟨Nat.le_of_ble_eq_true rfl, Nat.le_of_ble_eq_true rfl⟩) rfl (Nat.le_of_ble_eq_true rfl) ⟨Nat.le_of_ble_eq_true rfl, Nat.le_of_ble_eq_true rfl⟩ dL_years_693 (fun r693 m693 => ?_)
                                                                                                                              refine nr_if_ne (tgt := 780) hC dL_years_696 (by decide) (fun _ => ?_) (fun _ => ?_)
                                                                                                                              · refine nr_aload_n hC dL_years_699 rfl 0 rfl ?_
                                                                                                                                refine nr_iconst (v := 5) hC dL_years_700 (by decide) ?_
                                                                                                                                refine nr_callVi (As := [.int (5 : Int32)]) hC rfl (fun hI => tX5_addFlat (t1 := t1) (t2 := t2) hI n (5 : Int32) m693) (cwV 1 hC.1.2.2.2.2 gL_years_X5_addFlat rfl rfl rfl (by decide +kernel) ⟨Nat.le_of_ble_eq_true rfl, Nat.le_of_ble_eq_true rfl⟩) rfl (Nat.le_of_ble_eq_true rfl) ⟨Nat.le_of_ble_eq_true rfl, Nat.le_of_ble_eq_true rfl⟩ dL_years_701 (fun r701 m701 => ?_)
                                                                                                                                refine nr_bipush (v := -4) hC dL_years_704 (by decide) ?_
                                                                                                                                refine nr_icmp_ne (tgt := 780) hC dL_years_706 (by decide) (fun _ => ?_) (fun _ => ?_)
                                                                                                                                · refine nr_aload_n hC dL_years_709 rfl 0 rfl ?_
                                                                                                                                  refine nr_iconst (v := 0) hC dL_years_710 (by decide) ?_
                                                                                                                                  refine nr_bipush (v := 9) hC dL_years_711 (by decide) ?_
                                                                                                                                  refine nr_callVi (As := [.int (0 : Int32), .int (9 : Int32)]) hC rfl (fun hI => tX5_read (t1 := t1) (t2 := t2) hI n (0 : Int32) (9 : Int32) m701) (cwV 2 hC.1.2.2.2.2 gL_years_X5_read rfl rfl rfl (by decide +kernel) ⟨Nat.le_of_ble_eq_true rfl, Nat.le_of_ble_eq_true rfl⟩) rfl (Nat.le_of_ble_eq_true rfl) ⟨Nat.le_of_ble_eq_true rfl, Nat.le_of_ble_eq_true rfl⟩ dL_years_713 (fun r713 m713 => ?_)
                                                                                                                                  refine nr_bipush (v := -4) hC dL_years_716 (by decide) ?_
                                                                                                                                  refine nr_icmp_ne (tgt := 780) hC dL_years_718 (by decide) (fun _ => ?_) (fun _ => ?_)
                                                                                                                                  · refine nr_aload_n hC dL_years_721 rfl 0 rfl ?_
                                                                                                                                    refine nr_iconst (v := 2) hC dL_years_722 (by decide) ?_
                                                                                                                                    refine nr_iconst (v := 1) hC dL_years_723 (by decide) ?_
                                                                                                                                    refine nr_callVi (As := [.int (2 : Int32), .int (1 : Int32)]) hC rfl (fun hI => tX5_set (t1 := t1) (t2 := t2) hI n (2 : Int32) (1 : Int32) m713) (cwV 2 hC.1.2.2.2.2 gL_years_X5_set rfl rfl rfl (by decide +kernel) ⟨Nat.le_of_ble_eq_true rfl, Nat.le_of_ble_eq_true rfl⟩) rfl (Nat.le_of_ble_eq_true rfl) ⟨Nat.le_of_ble_eq_true rfl, Nat.le_of_ble_eq_true rfl⟩ dL_years_724 (fun r724 m724 => ?_)
                                                                                                                                    refine nr_if_ne (tgt := 780) hC dL_years_727 (by decide) (fun _ => ?_) (fun _ => ?_)
                                                                                                                                    · refine nr_aload_n hC dL_years_730 rfl 0 rfl ?_
                                                                                                                                      refine nr_iconst (v := 2) hC dL_years_731 (by decide) ?_
                                                                                                                                      refine nr_iconst (v := 5) hC dL_years_732 (by decide) ?_
                                                                                                                                      refine nr_callVi (As := [.int (2 : Int32), .int (5 : Int32)]) hC rfl (fun hI => tX5_device (t1 := t1) (t2 := t2) hI n (2 : Int32) (5 : Int32) m724) (cwV 2 hC.1.2.2.2.2 gL_years_X5_device rfl rfl rfl (by decide +kernel) ⟨Nat.le_of_ble_eq_true rfl, Nat.le_of_ble_eq_true rfl⟩) rfl (Nat.le_of_ble_eq_true rfl) ⟨Nat.le_of_ble_eq_true rfl, Nat.le_of_ble_eq_true rfl⟩ dL_years_733 (fun r733 m733 => ?_)
                                                                                                                                      refine nr_bipush (v := 50) hC dL_years_736 (by decide) ?_
                                                                                                                                      refine nr_icmp_ne (tgt := 780) hC dL_years_738 (by decide) (fun _ => ?_) (fun _ => ?_)
                                                                                                                                      · refine nr_aload_n hC dL_years_741 rfl 0 rfl ?_
                                                                                                                                        refine nr_iconst (v := 0) hC dL_years_742 (by decide) ?_
                                                                                                                                        refine nr_iconst (v := 1) hC dL_years_743 (by decide) ?_
                                                                                                                                        refine nr_callVi (As := [.int (0 : Int32), .int (1 : Int32)]) hC rfl (fun hI => tX5_addDevice (t1 := t1) (t2 := t2) hI n (0 : Int32) (1 : Int32) m733) (cwV 2 hC.1.2.2.2.2 gL_years_X5_addDevice rfl rfl rfl (by decide +kernel) ⟨Nat.le_of_ble_eq_true rfl, Nat.le_of_ble_eq_true rfl⟩) rfl (Nat.le_of_ble_eq_true rfl) ⟨Nat.le_of_ble_eq_true rfl, Nat.le_of_ble_eq_true rfl⟩ dL_years_744 (fun r744 m744 => ?_)
                                                                                                                                        refine nr_iconst (v := 3) hC dL_years_747 (by decide) ?_
                                                                                                                                        refine nr_icmp_ne (tgt := 780) hC dL_years_748 (by decide) (fun _ => ?_) (fun _ => ?_)
                                                                                                                                        · refine nr_aload_n hC dL_years_751 rfl 0 rfl ?_
                                                                                                                                          refine nr_iconst (v := 0) hC dL_years_752 (by decide) ?_
                                                                                                                                          refine nr_iconst (v := 3) hC dL_years_753 (by decide) ?_
                                                                                                                                          refine nr_callVi (As := [.int (0 : Int32), .int (3 : Int32)]) hC rfl (fun hI => tX5_units (t1 := t1) (t2 := t2) hI n (0 : Int32) (3 : Int32) m744) (cwV 2 hC.1.2.2.2.2 gL_years_X5_units rfl rfl rfl (by decide +kernel) ⟨Nat.le_of_ble_eq_true rfl, Nat.le_of_ble_eq_true rfl⟩) rfl (Nat.le_of_ble_eq_true rfl) ⟨Nat.le_of_ble_eq_true rfl, Nat.le_of_ble_eq_true rfl⟩ dL_years_754 (fun r754 m754 => ?_)
                                                                                                                                          refine nr_iconst (v := -1) hC dL_years_757 (by decide) ?_
                                                                                                                                          refine nr_icmp_ne (tgt := 780) hC dL_years_758 (by decide) (fun _ => ?_) (fun _ => ?_)
                                                                                                                                          · refine nr_aload_n hC dL_years_761 rfl 0 rfl ?_
                                                                                                                                            refine nr_iconst (v := 3) hC dL_years_762 (by decide) ?_
                                                                                                                                            refine nr_iconst (v := 1) hC dL_years_763 (by decide) ?_
                                                                                                                                            refine nr_callVi (As := [.int (3 : Int32), .int (1 : Int32)]) hC rfl (fun hI => tX5_mark (t1 := t1) (t2 := t2) hI n (3 : Int32) (1 : Int32) m754) (cwV 2 hC.1.2.2.2.2 gL_years_X5_mark rfl rfl rfl (by decide +kernel) ⟨Nat.le_of_ble_eq_true rfl, Nat.le_of_ble_eq_true rfl⟩) rfl (Nat.le_of_ble_eq_true rfl) ⟨Nat.le_of_ble_eq_true rfl, Nat.le_of_ble_eq_true rfl⟩ dL_years_764 (fun r764 m764 => ?_)
                                                                                                                                            refine nr_iconst (v := 2) hC dL_years_767 (by decide) ?_
                                                                                                                                            refine nr_icmp_ne (tgt := 780) hC dL_years_768 (by decide) (fun _ => ?_) (fun _ => ?_)
                                                                                                                                            · refine nr_aload_n hC dL_years_771 rfl 0 rfl ?_
                                                                                                                                              refine nr_iconst (v := 3) hC dL_years_772 (by decide) ?_
                                                                                                                                              refine nr_iconst (v := 5) hC dL_years_773 (by decide) ?_
                                                                                                                                              refine nr_callVi (As := [.int (3 : Int32), .int (5 : Int32)]) hC rfl (fun hI => tX5_device (t1 := t1) (t2 := t2) hI n (3 : Int32) (5 : Int32) m764) (cwV 2 hC.1.2.2.2.2 gL_years_X5_device rfl rfl rfl (by decide +kernel) ⟨Nat.le_of_ble_eq_true rfl, Nat.le_of_ble_eq_true rfl⟩) rfl (Nat.le_of_ble_eq_true rfl) ⟨Nat.le_of_ble_eq_true rfl, Nat.le_of_ble_eq_true rfl⟩ dL_years_774 (fun r774 m774 => ?_)
                                                                                                                                              refine nr_if_eq (tgt := 782) hC dL_years_777 (by decide) (fun _ => ?_) (fun _ => ?_)
                                                                                                                                              · refine nr_aload_n hC dL_years_782 rfl 0 rfl ?_
                                                                                                                                                refine nr_iconst (v := 0) hC dL_years_783 (by decide) ?_
                                                                                                                                                refine nr_iconst (v := 2) hC dL_years_784 (by decide) ?_
                                                                                                                                                refine nr_bipush (v := 10) hC dL_years_785 (by decide) ?_
                                                                                                                                                refine nr_callVi (As := [.int (0 : Int32), .int (2 : Int32), .int (10 : Int32)]) hC rfl (fun hI => tX5_correct (t1 := t1) (t2 := t2) hI n (0 : Int32) (2 : Int32) (10 : Int32) m774) (cwV 3 hC.1.2.2.2.2 gL_years_X5_correct rfl rfl rfl (by decide +kernel) ⟨Nat.le_of_ble_eq_true rfl, Nat.le_of_ble_eq_true rfl⟩) rfl (Nat.le_of_ble_eq_true rfl) ⟨Nat.le_of_ble_eq_true rfl, Nat.le_of_ble_eq_true rfl⟩ dL_years_787 (fun r787 m787 => ?_)
                                                                                                                                                refine nr_iconst (v := 3) hC dL_years_790 (by decide) ?_
                                                                                                                                                refine nr_icmp_ne (tgt := 1001) hC dL_years_791 (by decide) (fun _ => ?_) (fun _ => ?_)
                                                                                                                                                · refine nr_aload_n hC dL_years_794 rfl 0 rfl ?_
                                                                                                                                                  refine nr_iconst (v := 0) hC dL_years_795 (by decide) ?_
                                                                                                                                                  refine nr_iconst (v := 0) hC dL_years_796 (by decide) ?_
                                                                                                                                                  refine nr_iconst (v := 0) hC dL_years_797 (by decide) ?_
                                                                                                                                                  refine nr_iconst (v := 0) hC dL_years_798 (by decide) ?_
                                                                                                                                                  refine nr_callVi (As := [.int (0 : Int32), .int (0 : Int32), .int (0 : Int32), .int (0 : Int32)]) hC rfl (fun hI => tX5_bill (t1 := t1) (t2 := t2) hI n (0 : Int32) (0 : Int32) (0 : Int32) (0 : Int32) m787) (cwV 4 hC.1.2.2.2.2 gL_years_X5_bill rfl rfl rfl (by decide +kernel) ⟨Nat.le_of_ble_eq_true rfl, Nat.le_of_ble_eq_true rfl⟩) rfl (Nat.le_of_ble_eq_true rfl) ⟨Nat.le_of_ble_eq_true rfl, Nat.le_of_ble_eq_true rfl⟩ dL_years_799 (fun r799 m799 => ?_)
                                                                                                                                                  refine nr_sipush (v := 333) hC dL_years_802 (by decide) ?_
                                                                                                                                                  refine nr_icmp_ne (tgt := 1001) hC dL_years_805 (by decide) (fun _ => ?_) (fun _ => ?_)
                                                                                                                                                  · refine nr_aload_n hC dL_years_808 rfl 0 rfl ?_
                                                                                                                                                    refine nr_iconst (v := 0) hC dL_years_809 (by decide) ?_
                                                                                                                                                    refine nr_iconst (v := 1) hC dL_years_810 (by decide) ?_
                                                                                                                                                    refine nr_iconst (v := 0) hC dL_years_811 (by decide) ?_
                                                                                                                                                    refine nr_iconst (v := 0) hC dL_years_812 (by decide) ?_
                                                                                                                                                    refine nr_callVi (As := [.int (0 : Int32), .int (1 : Int32), .int (0 : Int32), .int (0 : Int32)]) hC rfl (fun hI => tX5_bill (t1 := t1) (t2 := t2) hI n (0 : Int32) (1 : Int32) (0 : Int32) (0 : Int32) m799) (cwV 4 hC.1.2.2.2.2 gL_years_X5_bill rfl rfl rfl (by decide +kernel) ⟨Nat.le_of_ble_eq_true rfl, Nat.le_of_ble_eq_true rfl⟩) rfl (Nat.le_of_ble_eq_true rfl) ⟨Nat.le_of_ble_eq_true rfl, Nat.le_of_ble_eq_true rfl⟩ dL_years_813 (fun r813 m813 => ?_)
                                                                                                                                                    refine nr_sipush (v := 233) hC dL_years_816 (by decide) ?_
                                                                                                                                                    refine nr_icmp_ne (tgt := 1001) hC dL_years_819 (by decide) (fun _ => ?_) (fun _ => ?_)
                                                                                                                                                    · refine nr_aload_n hC dL_years_822 rfl 0 rfl ?_
                                                                                                                                                      refine nr_iconst (v := 0) hC dL_years_823 (by decide) ?_
                                                                                                                                                      refine nr_iconst (v := 1) hC dL_years_824 (by decide) ?_
                                                                                                                                                      refine nr_iconst (v := 1) hC dL_years_825 (by decide) ?_
                                                                                                                                                      refine nr_iconst (v := 0) hC dL_years_826 (by decide) ?_
                                                                                                                                                      refine nr_callVi (As := [.int (0 : Int32), .int (1 : Int32), .int (1 : Int32), .int (0 : Int32)]) hC rfl (fun hI => tX5_bill (t1 := t1) (t2 := t2) hI n (0 : Int32) (1 : Int32) (1 : Int32) (0 : Int32) m813) (cwV 4 hC.1.2.2.2.2 gL_years_X5_bill rfl rfl rfl (by decide +kernel) ⟨Nat.le_of_ble_eq_true rfl, Nat.le_of_ble_eq_true rfl⟩) rfl (Nat.le_of_ble_eq_true rfl) ⟨Nat.le_of_ble_eq_true rfl, Nat.le_of_ble_eq_true rfl⟩ dL_years_827 (fun r827 m827 => ?_)
                                                                                                                                                      refine nr_sipush (v := 434) hC dL_years_830 (by decide) ?_
                                                                                                                                                      refine nr_icmp_ne (tgt := 1001) hC dL_years_833 (by decide) (fun _ => ?_) (fun _ => ?_)
                                                                                                                                                      · refine nr_aload_n hC dL_years_836 rfl 0 rfl ?_
                                                                                                                                                        refine nr_iconst (v := 0) hC dL_years_837 (by decide) ?_
                                                                                                                                                        refine nr_iconst (v := 0) hC dL_years_838 (by decide) ?_
                                                                                                                                                        refine nr_iconst (v := 0) hC dL_years_839 (by decide) ?_
                                                                                                                                                        refine nr_iconst (v := 1) hC dL_years_840 (by decide) ?_
                                                                                                                                                        refine nr_callVi (As := [.int (0 : Int32), .int (0 : Int32), .int (0 : Int32), .int (1 : Int32)]) hC rfl (fun hI => tX5_bill (t1 := t1) (t2 := t2) hI n (0 : Int32) (0 : Int32) (0 : Int32) (1 : Int32) m827) (cwV 4 hC.1.2.2.2.2 gL_years_X5_bill rfl rfl rfl (by decide +kernel) ⟨Nat.le_of_ble_eq_true rfl, Nat.le_of_ble_eq_true rfl⟩) rfl (Nat.le_of_ble_eq_true rfl) ⟨Nat.le_of_ble_eq_true rfl, Nat.le_of_ble_eq_true rfl⟩ dL_years_841 (fun r841 m841 => ?_)
                                                                                                                                                        refine nr_ldc (v := 1000080) hC dL_years_844 hmL_years_99 ?_
                                                                                                                                                        refine nr_icmp_ne (tgt := 1001) hC dL_years_846 (by decide) (fun _ => ?_) (fun _ => ?_)
                                                                                                                                                        · refine nr_aload_n hC dL_years_849 rfl 0 rfl ?_
                                                                                                                                                          refine nr_iconst (v := 0) hC dL_years_850 (by decide) ?_
                                                                                                                                                          refine nr_iconst (v := 1) hC dL_years_851 (by decide) ?_
                                                                                                                                                          refine nr_iconst (v := 0) hC dL_years_852 (by decide) ?_
                                                                                                                                                          refine nr_iconst (v := 1) hC dL_years_853 (by decide) ?_
                                                                                                                                                          refine nr_callVi (As := [.int (0 : Int32), .int (1 : Int32), .int (0 : Int32), .int (1 : Int32)]) hC rfl (fun hI => tX5_bill (t1 := t1) (t2 := t2) hI n (0 : Int32) (1 : Int32) (0 : Int32) (1 : Int32) m841) (cwV 4 hC.1.2.2.2.2 gL_years_X5_bill rfl rfl rfl (by decide +kernel) ⟨Nat.le_of_ble_eq_true rfl, Nat.le_of_ble_eq_true rfl⟩) rfl (Nat.le_of_ble_eq_true rfl) ⟨Nat.le_of_ble_eq_true rfl, Nat.le_of_ble_eq_true rfl⟩ dL_years_854 (fun r854 m854 => ?_)
                                                                                                                                                          refine nr_ldc (v := 999980) hC dL_years_857 hmL_years_100 ?_
                                                                                                                                                          refine nr_icmp_ne (tgt := 1001) hC dL_years_859 (by decide) (fun _ => ?_) (fun _ => ?_)
                                                                                                                                                          · refine nr_aload_n hC dL_years_862 rfl 0 rfl ?_
                                                                                                                                                            refine nr_iconst (v := 0) hC dL_years_863 (by decide) ?_
                                                                                                                                                            refine nr_iconst (v := 1) hC dL_years_864 (by decide) ?_
                                                                                                                                                            refine nr_iconst (v := 1) hC dL_years_865 (by decide) ?_
                                                                                                                                                            refine nr_iconst (v := 1) hC dL_years_866 (by decide) ?_
                                                                                                                                                            refine nr_callVi (As := [.int (0 : Int32), .int (1 : Int32), .int (1 : Int32), .int (1 : Int32)]) hC rfl (fun hI => tX5_bill (t1 := t1) (t2 := t2) hI n (0 : Int32) (1 : Int32) (1 : Int32) (1 : Int32) m854) (cwV 4 hC.1.2.2.2.2 gL_years_X5_bill rfl rfl rfl (by decide +kernel) ⟨Nat.le_of_ble_eq_true rfl, Nat.le_of_ble_eq_true rfl⟩) rfl (Nat.le_of_ble_eq_true rfl) ⟨Nat.le_of_ble_eq_true rfl, Nat.le_of_ble_eq_true rfl⟩ dL_years_867 (fun r867 m867 => ?_)
                                                                                                                                                            refine nr_ldc (v := 999940) hC dL_years_870 hmL_years_101 ?_
                                                                                                                                                            refine nr_icmp_ne (tgt := 1001) hC dL_years_872 (by decide) (fun _ => ?_) (fun _ => ?_)
                                                                                                                                                            · refine nr_aload_n hC dL_years_875 rfl 0 rfl ?_
                                                                                                                                                              refine nr_iconst (v := 2) hC dL_years_876 (by decide) ?_
                                                                                                                                                              refine nr_iconst (v := 5) hC dL_years_877 (by decide) ?_
                                                                                                                                                              refine nr_callVi (As := [.int (2 : Int32), .int (5 : Int32)]) hC rfl (fun hI => tX5_device (t1 := t1) (t2 := t2) hI n (2 : Int32) (5 : Int32) m867) (cwV 2 hC.1.2.2.2.2 gL_years_X5_device rfl rfl rfl (by decide +kernel) ⟨Nat.le_of_ble_eq_true rfl, Nat.le_of_ble_eq_true rfl⟩) rfl (Nat.le_of_ble_eq_true rfl) ⟨Nat.le_of_ble_eq_true rfl, Nat.le_of_ble_eq_true rfl⟩ dL_years_878 (fun r878 m878 => ?_)
                                                                                                                                                              refine nr_bipush (v := 10) hC dL_years_881 (by decide) ?_
                                                                                                                                                              refine nr_icmp_ne (tgt := 1001) hC dL_years_883 (by decide) (fun _ => ?_) (fun _ => ?_)
                                                                                                                                                              · refine nr_aload_n hC dL_years_886 rfl 0 rfl ?_
                                                                                                                                                                refine nr_bipush (v := 10) hC dL_years_887 (by decide) ?_
                                                                                                                                                                refine nr_callVi (As := [.int (10 : Int32)]) hC rfl (fun hI => tX5_count (t1 := t1) (t2 := t2) hI n (10 : Int32) m878) (cwV 1 hC.1.2.2.2.2 gL_years_X5_count rfl rfl rfl (by decide +kernel) ⟨Nat.le_of_ble_eq_true rfl, Nat.le_of_ble_eq_true rfl⟩) rfl (Nat.le_of_ble_eq_true rfl) ⟨Nat.le_of_ble_eq_true rfl, Nat.le_of_ble_eq_true rfl⟩ dL_years_889 (fun r889 m889 => ?_)
                                                                                                                                                                refine nr_sipush (v := 1000) hC dL_years_892 (by decide) ?_
                                                                                                                                                                refine nr_icmp_ne (tgt := 1001) hC dL_years_895 (by decide) (fun _ => ?_) (fun _ => ?_)
                                                                                                                                                                · refine nr_aload_n hC dL_years_898 rfl 0 rfl ?_
                                                                                                                                                                  refine nr_bipush (v := 11) hC dL_years_899 (by decide) ?_
                                                                                                                                                                  refine nr_callVi (As := [.int (11 : Int32)]) hC rfl (fun hI => tX5_count (t1 := t1) (t2 := t2) hI n (11 : Int32) m889) (cwV 1 hC.1.2.2.2.2 gL_years_X5_count rfl rfl rfl (by decide +kernel) ⟨Nat.le_of_ble_eq_true rfl, Nat.le_of_ble_eq_true rfl⟩) rfl (Nat.le_of_ble_eq_true rfl) ⟨Nat.le_of_ble_eq_true rfl, Nat.le_of_ble_eq_true rfl⟩ dL_years_901 (fun r901 m901 => ?_)
                                                                                                                                                                  refine nr_iconst (v := 1) hC dL_years_904 (by decide) ?_
                                                                                                                                                                  refine nr_icmp_ne (tgt := 1001) hC dL_years_905 (by decide) (fun _ => ?_) (fun _ => ?_)
                                                                                                                                                                  · refine nr_aload_n hC dL_years_908 rfl 0 rfl ?_
                                                                                                                                                                    refine nr_iconst (v := 0) hC dL_years_909 (by decide) ?_
                                                                                                                                                                    refine nr_sipush (v := 300) hC dL_years_910 (by decide) ?_
                                                                                                                                                                    refine nr_callVi (As := [.int (0 : Int32), .int (300 : Int32)]) hC rfl (fun hI => tX5_set (t1 := t1) (t2 := t2) hI n (0 : Int32) (300 : Int32) m901) (cwV 2 hC.1.2.2.2.2 gL_years_X5_set rfl rfl rfl (by decide +kernel) ⟨Nat.le_of_ble_eq_true rfl, Nat.le_of_ble_eq_true rfl⟩) rfl (Nat.le_of_ble_eq_true rfl) ⟨Nat.le_of_ble_eq_true rfl, Nat.le_of_ble_eq_true rfl⟩ dL_years_913 (fun r913 m913 => ?_)
                                                                                                                                                                    refine nr_if_ne (tgt := 1001) hC dL_years_916 (by decide) (fun _ => ?_) (fun _ => ?_)
                                                                                                                                                                    · refine nr_aload_n hC dL_years_919 rfl 0 rfl ?_
                                                                                                                                                                      refine nr_iconst (v := 0) hC dL_years_920 (by decide) ?_
                                                                                                                                                                      refine nr_iconst (v := 5) hC dL_years_921 (by decide) ?_
                                                                                                                                                                      refine nr_callVi (As := [.int (0 : Int32), .int (5 : Int32)]) hC rfl (fun hI => tX5_flat (t1 := t1) (t2 := t2) hI n (0 : Int32) (5 : Int32) m913) (cwV 2 hC.1.2.2.2.2 gL_years_X5_flat rfl rfl rfl (by decide +kernel) ⟨Nat.le_of_ble_eq_true rfl, Nat.le_of_ble_eq_true rfl⟩) rfl (Nat.le_of_ble_eq_true rfl) ⟨Nat.le_of_ble_eq_true rfl, Nat.le_of_ble_eq_true rfl⟩ dL_years_922 (fun r922 m922 => ?_)
                                                                                                                                                                      refine nr_bipush (v := 40) hC dL_years_925 (by decide) ?_
                                                                                                                                                                      refine nr_icmp_ne (tgt := 1001) hC dL_years_927 (by decide) (fun _ => ?_) (fun _ => ?_)
                                                                                                                                                                      · refine nr_aload_n hC dL_years_930 rfl 0 rfl ?_
                                                                                                                                                                        refine nr_iconst (v := 1) hC dL_years_931 (by decide) ?_
                                                                                                                                                                        refine nr_iconst (v := 5) hC dL_years_932 (by decide) ?_
                                                                                                                                                                        refine nr_callVi (As := [.int (1 : Int32), .int (5 : Int32)]) hC rfl (fun hI => tX5_flat (t1 := t1) (t2 := t2) hI n (1 : Int32) (5 : Int32) m922) (cwV 2 hC.1.2.2.2.2 gL_years_X5_flat rfl rfl rfl (by decide +kernel) ⟨Nat.le_of_ble_eq_true rfl, Nat.le_of_ble_eq_true rfl⟩) rfl (Nat.le_of_ble_eq_true rfl) ⟨Nat.le_of_ble_eq_true rfl, Nat.le_of_ble_eq_true rfl⟩ dL_years_933 (fun r933 m933 => ?_)
                                                                                                                                                                        refine nr_sipush (v := 260) hC dL_years_936 (by decide) ?_
                                                                                                                                                                        refine nr_icmp_ne (tgt := 1001) hC dL_years_939 (by decide) (fun _ => ?_) (fun _ => ?_)
                                                                                                                                                                        · refine nr_aload_n hC dL_years_942 rfl 0 rfl ?_
                                                                                                                                                                          refine nr_iconst (v := 0) hC dL_years_943 (by decide) ?_
                                                                                                                                                                          refine nr_bipush (v := 100) hC dL_years_944 (by decide) ?_
                                                                                                                                                                          refine nr_callVi (As := [.int (0 : Int32), .int (100 : Int32)]) hC rfl (fun hI => tX5_billIf (t1 := t1) (t2 := t2) hI n (0 : Int32) (100 : Int32) m933) (cwV 2 hC.1.2.2.2.2 gL_years_X5_billIf rfl rfl rfl (by decide +kernel) ⟨Nat.le_of_ble_eq_true rfl, Nat.le_of_ble_eq_true rfl⟩) rfl (Nat.le_of_ble_eq_true rfl) ⟨Nat.le_of_ble_eq_true rfl, Nat.le_of_ble_eq_true rfl⟩ dL_years_946 (fun r946 m946 => ?_)
                                                                                                                                                                          refine nr_bipush (v := 100) hC dL_years_949 (by decide) ?_
                                                                                                                                                                          refine nr_icmp_ne (tgt := 1001) hC dL_years_951 (by decide) (fun _ => ?_) (fun _ => ?_)
                                                                                                                                                                          · refine nr_aload_n hC dL_years_954 rfl 0 rfl ?_
                                                                                                                                                                            refine nr_iconst (v := 0) hC dL_years_955 (by decide) ?_
                                                                                                                                                                            refine nr_iconst (v := 0) hC dL_years_956 (by decide) ?_
                                                                                                                                                                            refine nr_callVi (As := [.int (0 : Int32), .int (0 : Int32)]) hC rfl (fun hI => tX5_billIf (t1 := t1) (t2 := t2) hI n (0 : Int32) (0 : Int32) m946) (cwV 2 hC.1.2.2.2.2 gL_years_X5_billIf rfl rfl rfl (by decide +kernel) ⟨Nat.le_of_ble_eq_true rfl, Nat.le_of_ble_eq_true rfl⟩) rfl (Nat.le_of_ble_eq_true rfl) ⟨Nat.le_of_ble_eq_true rfl, Nat.le_of_ble_eq_true rfl⟩ dL_years_957 (fun r957 m957 => ?_)
                                                                                                                                                                            refine nr_if_ne (tgt := 1001) hC dL_years_960 (by decide) (fun _ => ?_) (fun _ => ?_)
                                                                                                                                                                            · refine nr_aload_n hC dL_years_963 rfl 0 rfl ?_
                                                                                                                                                                              refine nr_iconst (v := 0) hC dL_years_964 (by decide) ?_
                                                                                                                                                                              refine nr_callVi (As := [.int (0 : Int32)]) hC rfl (fun hI => tX5_bestShare (t1 := t1) (t2 := t2) hI n (0 : Int32) m957) (cwV 1 hC.1.2.2.2.2 gL_years_X5_bestShare rfl rfl rfl (by decide +kernel) ⟨Nat.le_of_ble_eq_true rfl, Nat.le_of_ble_eq_true rfl⟩) rfl (Nat.le_of_ble_eq_true rfl) ⟨Nat.le_of_ble_eq_true rfl, Nat.le_of_ble_eq_true rfl⟩ dL_years_965 (fun r965 m965 => ?_)
                                                                                                                                                                              refine nr_if_ne (tgt := 1001) hC dL_years_968 (by decide) (fun _ => ?_) (fun _ => ?_)
                                                                                                                                                                              · refine nr_aload_n hC dL_years_971 rfl 0 rfl ?_
                                                                                                                                                                                refine nr_iconst (v := 1) hC dL_years_972 (by decide) ?_
                                                                                                                                                                                refine nr_callVi (As := [.int (1 : Int32)]) hC rfl (fun hI => tX5_bestShare (t1 := t1) (t2 := t2) hI n (1 : Int32) m965) (cwV 1 hC.1.2.2.2.2 gL_years_X5_bestShare rfl rfl rfl (by decide +kernel) ⟨Nat.le_of_ble_eq_true rfl, Nat.le_of_ble_eq_true rfl⟩) rfl (Nat.le_of_ble_eq_true rfl) ⟨Nat.le_of_ble_eq_true rfl, Nat.le_of_ble_eq_true rfl⟩ dL_years_973 (fun r973 m973 => ?_)
                                                                                                                                                                                refine nr_bipush (v := 100) hC dL_years_976 (by decide) ?_
                                                                                                                                                                                refine nr_icmp_ne (tgt := 1001) hC dL_years_978 (by decide) (fun _ => ?_) (fun _ => ?_)
                                                                                                                                                                                · refine nr_aload_n hC dL_years_981 rfl 0 rfl ?_
                                                                                                                                                                                  refine nr_iconst (v := 1) hC dL_years_982 (by decide) ?_
                                                                                                                                                                                  refine nr_bipush (v := 100) hC dL_years_983 (by decide) ?_
                                                                                                                                                                                  refine nr_callVi (As := [.int (1 : Int32), .int (100 : Int32)]) hC rfl (fun hI => tX5_billIf (t1 := t1) (t2 := t2) hI n (1 : Int32) (100 : Int32) m973) (cwV 2 hC.1.2.2.2.2 gL_years_X5_billIf rfl rfl rfl (by decide +kernel) ⟨Nat.le_of_ble_eq_true rfl, Nat.le_of_ble_eq_true rfl⟩) rfl (Nat.le_of_ble_eq_true rfl) ⟨Nat.le_of_ble_eq_true rfl, Nat.le_of_ble_eq_true rfl⟩ dL_years_985 (fun r985 m985 => ?_)
                                                                                                                                                                                  refine nr_sipush (v := 200) hC dL_years_988 (by decide) ?_
                                                                                                                                                                                  refine nr_icmp_ne (tgt := 1001) hC dL_years_991 (by decide) (fun _ => ?_) (fun _ => ?_)
                                                                                                                                                                                  · refine nr_aload_n hC dL_years_994 rfl 0 rfl ?_
                                                                                                                                                                                    refine nr_callSi (As := [.ref (ad 228)]) hC rfl (fun hI => tL_refused (t1 := t1) (t2 := t2) hI n m985) (va_cwS 1 hC.1.2.2.2.2 gL_years_L_refused rfl rfl rfl (by decide +kernel) ⟨Nat.le_of_ble_eq_true rfl, Nat.le_of_ble_eq_true rfl⟩) rfl (Nat.le_of_ble_eq_true rfl) ⟨Nat.le_of_ble_eq_true rfl, Nat.le_of_ble_eq_true rfl⟩ dL_years_995 (fun r995 m995 => ?_)
                                                                                                                                                                                    refine nr_if_ne (tgt := 1003) hC dL_years_998 (by decide) (fun _ => ?_) (fun _ => ?_)
                                                                                                                                                                                    · refine nr_iconst (v := 0) hC dL_years_1001 (by decide) ?_
                                                                                                                                                                                      exact nr_iretz hC hr (Nat.le_of_ble_eq_true rfl) (Nat.le_of_ble_eq_true rfl) dL_years_1002 rfl
                                                                                                                                                                                    · refine nr_sub (lv' := []) [] rfl ?_
                                                                                                                                                                                      refine nr_new hC hiL_years_X5 hmL_years_cl hmL_years_in hmL_years_ini (cwI 0 hC.1.2.2.2.2 gL_years_X5_init rfl rfl rfl (hC.1.2.2.2.2 _ hmL_years_ini) (hC.1.2.2.2.2 _ hmL_years_ml) (hC.1.2.2.2.2 _ hmL_years_im) rfl (by decide +kernel) ⟨Nat.le_of_ble_eq_true rfl, Nat.le_of_ble_eq_true rfl⟩) (Nat.le_of_ble_eq_true rfl) (Nat.le_of_ble_eq_true rfl) (Nat.le_of_ble_eq_true rfl) dL_years_1003 dL_years_1006 dL_years_1007 (fun ad => ?_)
                                                                                                                                                                                      refine nr_astore_n (lv' := [(1, .ref (ad 228))]) hC dL_years_1010 rfl (by decide) rfl ?_
                                                                                                                                                                                      refine nr_iconst (v := 0) hC dL_years_1011 (by decide) ?_
                                                                                                                                                                                      refine nr_istore_n (lv' := [(2, .int (0 : Int32)), (1, .ref (ad 228))]) hC dL_years_1012 rfl (by decide) rfl ?_
                                                                                                                                                                                      refine nr_sub (lv' := [(2, .int (0 : Int32)), (1, .ref (ad 228))]) [0, 1] rfl ?_
                                                                                                                                                                                      refine L1013 ad _ (fun x2_1013 m1013 => ?_) _ _ _
                                                                                                                                                                                      refine nr_iconst (v := 0) hC dL_years_1038 (by decide) ?_
                                                                                                                                                                                      refine nr_istore_n (lv' := [(2, .int (0 : Int32)), (1, .ref (ad 228))]) hC dL_years_1039 rfl (by decide) rfl ?_
                                                                                                                                                                                      refine nr_sub (lv' := [(2, .int (0 : Int32)), (1, .ref (ad 228))]) [0, 1] rfl ?_
                                                                                                                                                                                      refine L1040 ad _ (fun x2_1040 m1040 => ?_) _ _ _
                                                                                                                                                                                      refine nr_aload_n hC dL_years_1069 rfl 1 rfl ?_
                                                                                                                                                                                      refine nr_iconst (v := 5) hC dL_years_1070 (by decide) ?_
                                                                                                                                                                                      refine nr_callVi (As := [.int (5 : Int32)]) hC rfl (fun hI => tX5_addFlat (t1 := t1) (t2 := t2) hI n (5 : Int32) m1040.1) (cwV 1 hC.1.2.2.2.2 gL_years_X5_addFlat rfl rfl rfl (by decide +kernel) ⟨Nat.le_of_ble_eq_true rfl, Nat.le_of_ble_eq_true rfl⟩) rfl (Nat.le_of_ble_eq_true rfl) ⟨Nat.le_of_ble_eq_true rfl, Nat.le_of_ble_eq_true rfl⟩ dL_years_1071 (fun r1071 m1071 => ?_)
                                                                                                                                                                                      refine nr_bipush (v := -3) hC dL_years_1074 (by decide) ?_
                                                                                                                                                                                      refine nr_icmp_ne (tgt := 1113) hC dL_years_1076 (by decide) (fun _ => ?_) (fun _ => ?_)
                                                                                                                                                                                      · refine nr_aload_n hC dL_years_1079 rfl 1 rfl ?_
                                                                                                                                                                                        refine nr_iconst (v := 0) hC dL_years_1080 (by decide) ?_
                                                                                                                                                                                        refine nr_iconst (v := 5) hC dL_years_1081 (by decide) ?_
                                                                                                                                                                                        refine nr_callVi (As := [.int (0 : Int32), .int (5 : Int32)]) hC rfl (fun hI => tX5_addDevice (t1 := t1) (t2 := t2) hI n (0 : Int32) (5 : Int32) m1071) (cwV 2 hC.1.2.2.2.2 gL_years_X5_addDevice rfl rfl rfl (by decide +kernel) ⟨Nat.le_of_ble_eq_true rfl, Nat.le_of_ble_eq_true rfl⟩) rfl (Nat.le_of_ble_eq_true rfl) ⟨Nat.le_of_ble_eq_true rfl, Nat.le_of_ble_eq_true rfl⟩ dL_years_1082 (fun r1082 m1082 => ?_)
                                                                                                                                                                                        refine nr_bipush (v := -3) hC dL_years_1085 (by decide) ?_
                                                                                                                                                                                        refine nr_icmp_ne (tgt := 1113) hC dL_years_1087 (by decide) (fun _ => ?_) (fun _ => ?_)
                                                                                                                                                                                        · refine nr_aload_n hC dL_years_1090 rfl 1 rfl ?_
                                                                                                                                                                                          refine nr_iconst (v := 0) hC dL_years_1091 (by decide) ?_
                                                                                                                                                                                          refine nr_bipush (v := 21) hC dL_years_1092 (by decide) ?_
                                                                                                                                                                                          refine nr_callVi (As := [.int (0 : Int32), .int (21 : Int32)]) hC rfl (fun hI => tX5_addDevice (t1 := t1) (t2 := t2) hI n (0 : Int32) (21 : Int32) m1082) (cwV 2 hC.1.2.2.2.2 gL_years_X5_addDevice rfl rfl rfl (by decide +kernel) ⟨Nat.le_of_ble_eq_true rfl, Nat.le_of_ble_eq_true rfl⟩) rfl (Nat.le_of_ble_eq_true rfl) ⟨Nat.le_of_ble_eq_true rfl, Nat.le_of_ble_eq_true rfl⟩ dL_years_1094 (fun r1094 m1094 => ?_)
                                                                                                                                                                                          refine nr_bipush (v := -2) hC dL_years_1097 (by decide) ?_
                                                                                                                                                                                          refine nr_icmp_ne (tgt := 1113) hC dL_years_1099 (by decide) (fun _ => ?_) (fun _ => ?_)
                                                                                                                                                                                          · refine nr_aload_n hC dL_years_1102 rfl 1 rfl ?_
                                                                                                                                                                                            refine nr_bipush (v := 19) hC dL_years_1103 (by decide) ?_
                                                                                                                                                                                            refine nr_iconst (v := 1) hC dL_years_1105 (by decide) ?_
                                                                                                                                                                                            refine nr_callVi (As := [.int (19 : Int32), .int (1 : Int32)]) hC rfl (fun hI => tX5_mark (t1 := t1) (t2 := t2) hI n (19 : Int32) (1 : Int32) m1094) (cwV 2 hC.1.2.2.2.2 gL_years_X5_mark rfl rfl rfl (by decide +kernel) ⟨Nat.le_of_ble_eq_true rfl, Nat.le_of_ble_eq_true rfl⟩) rfl (Nat.le_of_ble_eq_true rfl) ⟨Nat.le_of_ble_eq_true rfl, Nat.le_of_ble_eq_true rfl⟩ dL_years_1106 (fun r1106 m1106 => ?_)
                                                                                                                                                                                            refine nr_iconst (v := 1) hC dL_years_1109 (by decide) ?_
                                                                                                                                                                                            refine nr_icmp_eq (tgt := 1115) hC dL_years_1110 (by decide) (fun _ => ?_) (fun _ => ?_)
                                                                                                                                                                                            · refine nr_iconst (v := 0) hC dL_years_1115 (by decide) ?_
                                                                                                                                                                                              refine nr_istore_n (lv' := [(2, .int (0 : Int32)), (1, .ref (ad 228))]) hC dL_years_1116 rfl (by decide) rfl ?_
                                                                                                                                                                                              refine nr_sub (lv' := [(2, .int (0 : Int32)), (1, .ref (ad 228))]) [0, 1] rfl ?_
                                                                                                                                                                                              refine L1117 ad _ (fun x2_1117 m1117 => ?_) _ _ _
                                                                                                                                                                                              refine nr_aload_n hC dL_years_1138 rfl 1 rfl ?_
                                                                                                                                                                                              refine nr_callVi (As := []) hC rfl (fun hI => tX5_close (t1 := t1) (t2 := t2) hI n m1117.1) (cwV 0 hC.1.2.2.2.2 gL_years_X5_close rfl rfl rfl (by decide +kernel) ⟨Nat.le_of_ble_eq_true rfl, Nat.le_of_ble_eq_true rfl⟩) rfl (Nat.le_of_ble_eq_true rfl) ⟨Nat.le_of_ble_eq_true rfl, Nat.le_of_ble_eq_true rfl⟩ dL_years_1139 (fun r1139 m1139 => ?_)
                                                                                                                                                                                              refine nr_bipush (v := -3) hC dL_years_1142 (by decide) ?_
                                                                                                                                                                                              refine nr_icmp_ne (tgt := 1196) hC dL_years_1144 (by decide) (fun _ => ?_) (fun _ => ?_)
                                                                                                                                                                                              · refine nr_aload_n hC dL_years_1147 rfl 1 rfl ?_
                                                                                                                                                                                                refine nr_iconst (v := 5) hC dL_years_1148 (by decide) ?_
                                                                                                                                                                                                refine nr_callVi (As := [.int (5 : Int32)]) hC rfl (fun hI => tX5_addFlat (t1 := t1) (t2 := t2) hI n (5 : Int32) m1139) (cwV 1 hC.1.2.2.2.2 gL_years_X5_addFlat rfl rfl rfl (by decide +kernel) ⟨Nat.le_of_ble_eq_true rfl, Nat.le_of_ble_eq_true rfl⟩) rfl (Nat.le_of_ble_eq_true rfl) ⟨Nat.le_of_ble_eq_true rfl, Nat.le_of_ble_eq_true rfl⟩ dL_years_1149 (fun r1149 m1149 => ?_)
                                                                                                                                                                                                refine nr_bipush (v := -3) hC dL_years_1152 (by decide) ?_
                                                                                                                                                                                                refine nr_icmp_ne (tgt := 1196) hC dL_years_1154 (by decide) (fun _ => ?_) (fun _ => ?_)
                                                                                                                                                                                                · refine nr_aload_n hC dL_years_1157 rfl 1 rfl ?_
                                                                                                                                                                                                  refine nr_iconst (v := 0) hC dL_years_1158 (by decide) ?_
                                                                                                                                                                                                  refine nr_callVi (As := [.int (0 : Int32)]) hC rfl (fun hI => tX5_addFlat (t1 := t1) (t2 := t2) hI n (0 : Int32) m1149) (cwV 1 hC.1.2.2.2.2 gL_years_X5_addFlat rfl rfl rfl (by decide +kernel) ⟨Nat.le_of_ble_eq_true rfl, Nat.le_of_ble_eq_true rfl⟩) rfl (Nat.le_of_ble_eq_true rfl) ⟨Nat.le_of_ble_eq_true rfl, Nat.le_of_ble_eq_true rfl⟩ dL_years_1159 (fun r1159 m1159 => ?_)
                                                                                                                                                                                                  refine nr_bipush (v := -2) hC dL_years_1162 (by decide) ?_
                                                                                                                                                                                                  refine nr_icmp_ne (tgt := 1196) hC dL_years_1164 (by decide) (fun _ => ?_) (fun _ => ?_)
                                                                                                                                                                                                  · refine nr_aload_n hC dL_years_1167 rfl 1 rfl ?_
                                                                                                                                                                                                    refine nr_bipush (v := 10) hC dL_years_1168 (by decide) ?_
                                                                                                                                                                                                    refine nr_callVi (As := [.int (10 : Int32)]) hC rfl (fun hI => tX5_count (t1 := t1) (t2 := t2) hI n (10 : Int32) m1159) (cwV 1 hC.1.2.2.2.2 gL_years_X5_count rfl rfl rfl (by decide +kernel) ⟨Nat.le_of_ble_eq_true rfl, Nat.le_of_ble_eq_true rfl⟩) rfl (Nat.le_of_ble_eq_true rfl) ⟨Nat.le_of_ble_eq_true rfl, Nat.le_of_ble_eq_true rfl⟩ dL_years_1170 (fun r1170 m1170 => ?_)
                                                                                                                                                                                                    refine nr_if_ne (tgt := 1196) hC dL_years_1173 (by decide) (fun _ => ?_) (fun _ => ?_)
                                                                                                                                                                                                    · refine nr_aload_n hC dL_years_1176 rfl 1 rfl ?_
                                                                                                                                                                                                      refine nr_bipush (v := 7) hC dL_years_1177 (by decide) ?_
                                                                                                                                                                                                      refine nr_callVi (As := [.int (7 : Int32)]) hC rfl (fun hI => tX5_bestShare (t1 := t1) (t2 := t2) hI n (7 : Int32) m1170) (cwV 1 hC.1.2.2.2.2 gL_years_X5_bestShare rfl rfl rfl (by decide +kernel) ⟨Nat.le_of_ble_eq_true rfl, Nat.le_of_ble_eq_true rfl⟩) rfl (Nat.le_of_ble_eq_true rfl) ⟨Nat.le_of_ble_eq_true rfl, Nat.le_of_ble_eq_true rfl⟩ dL_years_1179 (fun r1179 m1179 => ?_)
                                                                                                                                                                                                      refine nr_if_ne (tgt := 1196) hC dL_years_1182 (by decide) (fun _ => ?_) (fun _ => ?_)
                                                                                                                                                                                                      · refine nr_aload_n hC dL_years_1185 rfl 1 rfl ?_
                                                                                                                                                                                                        refine nr_callSi (As := [.ref (ad 228)]) hC rfl (fun hI => tL_refused (t1 := t1) (t2 := t2) hI n m1179) (va_cwS 1 hC.1.2.2.2.2 gL_years_L_refused rfl rfl rfl (by decide +kernel) ⟨Nat.le_of_ble_eq_true rfl, Nat.le_of_ble_eq_true rfl⟩) rfl (Nat.le_of_ble_eq_true rfl) ⟨Nat.le_of_ble_eq_true rfl, Nat.le_of_ble_eq_true rfl⟩ dL_years_1186 (fun r1186 m1186 => ?_)
                                                                                                                                                                                                        refine nr_if_eq (tgt := 1196) hC dL_years_1189 (by decide) (fun _ => ?_) (fun _ => ?_)
                                                                                                                                                                                                        · refine nr_iconst (v := 0) hC dL_years_1196 (by decide) ?_
                                                                                                                                                                                                          exact nr_iretz hC hr (Nat.le_of_ble_eq_true rfl) (Nat.le_of_ble_eq_true rfl) dL_years_1197 rfl
                                                                                                                                                                                                        · refine nr_iconst (v := 1) hC dL_years_1192 (by decide) ?_
                                                                                                                                                                                                          refine nr_goto (tgt := 1197) hC dL_years_1193 (by decide) ?_
                                                                                                                                                                                                          exact nr_iretz hC hr (Nat.le_of_ble_eq_true rfl) (Nat.le_of_ble_eq_true rfl) dL_years_1197 rfl
                                                                                                                                                                                                      · refine nr_iconst (v := 0) hC dL_years_1196 (by decide) ?_
                                                                                                                                                                                                        exact nr_iretz hC hr (Nat.le_of_ble_eq_true rfl) (Nat.le_of_ble_eq_true rfl) dL_years_1197 rfl
                                                                                                                                                                                                    · refine nr_iconst (v := 0) hC dL_years_1196 (by decide) ?_
                                                                                                                                                                                                      exact nr_iretz hC hr (Nat.le_of_ble_eq_true rfl) (Nat.le_of_ble_eq_true rfl) dL_years_1197 rfl
                                                                                                                                                                                                  · refine nr_iconst (v := 0) hC dL_years_1196 (by decide) ?_
                                                                                                                                                                                                    exact nr_iretz hC hr (Nat.le_of_ble_eq_true rfl) (Nat.le_of_ble_eq_true rfl) dL_years_1197 rfl
                                                                                                                                                                                                · refine nr_iconst (v := 0) hC dL_years_1196 (by decide) ?_
                                                                                                                                                                                                  exact nr_iretz hC hr (Nat.le_of_ble_eq_true rfl) (Nat.le_of_ble_eq_true rfl) dL_years_1197 rfl
                                                                                                                                                                                              · refine nr_iconst (v := 0) hC dL_years_1196 (by decide) ?_
                                                                                                                                                                                                exact nr_iretz hC hr (Nat.le_of_ble_eq_true rfl) (Nat.le_of_ble_eq_true rfl) dL_years_1197 rfl
                                                                                                                                                                                            · refine nr_iconst (v := 0) hC dL_years_1113 (by decide) ?_
                                                                                                                                                                                              exact nr_iretz hC hr (Nat.le_of_ble_eq_true rfl) (Nat.le_of_ble_eq_true rfl) dL_years_1114 rfl
                                                                                                                                                                                          · refine nr_iconst (v := 0) hC dL_years_1113 (by decide) ?_
                                                                                                                                                                                            exact nr_iretz hC hr (Nat.le_of_ble_eq_true rfl) (Nat.le_of_ble_eq_true rfl) dL_years_1114 rfl
                                                                                                                                                                                        · refine nr_iconst (v := 0) hC dL_years_1113 (by decide) ?_
                                                                                                                                                                                          exact nr_iretz hC hr (Nat.le_of_ble_eq_true rfl) (Nat.le_of_ble_eq_true rfl) dL_years_1114 rfl
                                                                                                                                                                                      · refine nr_iconst (v := 0) hC dL_years_1113 (by decide) ?_
                                                                                                                                                                                        exact nr_iretz hC hr (Nat.le_of_ble_eq_true rfl) (Nat.le_of_ble_eq_true rfl) dL_years_1114 rfl
                                                                                                                                                                                  · refine nr_iconst (v := 0) hC dL_years_1001 (by decide) ?_
                                                                                                                                                                                    exact nr_iretz hC hr (Nat.le_of_ble_eq_true rfl) (Nat.le_of_ble_eq_true rfl) dL_years_1002 rfl
                                                                                                                                                                                · refine nr_iconst (v := 0) hC dL_years_1001 (by decide) ?_
                                                                                                                                                                                  exact nr_iretz hC hr (Nat.le_of_ble_eq_true rfl) (Nat.le_of_ble_eq_true rfl) dL_years_1002 rfl
                                                                                                                                                                              · refine nr_iconst (v := 0) hC dL_years_1001 (by decide) ?_
                                                                                                                                                                                exact nr_iretz hC hr (Nat.le_of_ble_eq_true rfl) (Nat.le_of_ble_eq_true rfl) dL_years_1002 rfl
                                                                                                                                                                            · refine nr_iconst (v := 0) hC dL_years_1001 (by decide) ?_
                                                                                                                                                                              exact nr_iretz hC hr (Nat.le_of_ble_eq_true rfl) (Nat.le_of_ble_eq_true rfl) dL_years_1002 rfl
                                                                                                                                                                          · refine nr_iconst (v := 0) hC dL_years_1001 (by decide) ?_
                                                                                                                                                                            exact nr_iretz hC hr (Nat.le_of_ble_eq_true rfl) (Nat.le_of_ble_eq_true rfl) dL_years_1002 rfl
                                                                                                                                                                        · refine nr_iconst (v := 0) hC dL_years_1001 (by decide) ?_
                                                                                                                                                                          exact nr_iretz hC hr (Nat.le_of_ble_eq_true rfl) (Nat.le_of_ble_eq_true rfl) dL_years_1002 rfl
                                                                                                                                                                      · refine nr_iconst (v := 0) hC dL_years_1001 (by decide) ?_
                                                                                                                                                                        exact nr_iretz hC hr (Nat.le_of_ble_eq_true rfl) (Nat.le_of_ble_eq_true rfl) dL_years_1002 rfl
                                                                                                                                                                    · refine nr_iconst (v := 0) hC dL_years_1001 (by decide) ?_
                                                                                                                                                                      exact nr_iretz hC hr (Nat.le_of_ble_eq_true rfl) (Nat.le_of_ble_eq_true rfl) dL_years_1002 rfl
                                                                                                                                                                  · refine nr_iconst (v := 0) hC dL_years_1001 (by decide) ?_
                                                                                                                                                                    exact nr_iretz hC hr (Nat.le_of_ble_eq_true rfl) (Nat.le_of_ble_eq_true rfl) dL_years_1002 rfl
                                                                                                                                                                · refine nr_iconst (v := 0) hC dL_years_1001 (by decide) ?_
                                                                                                                                                                  exact nr_iretz hC hr (Nat.le_of_ble_eq_true rfl) (Nat.le_of_ble_eq_true rfl) dL_years_1002 rfl
                                                                                                                                                              · refine nr_iconst (v := 0) hC dL_years_1001 (by decide) ?_
                                                                                                                                                                exact nr_iretz hC hr (Nat.le_of_ble_eq_true rfl) (Nat.le_of_ble_eq_true rfl) dL_years_1002 rfl
                                                                                                                                                            · refine nr_iconst (v := 0) hC dL_years_1001 (by decide) ?_
                                                                                                                                                              exact nr_iretz hC hr (Nat.le_of_ble_eq_true rfl) (Nat.le_of_ble_eq_true rfl) dL_years_1002 rfl
                                                                                                                                                          · refine nr_iconst (v := 0) hC dL_years_1001 (by decide) ?_
                                                                                                                                                            exact nr_iretz hC hr (Nat.le_of_ble_eq_true rfl) (Nat.le_of_ble_eq_true rfl) dL_years_1002 rfl
                                                                                                                                                        · refine nr_iconst (v := 0) hC dL_years_1001 (by decide) ?_
                                                                                                                                                          exact nr_iretz hC hr (Nat.le_of_ble_eq_true rfl) (Nat.le_of_ble_eq_true rfl) dL_years_1002 rfl
                                                                                                                                                      · refine nr_iconst (v := 0) hC dL_years_1001 (by decide) ?_
                                                                                                                                                        exact nr_iretz hC hr (Nat.le_of_ble_eq_true rfl) (Nat.le_of_ble_eq_true rfl) dL_years_1002 rfl
                                                                                                                                                    · refine nr_iconst (v := 0) hC dL_years_1001 (by decide) ?_
                                                                                                                                                      exact nr_iretz hC hr (Nat.le_of_ble_eq_true rfl) (Nat.le_of_ble_eq_true rfl) dL_years_1002 rfl
                                                                                                                                                  · refine nr_iconst (v := 0) hC dL_years_1001 (by decide) ?_
                                                                                                                                                    exact nr_iretz hC hr (Nat.le_of_ble_eq_true rfl) (Nat.le_of_ble_eq_true rfl) dL_years_1002 rfl
                                                                                                                                                · refine nr_iconst (v := 0) hC dL_years_1001 (by decide) ?_
                                                                                                                                                  exact nr_iretz hC hr (Nat.le_of_ble_eq_true rfl) (Nat.le_of_ble_eq_true rfl) dL_years_1002 rfl
                                                                                                                                              · refine nr_iconst (v := 0) hC dL_years_780 (by decide) ?_
                                                                                                                                                exact nr_iretz hC hr (Nat.le_of_ble_eq_true rfl) (Nat.le_of_ble_eq_true rfl) dL_years_781 rfl
                                                                                                                                            · refine nr_iconst (v := 0) hC dL_years_780 (by decide) ?_
                                                                                                                                              exact nr_iretz hC hr (Nat.le_of_ble_eq_true rfl) (Nat.le_of_ble_eq_true rfl) dL_years_781 rfl
                                                                                                                                          · refine nr_iconst (v := 0) hC dL_years_780 (by decide) ?_
                                                                                                                                            exact nr_iretz hC hr (Nat.le_of_ble_eq_true rfl) (Nat.le_of_ble_eq_true rfl) dL_years_781 rfl
                                                                                                                                        · refine nr_iconst (v := 0) hC dL_years_780 (by decide) ?_
                                                                                                                                          exact nr_iretz hC hr (Nat.le_of_ble_eq_true rfl) (Nat.le_of_ble_eq_true rfl) dL_years_781 rfl
                                                                                                                                      · refine nr_iconst (v := 0) hC dL_years_780 (by decide) ?_
                                                                                                                                        exact nr_iretz hC hr (Nat.le_of_ble_eq_true rfl) (Nat.le_of_ble_eq_true rfl) dL_years_781 rfl
                                                                                                                                    · refine nr_iconst (v := 0) hC dL_years_780 (by decide) ?_
                                                                                                                                      exact nr_iretz hC hr (Nat.le_of_ble_eq_true rfl) (Nat.le_of_ble_eq_true rfl) dL_years_781 rfl
                                                                                                                                  · refine nr_iconst (v := 0) hC dL_years_780 (by decide) ?_
                                                                                                                                    exact nr_iretz hC hr (Nat.le_of_ble_eq_true rfl) (Nat.le_of_ble_eq_true rfl) dL_years_781 rfl
                                                                                                                                · refine nr_iconst (v := 0) hC dL_years_780 (by decide) ?_
                                                                                                                                  exact nr_iretz hC hr (Nat.le_of_ble_eq_true rfl) (Nat.le_of_ble_eq_true rfl) dL_years_781 rfl
                                                                                                                              · refine nr_iconst (v := 0) hC dL_years_780 (by decide) ?_
                                                                                                                                exact nr_iretz hC hr (Nat.le_of_ble_eq_true rfl) (Nat.le_of_ble_eq_true rfl) dL_years_781 rfl
                                                                                                                            · refine nr_iconst (v := 0) hC dL_years_780 (by decide) ?_
                                                                                                                              exact nr_iretz hC hr (Nat.le_of_ble_eq_true rfl) (Nat.le_of_ble_eq_true rfl) dL_years_781 rfl
                                                                                                                          · refine nr_iconst (v := 0) hC dL_years_780 (by decide) ?_
                                                                                                                            exact nr_iretz hC hr (Nat.le_of_ble_eq_true rfl) (Nat.le_of_ble_eq_true rfl) dL_years_781 rfl
                                                                                                                        · refine nr_iconst (v := 0) hC dL_years_780 (by decide) ?_
                                                                                                                          exact nr_iretz hC hr (Nat.le_of_ble_eq_true rfl) (Nat.le_of_ble_eq_true rfl) dL_years_781 rfl
                                                                                                                      · refine nr_iconst (v := 0) hC dL_years_780 (by decide) ?_
                                                                                                                        exact nr_iretz hC hr (Nat.le_of_ble_eq_true rfl) (Nat.le_of_ble_eq_true rfl) dL_years_781 rfl
                                                                                                                    · refine nr_iconst (v := 0) hC dL_years_780 (by decide) ?_
                                                                                                                      exact nr_iretz hC hr (Nat.le_of_ble_eq_true rfl) (Nat.le_of_ble_eq_true rfl) dL_years_781 rfl
                                                                                                                  · refine nr_iconst (v := 0) hC dL_years_780 (by decide) ?_
                                                                                                                    exact nr_iretz hC hr (Nat.le_of_ble_eq_true rfl) (Nat.le_of_ble_eq_true rfl) dL_years_781 rfl
                                                                                                                · refine nr_iconst (v := 0) hC dL_years_780 (by decide) ?_
                                                                                                                  exact nr_iretz hC hr (Nat.le_of_ble_eq_true rfl) (Nat.le_of_ble_eq_true rfl) dL_years_781 rfl
                                                                                                              · refine nr_iconst (v := 0) hC dL_years_780 (by decide) ?_
                                                                                                                exact nr_iretz hC hr (Nat.le_of_ble_eq_true rfl) (Nat.le_of_ble_eq_true rfl) dL_years_781 rfl
                                                                                                            · refine nr_iconst (v := 0) hC dL_years_780 (by decide) ?_
                                                                                                              exact nr_iretz hC hr (Nat.le_of_ble_eq_true rfl) (Nat.le_of_ble_eq_true rfl) dL_years_781 rfl
                                                                                                          · refine nr_iconst (v := 0) hC dL_years_780 (by decide) ?_
                                                                                                            exact nr_iretz hC hr (Nat.le_of_ble_eq_true rfl) (Nat.le_of_ble_eq_true rfl) dL_years_781 rfl
                                                                                                        · refine nr_iconst (v := 0) hC dL_years_780 (by decide) ?_
                                                                                                          exact nr_iretz hC hr (Nat.le_of_ble_eq_true rfl) (Nat.le_of_ble_eq_true rfl) dL_years_781 rfl
                                                                                                      · refine nr_iconst (v := 0) hC dL_years_780 (by decide) ?_
                                                                                                        exact nr_iretz hC hr (Nat.le_of_ble_eq_true rfl) (Nat.le_of_ble_eq_true rfl) dL_years_781 rfl
                                                                                                    · refine nr_iconst (v := 0) hC dL_years_780 (by decide) ?_
                                                                                                      exact nr_iretz hC hr (Nat.le_of_ble_eq_true rfl) (Nat.le_of_ble_eq_true rfl) dL_years_781 rfl
                                                                                                  · refine nr_iconst (v := 0) hC dL_years_780 (by decide) ?_
                                                                                                    exact nr_iretz hC hr (Nat.le_of_ble_eq_true rfl) (Nat.le_of_ble_eq_true rfl) dL_years_781 rfl
                                                                                                · refine nr_iconst (v := 0) hC dL_years_780 (by decide) ?_
                                                                                                  exact nr_iretz hC hr (Nat.le_of_ble_eq_true rfl) (Nat.le_of_ble_eq_true rfl) dL_years_781 rfl
                                                                                              · refine nr_iconst (v := 0) hC dL_years_780 (by decide) ?_
                                                                                                exact nr_iretz hC hr (Nat.le_of_ble_eq_true rfl) (Nat.le_of_ble_eq_true rfl) dL_years_781 rfl
                                                                                          · refine nr_iconst (v := 0) hC dL_years_509 (by decide) ?_
                                                                                            exact nr_iretz hC hr (Nat.le_of_ble_eq_true rfl) (Nat.le_of_ble_eq_true rfl) dL_years_510 rfl
                                                                                        · refine nr_iconst (v := 0) hC dL_years_509 (by decide) ?_
                                                                                          exact nr_iretz hC hr (Nat.le_of_ble_eq_true rfl) (Nat.le_of_ble_eq_true rfl) dL_years_510 rfl
                                                                                      · refine nr_iconst (v := 0) hC dL_years_509 (by decide) ?_
                                                                                        exact nr_iretz hC hr (Nat.le_of_ble_eq_true rfl) (Nat.le_of_ble_eq_true rfl) dL_years_510 rfl
                                                                                    · refine nr_iconst (v := 0) hC dL_years_509 (by decide) ?_
                                                                                      exact nr_iretz hC hr (Nat.le_of_ble_eq_true rfl) (Nat.le_of_ble_eq_true rfl) dL_years_510 rfl
                                                                                  · refine nr_iconst (v := 0) hC dL_years_509 (by decide) ?_
                                                                                    exact nr_iretz hC hr (Nat.le_of_ble_eq_true rfl) (Nat.le_of_ble_eq_true rfl) dL_years_510 rfl
                                                                                · refine nr_iconst (v := 0) hC dL_years_509 (by decide) ?_
                                                                                  exact nr_iretz hC hr (Nat.le_of_ble_eq_true rfl) (Nat.le_of_ble_eq_true rfl) dL_years_510 rfl
                                                                              · refine nr_iconst (v := 0) hC dL_years_509 (by decide) ?_
                                                                                exact nr_iretz hC hr (Nat.le_of_ble_eq_true rfl) (Nat.le_of_ble_eq_true rfl) dL_years_510 rfl
                                                                            · refine nr_iconst (v := 0) hC dL_years_509 (by decide) ?_
                                                                              exact nr_iretz hC hr (Nat.le_of_ble_eq_true rfl) (Nat.le_of_ble_eq_true rfl) dL_years_510 rfl
                                                                          · refine nr_iconst (v := 0) hC dL_years_509 (by decide) ?_
                                                                            exact nr_iretz hC hr (Nat.le_of_ble_eq_true rfl) (Nat.le_of_ble_eq_true rfl) dL_years_510 rfl
                                                                        · refine nr_iconst (v := 0) hC dL_years_509 (by decide) ?_
                                                                          exact nr_iretz hC hr (Nat.le_of_ble_eq_true rfl) (Nat.le_of_ble_eq_true rfl) dL_years_510 rfl
                                                                      · refine nr_iconst (v := 0) hC dL_years_509 (by decide) ?_
                                                                        exact nr_iretz hC hr (Nat.le_of_ble_eq_true rfl) (Nat.le_of_ble_eq_true rfl) dL_years_510 rfl
                                                                    · refine nr_iconst (v := 0) hC dL_years_509 (by decide) ?_
                                                                      exact nr_iretz hC hr (Nat.le_of_ble_eq_true rfl) (Nat.le_of_ble_eq_true rfl) dL_years_510 rfl
                                                                  · refine nr_iconst (v := 0) hC dL_years_509 (by decide) ?_
                                                                    exact nr_iretz hC hr (Nat.le_of_ble_eq_true rfl) (Nat.le_of_ble_eq_true rfl) dL_years_510 rfl
                                                                · refine nr_iconst (v := 0) hC dL_years_509 (by decide) ?_
                                                                  exact nr_iretz hC hr (Nat.le_of_ble_eq_true rfl) (Nat.le_of_ble_eq_true rfl) dL_years_510 rfl
                                                              · refine nr_iconst (v := 0) hC dL_years_509 (by decide) ?_
                                                                exact nr_iretz hC hr (Nat.le_of_ble_eq_true rfl) (Nat.le_of_ble_eq_true rfl) dL_years_510 rfl
                                                            · refine nr_iconst (v := 0) hC dL_years_509 (by decide) ?_
                                                              exact nr_iretz hC hr (Nat.le_of_ble_eq_true rfl) (Nat.le_of_ble_eq_true rfl) dL_years_510 rfl
                                                          · refine nr_iconst (v := 0) hC dL_years_509 (by decide) ?_
                                                            exact nr_iretz hC hr (Nat.le_of_ble_eq_true rfl) (Nat.le_of_ble_eq_true rfl) dL_years_510 rfl
                                                        · refine nr_iconst (v := 0) hC dL_years_509 (by decide) ?_
                                                          exact nr_iretz hC hr (Nat.le_of_ble_eq_true rfl) (Nat.le_of_ble_eq_true rfl) dL_years_510 rfl
                                                      · refine nr_iconst (v := 0) hC dL_years_509 (by decide) ?_
                                                        exact nr_iretz hC hr (Nat.le_of_ble_eq_true rfl) (Nat.le_of_ble_eq_true rfl) dL_years_510 rfl
                                                    · refine nr_iconst (v := 0) hC dL_years_509 (by decide) ?_
                                                      exact nr_iretz hC hr (Nat.le_of_ble_eq_true rfl) (Nat.le_of_ble_eq_true rfl) dL_years_510 rfl
                                                  · refine nr_iconst (v := 0) hC dL_years_509 (by decide) ?_
                                                    exact nr_iretz hC hr (Nat.le_of_ble_eq_true rfl) (Nat.le_of_ble_eq_true rfl) dL_years_510 rfl
                                                · refine nr_iconst (v := 0) hC dL_years_509 (by decide) ?_
                                                  exact nr_iretz hC hr (Nat.le_of_ble_eq_true rfl) (Nat.le_of_ble_eq_true rfl) dL_years_510 rfl
                                              · refine nr_iconst (v := 0) hC dL_years_509 (by decide) ?_
                                                exact nr_iretz hC hr (Nat.le_of_ble_eq_true rfl) (Nat.le_of_ble_eq_true rfl) dL_years_510 rfl
                                            · refine nr_iconst (v := 0) hC dL_years_509 (by decide) ?_
                                              exact nr_iretz hC hr (Nat.le_of_ble_eq_true rfl) (Nat.le_of_ble_eq_true rfl) dL_years_510 rfl
                                          · refine nr_iconst (v := 0) hC dL_years_509 (by decide) ?_
                                            exact nr_iretz hC hr (Nat.le_of_ble_eq_true rfl) (Nat.le_of_ble_eq_true rfl) dL_years_510 rfl
                                        · refine nr_iconst (v := 0) hC dL_years_509 (by decide) ?_
                                          exact nr_iretz hC hr (Nat.le_of_ble_eq_true rfl) (Nat.le_of_ble_eq_true rfl) dL_years_510 rfl
                                      · refine nr_iconst (v := 0) hC dL_years_509 (by decide) ?_
                                        exact nr_iretz hC hr (Nat.le_of_ble_eq_true rfl) (Nat.le_of_ble_eq_true rfl) dL_years_510 rfl
                                    · refine nr_iconst (v := 0) hC dL_years_194 (by decide) ?_
                                      exact nr_iretz hC hr (Nat.le_of_ble_eq_true rfl) (Nat.le_of_ble_eq_true rfl) dL_years_195 rfl
                                  · refine nr_iconst (v := 0) hC dL_years_194 (by decide) ?_
                                    exact nr_iretz hC hr (Nat.le_of_ble_eq_true rfl) (Nat.le_of_ble_eq_true rfl) dL_years_195 rfl
                                · refine nr_iconst (v := 0) hC dL_years_194 (by decide) ?_
                                  exact nr_iretz hC hr (Nat.le_of_ble_eq_true rfl) (Nat.le_of_ble_eq_true rfl) dL_years_195 rfl
                              · refine nr_iconst (v := 0) hC dL_years_194 (by decide) ?_
                                exact nr_iretz hC hr (Nat.le_of_ble_eq_true rfl) (Nat.le_of_ble_eq_true rfl) dL_years_195 rfl
                            · refine nr_iconst (v := 0) hC dL_years_194 (by decide) ?_
                              exact nr_iretz hC hr (Nat.le_of_ble_eq_true rfl) (Nat.le_of_ble_eq_true rfl) dL_years_195 rfl
                          · refine nr_iconst (v := 0) hC dL_years_194 (by decide) ?_
                            exact nr_iretz hC hr (Nat.le_of_ble_eq_true rfl) (Nat.le_of_ble_eq_true rfl) dL_years_195 rfl
                        · refine nr_iconst (v := 0) hC dL_years_194 (by decide) ?_
                          exact nr_iretz hC hr (Nat.le_of_ble_eq_true rfl) (Nat.le_of_ble_eq_true rfl) dL_years_195 rfl
                      · refine nr_iconst (v := 0) hC dL_years_194 (by decide) ?_
                        exact nr_iretz hC hr (Nat.le_of_ble_eq_true rfl) (Nat.le_of_ble_eq_true rfl) dL_years_195 rfl
                    · refine nr_iconst (v := 0) hC dL_years_194 (by decide) ?_
                      exact nr_iretz hC hr (Nat.le_of_ble_eq_true rfl) (Nat.le_of_ble_eq_true rfl) dL_years_195 rfl
                  · refine nr_iconst (v := 0) hC dL_years_194 (by decide) ?_
                    exact nr_iretz hC hr (Nat.le_of_ble_eq_true rfl) (Nat.le_of_ble_eq_true rfl) dL_years_195 rfl
                · refine nr_iconst (v := 0) hC dL_years_194 (by decide) ?_
                  exact nr_iretz hC hr (Nat.le_of_ble_eq_true rfl) (Nat.le_of_ble_eq_true rfl) dL_years_195 rfl
              · refine nr_iconst (v := 0) hC dL_years_194 (by decide) ?_
                exact nr_iretz hC hr (Nat.le_of_ble_eq_true rfl) (Nat.le_of_ble_eq_true rfl) dL_years_195 rfl
            · refine nr_iconst (v := 0) hC dL_years_194 (by decide) ?_
              exact nr_iretz hC hr (Nat.le_of_ble_eq_true rfl) (Nat.le_of_ble_eq_true rfl) dL_years_195 rfl
          · refine nr_iconst (v := 0) hC dL_years_194 (by decide) ?_
            exact nr_iretz hC hr (Nat.le_of_ble_eq_true rfl) (Nat.le_of_ble_eq_true rfl) dL_years_195 rfl
        · refine nr_iconst (v := 0) hC dL_years_194 (by decide) ?_
          exact nr_iretz hC hr (Nat.le_of_ble_eq_true rfl) (Nat.le_of_ble_eq_true rfl) dL_years_195 rfl
      · refine nr_iconst (v := 0) hC dL_years_194 (by decide) ?_
        exact nr_iretz hC hr (Nat.le_of_ble_eq_true rfl) (Nat.le_of_ble_eq_true rfl) dL_years_195 rfl
    · refine nr_iconst (v := 0) hC dL_years_194 (by decide) ?_
      exact nr_iretz hC hr (Nat.le_of_ble_eq_true rfl) (Nat.le_of_ble_eq_true rfl) dL_years_195 rfl
  · refine nr_iconst (v := 0) hC dL_years_194 (by decide) ?_
    exact nr_iretz hC hr (Nat.le_of_ble_eq_true rfl) (Nat.le_of_ble_eq_true rfl) dL_years_195 rfl

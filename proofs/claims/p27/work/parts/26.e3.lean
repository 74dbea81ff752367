/-! BY HAND (3): years, the first object, computed -/
set_option maxRecDepth 100000 in
def yrO (n : Nat) (x : Option Int32) : Option Int32 :=
bi (fX5_undo n mz) (fun r9 m9 =>
if r9 = (-5 : Int32) then
(bi (fX5_restore n m9) (fun r18 m18 =>
if r18 = (-5 : Int32) then
(bi (fX5_close n m18) (fun r27 m27 =>
if r27 = (-4 : Int32) then
(bi (fX5_count n (5 : Int32) m27) (fun r37 m37 =>
if r37 = (40 : Int32) then
(bi (fX5_count n (9 : Int32) m37) (fun r48 m48 =>
if r48 = 0 then
(bi (fX5_greatest n (0 : Int32) m48) (fun r56 m56 =>
if r56 = (-5 : Int32) then
(bi (fX5_addFlat n (50 : Int32) m56) (fun r67 m67 =>
if r67 = 0 then
(bi (fX5_addFlat n (100 : Int32) m67) (fun r76 m76 =>
if r76 = (1 : Int32) then
(bi (fX5_addDevice n (0 : Int32) (2 : Int32) m76) (fun r86 m86 =>
if r86 = 0 then
(bi (fX5_addDevice n (1 : Int32) (1 : Int32) m86) (fun r95 m95 =>
if r95 = (1 : Int32) then
(bi (fX5_addDevice n (1 : Int32) (3 : Int32) m95) (fun r105 m105 =>
if r105 = (2 : Int32) then
(bi (fX5_set n (0 : Int32) (1000 : Int32) m105) (fun r117 m117 =>
if r117 = 0 then
(bi (fX5_flat n (0 : Int32) (3 : Int32) m117) (fun r126 m126 =>
if r126 = (133 : Int32) then
(bi (fX5_flat n (1 : Int32) (3 : Int32) m126) (fun r138 m138 =>
if r138 = (267 : Int32) then
(bi (fX5_flat n (0 : Int32) (4 : Int32) m138) (fun r150 m150 =>
if r150 = (200 : Int32) then
(bi (fX5_flat n (1 : Int32) (5 : Int32) m150) (fun r162 m162 =>
if r162 = (667 : Int32) then
(bi (fX5_flat n (1 : Int32) (1 : Int32) m162) (fun r174 m174 =>
if r174 = (6 : Int32) then
(bi (fX5_count n (7 : Int32) m174) (fun r185 m185 =>
if r185 = (150 : Int32) then
(bi (fX5_read n (0 : Int32) (10 : Int32) m185) (fun r200 m200 =>
if r200 = (20 : Int32) then
(bi (fX5_read n (1 : Int32) (30 : Int32) m200) (fun r212 m212 =>
if r212 = (30 : Int32) then
(bi (fX5_read n (2 : Int32) (10 : Int32) m212) (fun r224 m224 =>
if r224 = (30 : Int32) then
(bi (fX5_flat n (0 : Int32) (4 : Int32) m224) (fun r235 m235 =>
if r235 = (150 : Int32) then
(bi (fX5_flat n (1 : Int32) (5 : Int32) m235) (fun r247 m247 =>
if r247 = (717 : Int32) then
(bi (fX5_greatest n (0 : Int32) m247) (fun r258 m258 =>
if r258 = (1 : Int32) then
(bi (fX5_greatest n (1 : Int32) m258) (fun r267 m267 =>
if r267 = 0 then
(bi (fX5_greatest n (2 : Int32) m267) (fun r275 m275 =>
if r275 = (-5 : Int32) then
(bi (fX5_mark n (2 : Int32) (1 : Int32) m275) (fun r286 m286 =>
if r286 = (1 : Int32) then
(bi (fX5_device n (2 : Int32) (5 : Int32) m286) (fun r296 m296 =>
if r296 = (50 : Int32) then
(bi (fX5_flat n (1 : Int32) (2 : Int32) m296) (fun r307 m307 =>
if r307 = (80 : Int32) then
(bi (fX5_flat n (0 : Int32) (4 : Int32) m307) (fun r318 m318 =>
if r318 = (120 : Int32) then
(bi (fX5_between n (1 : Int32) (5 : Int32) m318) (fun r329 m329 =>
if r329 = (-4 : Int32) then
(bi (fX5_draft n (1 : Int32) (1 : Int32) m329) (fun r340 m340 =>
if r340 = (-1 : Int32) then
(bi (fX5_draft n (1 : Int32) (0 : Int32) m340) (fun r350 m350 =>
if r350 = (747 : Int32) then
(bi (fX5_move n (1 : Int32) (6 : Int32) m350) (fun r363 m363 =>
if r363 = (583 : Int32) then
(bi (fX5_move n (1 : Int32) (7 : Int32) m363) (fun r376 m376 =>
if r376 = (-4 : Int32) then
(bi (fX5_draft n (1 : Int32) (0 : Int32) m376) (fun r387 m387 =>
if r387 = (412 : Int32) then
(bi (fX5_draft n (1 : Int32) (1 : Int32) m387) (fun r399 m399 =>
if r399 = (335 : Int32) then
(bi (fX5_between n (1 : Int32) (500 : Int32) m399) (fun r413 m413 =>
if r413 = (1 : Int32) then
(bi (fX5_draft n (1 : Int32) (0 : Int32) m413) (fun r423 m423 =>
if r423 = (373 : Int32) then
(bi (fX5_between n (1 : Int32) (250 : Int32) m423) (fun r437 m437 =>
if r437 = 0 then
(bi (fX5_draft n (1 : Int32) (0 : Int32) m437) (fun r446 m446 =>
if r446 = (253 : Int32) then
(bi (fX5_draft n (1 : Int32) (1 : Int32) m446) (fun r458 m458 =>
if r458 = (494 : Int32) then
(bi (fX5_flat n (1 : Int32) (6 : Int32) m458) (fun r471 m471 =>
if r471 = (6 : Int32) then
(bi (fX5_flat n (1 : Int32) (7 : Int32) m471) (fun r483 m483 =>
if r483 = (250 : Int32) then
(bi (fX5_count n (12 : Int32) m483) (fun r495 m495 =>
if r495 = (1 : Int32) then
(bi (fL_refused n m495) (fun r503 m503 =>
if r503 = 0 then
(some (0 : Int32))
else
(bi (fX5_close n m503) (fun r512 m512 =>
if r512 = 0 then
(bi (fX5_count n (0 : Int32) m512) (fun r520 m520 =>
if r520 = (1 : Int32) then
(bi (fX5_count n (10 : Int32) m520) (fun r530 m530 =>
if r530 = (1000 : Int32) then
(bi (fX5_count n (4 : Int32) m530) (fun r541 m541 =>
if r541 = 0 then
(bi (fX5_bill n (0 : Int32) (1 : Int32) (0 : Int32) (0 : Int32) m541) (fun r552 m552 =>
if r552 = (253 : Int32) then
(bi (fX5_bill n (0 : Int32) (1 : Int32) (1 : Int32) (0 : Int32) m552) (fun r566 m566 =>
if r566 = (494 : Int32) then
(bi (fX5_bill n (0 : Int32) (0 : Int32) (0 : Int32) (0 : Int32) m566) (fun r580 m580 =>
if r580 = (253 : Int32) then
(bi (fX5_bill n (0 : Int32) (0 : Int32) (1 : Int32) (0 : Int32) m580) (fun r594 m594 =>
if r594 = (-1 : Int32) then
(bi (fX5_bill n (0 : Int32) (0 : Int32) (0 : Int32) (1 : Int32) m594) (fun r606 m606 =>
if r606 = (1000000 : Int32) then
(bi (fX5_units n (0 : Int32) (2 : Int32) m606) (fun r617 m617 =>
if r617 = (50 : Int32) then
(bi (fX5_device n (2 : Int32) (2 : Int32) m617) (fun r628 m628 =>
if r628 = (10 : Int32) then
(bi (fX5_device n (2 : Int32) (3 : Int32) m628) (fun r639 m639 =>
if r639 = (10 : Int32) then
(bi (fX5_device n (2 : Int32) (4 : Int32) m639) (fun r650 m650 =>
if r650 = (1 : Int32) then
(bi (fX5_device n (2 : Int32) (5 : Int32) m650) (fun r660 m660 =>
if r660 = 0 then
(bi (fX5_flat n (1 : Int32) (6 : Int32) m660) (fun r670 m670 =>
if r670 = (-5 : Int32) then
(bi (fX5_flat n (1 : Int32) (7 : Int32) m670) (fun r682 m682 =>
if r682 = (-5 : Int32) then
(bi (fX5_count n (12 : Int32) m682) (fun r693 m693 =>
if r693 = 0 then
(bi (fX5_addFlat n (5 : Int32) m693) (fun r701 m701 =>
if r701 = (-4 : Int32) then
(bi (fX5_read n (0 : Int32) (9 : Int32) m701) (fun r713 m713 =>
if r713 = (-4 : Int32) then
(bi (fX5_set n (2 : Int32) (1 : Int32) m713) (fun r724 m724 =>
if r724 = 0 then
(bi (fX5_device n (2 : Int32) (5 : Int32) m724) (fun r733 m733 =>
if r733 = (50 : Int32) then
(bi (fX5_addDevice n (0 : Int32) (1 : Int32) m733) (fun r744 m744 =>
if r744 = (3 : Int32) then
(bi (fX5_units n (0 : Int32) (3 : Int32) m744) (fun r754 m754 =>
if r754 = (-1 : Int32) then
(bi (fX5_mark n (3 : Int32) (1 : Int32) m754) (fun r764 m764 =>
if r764 = (2 : Int32) then
(bi (fX5_device n (3 : Int32) (5 : Int32) m764) (fun r774 m774 =>
if r774 = 0 then
(bi (fX5_correct n (0 : Int32) (2 : Int32) (10 : Int32) m774) (fun r787 m787 =>
if r787 = (3 : Int32) then
(bi (fX5_bill n (0 : Int32) (0 : Int32) (0 : Int32) (0 : Int32) m787) (fun r799 m799 =>
if r799 = (333 : Int32) then
(bi (fX5_bill n (0 : Int32) (1 : Int32) (0 : Int32) (0 : Int32) m799) (fun r813 m813 =>
if r813 = (233 : Int32) then
(bi (fX5_bill n (0 : Int32) (1 : Int32) (1 : Int32) (0 : Int32) m813) (fun r827 m827 =>
if r827 = (434 : Int32) then
(bi (fX5_bill n (0 : Int32) (0 : Int32) (0 : Int32) (1 : Int32) m827) (fun r841 m841 =>
if r841 = (1000080 : Int32) then
(bi (fX5_bill n (0 : Int32) (1 : Int32) (0 : Int32) (1 : Int32) m841) (fun r854 m854 =>
if r854 = (999980 : Int32) then
(bi (fX5_bill n (0 : Int32) (1 : Int32) (1 : Int32) (1 : Int32) m854) (fun r867 m867 =>
if r867 = (999940 : Int32) then
(bi (fX5_device n (2 : Int32) (5 : Int32) m867) (fun r878 m878 =>
if r878 = (10 : Int32) then
(bi (fX5_count n (10 : Int32) m878) (fun r889 m889 =>
if r889 = (1000 : Int32) then
(bi (fX5_count n (11 : Int32) m889) (fun r901 m901 =>
if r901 = (1 : Int32) then
(bi (fX5_set n (0 : Int32) (300 : Int32) m901) (fun r913 m913 =>
if r913 = 0 then
(bi (fX5_flat n (0 : Int32) (5 : Int32) m913) (fun r922 m922 =>
if r922 = (40 : Int32) then
(bi (fX5_flat n (1 : Int32) (5 : Int32) m922) (fun r933 m933 =>
if r933 = (260 : Int32) then
(bi (fX5_billIf n (0 : Int32) (100 : Int32) m933) (fun r946 m946 =>
if r946 = (100 : Int32) then
(bi (fX5_billIf n (0 : Int32) (0 : Int32) m946) (fun r957 m957 =>
if r957 = 0 then
(bi (fX5_bestShare n (0 : Int32) m957) (fun r965 m965 =>
if r965 = 0 then
(bi (fX5_bestShare n (1 : Int32) m965) (fun r973 m973 =>
if r973 = (100 : Int32) then
(bi (fX5_billIf n (1 : Int32) (100 : Int32) m973) (fun r985 m985 =>
if r985 = (200 : Int32) then
(bi (fL_refused n m985) (fun r995 m995 =>
if r995 = 0 then
(some (0 : Int32))
else
x))
else
(some (0 : Int32))))
else
(some (0 : Int32))))
else
(some (0 : Int32))))
else
(some (0 : Int32))))
else
(some (0 : Int32))))
else
(some (0 : Int32))))
else
(some (0 : Int32))))
else
(some (0 : Int32))))
else
(some (0 : Int32))))
else
(some (0 : Int32))))
else
(some (0 : Int32))))
else
(some (0 : Int32))))
else
(some (0 : Int32))))
else
(some (0 : Int32))))
else
(some (0 : Int32))))
else
(some (0 : Int32))))
else
(some (0 : Int32))))
else
(some (0 : Int32))))
else
(some (0 : Int32))))
else
(some (0 : Int32))))
else
(some (0 : Int32))))
else
(some (0 : Int32))))
else
(some (0 : Int32))))
else
(some (0 : Int32))))
else
(some (0 : Int32))))
else
(some (0 : Int32))))
else
(some (0 : Int32))))
else
(some (0 : Int32))))
else
(some (0 : Int32))))
else
(some (0 : Int32))))
else
(some (0 : Int32))))
else
(some (0 : Int32))))
else
(some (0 : Int32))))
else
(some (0 : Int32))))
else
(some (0 : Int32))))
else
(some (0 : Int32))))
else
(some (0 : Int32))))
else
(some (0 : Int32))))
else
(some (0 : Int32))))
else
(some (0 : Int32))))
else
(some (0 : Int32))))
else
(some (0 : Int32))))
else
(some (0 : Int32))))))
else
(some (0 : Int32))))
else
(some (0 : Int32))))
else
(some (0 : Int32))))
else
(some (0 : Int32))))
else
(some (0 : Int32))))
else
(some (0 : Int32))))
else
(some (0 : Int32))))
else
(some (0 : Int32))))
else
(some (0 : Int32))))
else
(some (0 : Int32))))
else
(some (0 : Int32))))
else
(some (0 : Int32))))
else
(some (0 : Int32))))
else
(some (0 : Int32))))
else
(some (0 : Int32))))
else
(some (0 : Int32))))
else
(some (0 : Int32))))
else
(some (0 : Int32))))
else
(some (0 : Int32))))
else
(some (0 : Int32))))
else
(some (0 : Int32))))
else
(some (0 : Int32))))
else
(some (0 : Int32))))
else
(some (0 : Int32))))
else
(some (0 : Int32))))
else
(some (0 : Int32))))
else
(some (0 : Int32))))
else
(some (0 : Int32))))
else
(some (0 : Int32))))
else
(some (0 : Int32))))
else
(some (0 : Int32))))
else
(some (0 : Int32))))
else
(some (0 : Int32))))
else
(some (0 : Int32))))
else
(some (0 : Int32))))
else
(some (0 : Int32))))
else
(some (0 : Int32))))
else
(some (0 : Int32))))
else
(some (0 : Int32))))
else
(some (0 : Int32))))
else
(some (0 : Int32))))
else
(some (0 : Int32))))
else
(some (0 : Int32))))
else
(some (0 : Int32))))
else
(some (0 : Int32)))
set_option maxRecDepth 100000 in
theorem yrO_1 : yrO 2147483648 (some 1) = some 1 := by decide +kernel
set_option maxRecDepth 100000 in
theorem years_1 : fL_years 2147483648 = some 1 := by
  have h : fL_years 2147483648 = yrO 2147483648 (yrP 2147483648) := rfl
  rw [h, yrP_1]
  exact yrO_1

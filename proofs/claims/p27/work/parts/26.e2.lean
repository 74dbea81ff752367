/-! BY HAND (2): years, the second object, computed -/
set_option maxRecDepth 100000 in
def yrP (n : Nat) : Option Int32 :=
(lL_years_1013 n (fun x2_1013 m1013 =>
lL_years_1040 n (fun x2_1040 m1040 =>
bi (fX5_addFlat n (5 : Int32) m1040.1) (fun r1071 m1071 =>
if r1071 = (-3 : Int32) then
(bi (fX5_addDevice n (0 : Int32) (5 : Int32) m1071) (fun r1082 m1082 =>
if r1082 = (-3 : Int32) then
(bi (fX5_addDevice n (0 : Int32) (21 : Int32) m1082) (fun r1094 m1094 =>
if r1094 = (-2 : Int32) then
(bi (fX5_mark n (19 : Int32) (1 : Int32) m1094) (fun r1106 m1106 =>
if r1106 = (1 : Int32) then
(lL_years_1117 n (fun x2_1117 m1117 =>
bi (fX5_close n m1117.1) (fun r1139 m1139 =>
if r1139 = (-3 : Int32) then
(bi (fX5_addFlat n (5 : Int32) m1139) (fun r1149 m1149 =>
if r1149 = (-3 : Int32) then
(bi (fX5_addFlat n (0 : Int32) m1149) (fun r1159 m1159 =>
if r1159 = (-2 : Int32) then
(bi (fX5_count n (10 : Int32) m1159) (fun r1170 m1170 =>
if r1170 = 0 then
(bi (fX5_bestShare n (7 : Int32) m1170) (fun r1179 m1179 =>
if r1179 = 0 then
(bi (fL_refused n m1179) (fun r1186 m1186 =>
if r1186 = 0 then
(some (0 : Int32))
else
(some (1 : Int32))))
else
(some (0 : Int32))))
else
(some (0 : Int32))))
else
(some (0 : Int32))))
else
(some (0 : Int32))))
else
(some (0 : Int32)))) n (0 : Int32) (m1106, m1040.2))
else
(some (0 : Int32))))
else
(some (0 : Int32))))
else
(some (0 : Int32))))
else
(some (0 : Int32)))) n (0 : Int32) m1013) n (0 : Int32) (mz, (fun _ => 0)))
set_option maxRecDepth 100000 in
theorem yrP_1 : yrP 2147483648 = some 1 := by decide +kernel

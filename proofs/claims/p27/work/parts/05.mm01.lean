def fX6_in (n : Nat) (p0 : Int32) (p1 : Int32) (p2 : Int32) (μ : hb_m) : Option (Int32 × hb_m) :=
if p0 < p1 then
(some ((0 : Int32), μ))
else
(if p2 < p0 then
(some ((0 : Int32), μ))
else
(some ((1 : Int32), μ)))
def lX6_lays_3 (n : Nat) (c0 : Nat) (p1 : Int32) (c2 : Nat) (p3 : Int32) (k : Int32 → hb_m → Option (hb_m)) : Nat → Int32 → hb_m → Option (hb_m)
  | 0, _, _ => none
  | f + 1, x4, μ => if (415 : Int32) ≤ x4 then
(k x4 μ)
else
(if ib (p1 + x4) (hm_n c0) then
if ib (p3 + x4) (hm_n c2) then
lX6_lays_3 n c0 p1 c2 p3 k f (x4 + (1 : Int32)) (wr μ c2 (p3 + x4).toNatClampNeg (rd μ c0 (p1 + x4).toNatClampNeg))
else none
else none)
def fX6_lays (n : Nat) (c0 : Nat) (p1 : Int32) (c2 : Nat) (p3 : Int32) (μ : hb_m) : Option (hb_m) :=
lX6_lays_3 n c0 p1 c2 p3 (fun x4_3 m3 =>
some m3) n (0 : Int32) μ
def lX6_records_10 (n : Nat) (k : Int32 → hb_m → Option (hb_m)) : Nat → Int32 → hb_m → Option (hb_m)
  | 0, _, _ => none
  | f + 1, x1, μ => if (1245 : Int32) ≤ x1 then
(k x1 μ)
else
(if ib (x1 + (415 : Int32)) 1660 then
if ib x1 1660 then
lX6_records_10 n k f (x1 + (1 : Int32)) (wr μ 2 x1.toNatClampNeg (rd μ 2 (x1 + (415 : Int32)).toNatClampNeg))
else none
else none)
def fX6_records (n : Nat) (μ : hb_m) : Option (hb_m) :=
if (rd μ 0 2) = (4 : Int32) then
(lX6_records_10 n (fun x1_10 m10 =>
bv (fX6_lays n 1 (0 : Int32) 2 ((415 : Int32) * (rd (wr m10 0 2 ((rd m10 0 2) - (1 : Int32))) 0 2)) (wr m10 0 2 ((rd m10 0 2) - (1 : Int32)))) (fun m66 =>
some (wr m66 0 2 ((rd m66 0 2) + (1 : Int32))))) n (0 : Int32) μ)
else
(bv (fX6_lays n 1 (0 : Int32) 2 ((415 : Int32) * (rd μ 0 2)) μ) (fun m66 =>
some (wr m66 0 2 ((rd m66 0 2) + (1 : Int32)))))
def fX6_undo (n : Nat) (μ : hb_m) : Option (Int32 × hb_m) :=
if (rd μ 0 2) = 0 then
(some ((-5 : Int32), μ))
else
(bv (fX6_lays n 2 ((415 : Int32) * (rd (wr μ 0 2 ((rd μ 0 2) - (1 : Int32))) 0 2)) 1 (0 : Int32) (wr μ 0 2 ((rd μ 0 2) - (1 : Int32)))) (fun m37 =>
some ((rd m37 0 2), m37)))
def fX6_keep (n : Nat) (μ : hb_m) : Option (Int32 × hb_m) :=
bv (fX6_lays n 1 (0 : Int32) 3 (0 : Int32) μ) (fun m10 =>
if ib (2 : Int32) 415 then
some ((rd (wr m10 0 4 (1 : Int32)) 1 (2 : Int32).toNatClampNeg), (wr m10 0 4 (1 : Int32)))
else none)
def fX6_restore (n : Nat) (μ : hb_m) : Option (Int32 × hb_m) :=
if (rd μ 0 4) = 0 then
(some ((-5 : Int32), μ))
else
(bv (fX6_records n μ) (fun m11 =>
bv (fX6_lays n 3 (0 : Int32) 1 (0 : Int32) m11) (fun m24 =>
if ib (2 : Int32) 415 then
some ((rd m24 1 (2 : Int32).toNatClampNeg), m24)
else none)))
def fX6_isFlat (n : Nat) (p1 : Int32) (μ : hb_m) : Option (Int32 × hb_m) :=
if ib (0 : Int32) 415 then
bi (fX6_in n p1 (0 : Int32) ((rd μ 1 (0 : Int32).toNatClampNeg) - (1 : Int32)) μ) (fun r10 m10 =>
if vp_nar .boolean r10 = r10 then some (r10, m10) else none)
else none
def fX6_isDevice (n : Nat) (p1 : Int32) (μ : hb_m) : Option (Int32 × hb_m) :=
if ib (1 : Int32) 415 then
bi (fX6_in n p1 (0 : Int32) ((rd μ 1 (1 : Int32).toNatClampNeg) - (1 : Int32)) μ) (fun r10 m10 =>
if vp_nar .boolean r10 = r10 then some (r10, m10) else none)
else none
def fX6_isClosed (n : Nat) (p1 : Int32) (μ : hb_m) : Option (Int32 × hb_m) :=
if ib (2 : Int32) 415 then
bi (fX6_in n p1 (0 : Int32) ((rd μ 1 (2 : Int32).toNatClampNeg) - (1 : Int32)) μ) (fun r10 m10 =>
if vp_nar .boolean r10 = r10 then some (r10, m10) else none)
else none
def fX6_ofFlat (n : Nat) (p1 : Int32) (p2 : Int32) (μ : hb_m) : Option (Int32 × hb_m) :=
if ib (((7 : Int32) + ((3 : Int32) * p1)) + p2) 415 then
some ((rd μ 1 (((7 : Int32) + ((3 : Int32) * p1)) + p2).toNatClampNeg), μ)
else none
def fX6_of (n : Nat) (p1 : Int32) (p2 : Int32) (μ : hb_m) : Option (Int32 × hb_m) :=
if ib (((31 : Int32) + ((5 : Int32) * p1)) + p2) 415 then
some ((rd μ 1 (((31 : Int32) + ((5 : Int32) * p1)) + p2).toNatClampNeg), μ)
else none
def fX6_puts (n : Nat) (p1 : Int32) (p2 : Int32) (p3 : Int32) (μ : hb_m) : Option (hb_m) :=
if ib (((31 : Int32) + ((5 : Int32) * p1)) + p2) 415 then
some (wr μ 1 (((31 : Int32) + ((5 : Int32) * p1)) + p2).toNatClampNeg p3)
else none
def fX6_old (n : Nat) (p0 : Int32) (p1 : Int32) (μ : hb_m) : Option (Int32 × hb_m) :=
some ((((131 : Int32) + ((71 : Int32) * p0)) + p1), μ)
def fX6_weight (n : Nat) (p0 : Int32) (μ : hb_m) : Option (Int32 × hb_m) :=
if p0 = 0 then
(some ((170 : Int32), μ))
else if p0 = 1 then
(some ((150 : Int32), μ))
else if p0 = 2 then
(some ((130 : Int32), μ))
else if p0 = 3 then
(some ((80 : Int32), μ))
else if p0 = 4 then
(some ((40 : Int32), μ))
else if p0 = 5 then
(some ((13 : Int32), μ))
else if p0 = 6 then
(some ((13 : Int32), μ))
else if p0 = 7 then
(some ((14 : Int32), μ))
else if p0 = 8 then
(some ((30 : Int32), μ))
else if p0 = 9 then
(some ((80 : Int32), μ))
else if p0 = 10 then
(some ((120 : Int32), μ))
else if p0 = 11 then
(some ((160 : Int32), μ))
else 
(some ((13 : Int32), μ))
def lX6_weightsAhead_4 (n : Nat) (p0 : Int32) (k : Int32 → Int32 → hb_m → Option (Int32 × hb_m)) : Nat → Int32 → Int32 → hb_m → Option (Int32 × hb_m)
  | 0, _, _, _ => none
  | f + 1, x2, x1, μ => if p0 ≤ x2 then
(k x2 x1 μ)
else
(bi (fX6_weight n x2 μ) (fun r11 m11 =>
lX6_weightsAhead_4 n p0 k f (x2 + (1 : Int32)) (x1 + r11) m11))
def fX6_weightsAhead (n : Nat) (p0 : Int32) (μ : hb_m) : Option (Int32 × hb_m) :=
lX6_weightsAhead_4 n p0 (fun x2_4 x1_4 m4 =>
some (x1_4, m4)) n (0 : Int32) (0 : Int32) μ
def fX6_soundUnits (n : Nat) (p1 : Int32) (μ : hb_m) : Option (Int32 × hb_m) :=
bi (fX6_of n p1 (3 : Int32) μ) (fun r3 m3 =>
bi (fX6_of n p1 (2 : Int32) m3) (fun r9 m9 =>
bi (fX6_of n p1 (1 : Int32) m9) (fun r16 m16 =>
some (((r3 - r9) * r16), m16))))
def lX6_estimated_7 (n : Nat) (p1 : Int32) (k : Int32 → Int32 → Int32 → hb_m → Option (Int32 × hb_m)) : Nat → Int32 → Int32 → Int32 → hb_m → Option (Int32 × hb_m)
  | 0, _, _, _, _ => none
  | f + 1, x4, x3, x2, μ => if ib (1 : Int32) 415 then
if (rd μ 1 (1 : Int32).toNatClampNeg) ≤ x4 then
(k x4 x3 x2 μ)
else
(bi (fX6_of n x4 (4 : Int32) μ) (fun r22 m22 =>
if r22 = 0 then
(bi (fX6_soundUnits n x4 m22) (fun r44 m44 =>
bi (fX6_of n x4 (1 : Int32) m44) (fun r63 m63 =>
lX6_estimated_7 n p1 k f (x4 + (1 : Int32)) (x3 + r63) (x2 + r44) m63)))
else
(lX6_estimated_7 n p1 k f (x4 + (1 : Int32)) (x3 + (0 : Int32)) (x2 + (0 : Int32)) m22)))
else none
def fX6_estimated (n : Nat) (p1 : Int32) (μ : hb_m) : Option (Int32 × hb_m) :=
lX6_estimated_7 n p1 (fun x4_7 x3_7 x2_7 m7 =>
if x3_7 = 0 then
(some ((0 : Int32), m7))
else
(bi (fX6_of n p1 (1 : Int32) m7) (fun r89 m89 =>
if x3_7 = 0 then none else
some (((r89 * x2_7) / x3_7), m89)))) n (0 : Int32) (0 : Int32) (0 : Int32) μ
def fX6_unitsNow (n : Nat) (p1 : Int32) (μ : hb_m) : Option (Int32 × hb_m) :=
bi (fX6_of n p1 (4 : Int32) μ) (fun r3 m3 =>
if r3 = 0 then
(bi (fX6_soundUnits n p1 m3) (fun r11 m11 =>
some (r11, m11)))
else
(if ib (2 : Int32) 415 then
if ((rd m3 1 (2 : Int32).toNatClampNeg) - (1 : Int32)) < 0 then
(if ib (5 : Int32) 415 then
if (rd m3 1 (5 : Int32).toNatClampNeg) = (1 : Int32) then
(bi (fX6_estimated n p1 m3) (fun r87 m87 =>
some (r87, m87)))
else
(bi (fX6_estimated n p1 m3) (fun r87 m87 =>
some (r87, m87)))
else none)
else
(if 0 ≤ ((rd m3 1 (2 : Int32).toNatClampNeg) - (1 : Int32)) then
(bi (fX6_old n ((rd m3 1 (2 : Int32).toNatClampNeg) - (1 : Int32)) (2 : Int32) m3) (fun r43 m43 =>
if ib r43 415 then
if (rd m43 1 r43.toNatClampNeg) ≤ p1 then
(if ib (5 : Int32) 415 then
if (rd m43 1 (5 : Int32).toNatClampNeg) = (1 : Int32) then
(bi (fX6_estimated n p1 m43) (fun r87 m87 =>
some (r87, m87)))
else
(bi (fX6_estimated n p1 m43) (fun r87 m87 =>
some (r87, m87)))
else none)
else
(if ib (5 : Int32) 415 then
if (rd m43 1 (5 : Int32).toNatClampNeg) = (1 : Int32) then
(bi (fX6_old n ((rd m3 1 (2 : Int32).toNatClampNeg) - (1 : Int32)) ((3 : Int32) + p1) m43) (fun r78 m78 =>
if ib r78 415 then
some ((rd m78 1 r78.toNatClampNeg), m78)
else none))
else
(bi (fX6_estimated n p1 m43) (fun r87 m87 =>
some (r87, m87)))
else none)
else none))
else
(bi (fX6_old n (0 : Int32) (2 : Int32) m3) (fun r43 m43 =>
if ib r43 415 then
if (rd m43 1 r43.toNatClampNeg) ≤ p1 then
(if ib (5 : Int32) 415 then
if (rd m43 1 (5 : Int32).toNatClampNeg) = (1 : Int32) then
(bi (fX6_estimated n p1 m43) (fun r87 m87 =>
some (r87, m87)))
else
(bi (fX6_estimated n p1 m43) (fun r87 m87 =>
some (r87, m87)))
else none)
else
(if ib (5 : Int32) 415 then
if (rd m43 1 (5 : Int32).toNatClampNeg) = (1 : Int32) then
(bi (fX6_old n ((rd m3 1 (2 : Int32).toNatClampNeg) - (1 : Int32)) ((3 : Int32) + p1) m43) (fun r78 m78 =>
if ib r78 415 then
some ((rd m78 1 r78.toNatClampNeg), m78)
else none))
else
(bi (fX6_estimated n p1 m43) (fun r87 m87 =>
some (r87, m87)))
else none)
else none)))
else none))
def lX6_greatestRest_4 (n : Nat) (k : Int32 → Int32 → hb_m → Option (Int32 × hb_m)) : Nat → Int32 → Int32 → hb_m → Option (Int32 × hb_m)
  | 0, _, _, _ => none
  | f + 1, x2, x1, μ => if ib (0 : Int32) 415 then
if (rd μ 1 (0 : Int32).toNatClampNeg) ≤ x2 then
(k x2 x1 μ)
else
(if ib x2 8 then
if ib x1 8 then
if (lg_cmp (rL μ 7 x2.toNatClampNeg) (rL μ 7 x1.toNatClampNeg)) ≤ 0 then
(lX6_greatestRest_4 n k f (x2 + (1 : Int32)) x1 μ)
else
(lX6_greatestRest_4 n k f (x2 + (1 : Int32)) x2 μ)
else none
else none)
else none
def fX6_greatestRest (n : Nat) (μ : hb_m) : Option (Int32 × hb_m) :=
lX6_greatestRest_4 n (fun x2_4 x1_4 m4 =>
some (x1_4, m4)) n (1 : Int32) (0 : Int32) μ
def lX6_shares_5 (n : Nat) (p1 : Int32) (k : Int32 → Int64 → hb_m → Option (hb_m)) : Nat → Int32 → Int64 → hb_m → Option (hb_m)
  | 0, _, _, _ => none
  | f + 1, x4, x2, μ => if ib (0 : Int32) 415 then
if (rd μ 1 (0 : Int32).toNatClampNeg) ≤ x4 then
(k x4 x2 μ)
else
(if ib x4 8 then
lX6_shares_5 n p1 k f (x4 + (1 : Int32)) (x2 + (rd μ 5 x4.toNatClampNeg).toInt64) μ
else none)
else none
def lX6_shares_39 (n : Nat) (p1 : Int32) (v2 : Int64) (k : Int32 → Int32 → hb_m → Option (hb_m)) : Nat → Int32 → Int32 → hb_m → Option (hb_m)
  | 0, _, _, _ => none
  | f + 1, x5, x4, μ => if ib (0 : Int32) 415 then
if (rd μ 1 (0 : Int32).toNatClampNeg) ≤ x5 then
(k x5 x4 μ)
else
(if ib x5 8 then
if v2 = 0 then none else
if ib x5 8 then
if v2 = 0 then none else
if ib x5 8 then
if ib x5 8 then
lX6_shares_39 n p1 v2 k f (x5 + (1 : Int32)) (x4 - (rd (wL (wr μ 6 x5.toNatClampNeg ((p1.toInt64 * (rd μ 5 x5.toNatClampNeg).toInt64) / v2).toInt32) 7 x5.toNatClampNeg ((p1.toInt64 * (rd μ 5 x5.toNatClampNeg).toInt64) - (p1.toInt64 * (rd μ 5 x5.toNatClampNeg).toInt64) / v2 * v2)) 6 x5.toNatClampNeg)) (wL (wr μ 6 x5.toNatClampNeg ((p1.toInt64 * (rd μ 5 x5.toNatClampNeg).toInt64) / v2).toInt32) 7 x5.toNatClampNeg ((p1.toInt64 * (rd μ 5 x5.toNatClampNeg).toInt64) - (p1.toInt64 * (rd μ 5 x5.toNatClampNeg).toInt64) / v2 * v2))
else none
else none
else none
else none)
else none
def lX6_shares_107 (n : Nat) (p1 : Int32) (v4 : Int32) (k : Int32 → hb_m → Option (hb_m)) : Nat → Int32 → hb_m → Option (hb_m)
  | 0, _, _ => none
  | f + 1, x5, μ => if v4 ≤ x5 then
(k x5 μ)
else
(bi (fX6_greatestRest n μ) (fun r115 m115 =>
if ib r115 8 then
if ib r115 8 then
if ib r115 8 then
lX6_shares_107 n p1 v4 k f (x5 + (1 : Int32)) (wL (wr m115 6 r115.toNatClampNeg ((rd m115 6 r115.toNatClampNeg) + (1 : Int32))) 7 r115.toNatClampNeg (-1 : Int64))
else none
else none
else none))
def fX6_shares (n : Nat) (p1 : Int32) (μ : hb_m) : Option (hb_m) :=
lX6_shares_5 n p1 (fun x4_5 x2_5 m5 =>
lX6_shares_39 n p1 x2_5 (fun x5_39 x4_39 m39 =>
lX6_shares_107 n p1 x4_39 (fun x5_107 m107 =>
some m107) n (0 : Int32) m39) n (0 : Int32) p1 m5) n (0 : Int32) (0 : Int64) μ
def lX6_partsAreAreas_2 (n : Nat) (k : Int32 → hb_m → Option (hb_m)) : Nat → Int32 → hb_m → Option (hb_m)
  | 0, _, _ => none
  | f + 1, x1, μ => if ib (0 : Int32) 415 then
if (rd μ 1 (0 : Int32).toNatClampNeg) ≤ x1 then
(k x1 μ)
else
(bi (fX6_ofFlat n x1 (0 : Int32) μ) (fun r20 m20 =>
if ib x1 8 then
lX6_partsAreAreas_2 n k f (x1 + (1 : Int32)) (wr m20 5 x1.toNatClampNeg r20)
else none))
else none
def fX6_partsAreAreas (n : Nat) (μ : hb_m) : Option (hb_m) :=
lX6_partsAreAreas_2 n (fun x1_2 m2 =>
some m2) n (0 : Int32) μ
def lX6_laysCosts_32 (n : Nat) (p1 : Int32) (p2 : Int32) (v3 : Int32) (k : Int32 → Int32 → hb_m → Option (hb_m)) : Nat → Int32 → Int32 → hb_m → Option (hb_m)
  | 0, _, _, _ => none
  | f + 1, x5, x4, μ => if ib (0 : Int32) 415 then
if (rd μ 1 (0 : Int32).toNatClampNeg) ≤ x5 then
(k x5 x4 μ)
else
(if ib x5 8 then
if ib x5 8 then
if ib x5 8 then
lX6_laysCosts_32 n p1 p2 v3 k f (x5 + (1 : Int32)) (x4 + (rd (wr μ 9 x5.toNatClampNeg (rd μ 6 x5.toNatClampNeg)) 8 x5.toNatClampNeg)) (wr μ 9 x5.toNatClampNeg (rd μ 6 x5.toNatClampNeg))
else none
else none
else none)
else none
def lX6_laysCosts_78 (n : Nat) (p1 : Int32) (p2 : Int32) (v4 : Int32) (v3 : Int32) (k : Int32 → hb_m → Option (hb_m)) : Nat → Int32 → hb_m → Option (hb_m)
  | 0, _, _ => none
  | f + 1, x5, μ => if ib (0 : Int32) 415 then
if (rd μ 1 (0 : Int32).toNatClampNeg) ≤ x5 then
(k x5 μ)
else
(if v4 ≤ 0 then
(k x5 μ)
else
(if ib x5 8 then
if ib x5 8 then
lX6_laysCosts_78 n p1 p2 v4 v3 k f (x5 + (1 : Int32)) (wr μ 5 x5.toNatClampNeg (rd μ 8 x5.toNatClampNeg))
else none
else none))
else none
def lX6_laysCosts_124 (n : Nat) (p1 : Int32) (p2 : Int32) (k : Int32 → hb_m → Option (hb_m)) : Nat → Int32 → hb_m → Option (hb_m)
  | 0, _, _ => none
  | f + 1, x5, μ => if ib (0 : Int32) 415 then
if (rd μ 1 (0 : Int32).toNatClampNeg) ≤ x5 then
(k x5 μ)
else
(if ib x5 8 then
if ib x5 8 then
lX6_laysCosts_124 n p1 p2 k f (x5 + (1 : Int32)) (wr μ 10 x5.toNatClampNeg (rd μ 6 x5.toNatClampNeg))
else none
else none)
else none
def fX6_laysCosts (n : Nat) (p1 : Int32) (p2 : Int32) (μ : hb_m) : Option (hb_m) :=
if ib (0 : Int32) 415 then
if (rd μ 1 (0 : Int32).toNatClampNeg) = 0 then
(some μ)
else
(bv (fX6_partsAreAreas n μ) (fun m18 =>
bv (fX6_shares n ((p1 * p2) / (100 : Int32)) m18) (fun m23 =>
lX6_laysCosts_32 n p1 p2 ((p1 * p2) / (100 : Int32)) (fun x5_32 x4_32 m32 =>
lX6_laysCosts_78 n p1 p2 x4_32 ((p1 * p2) / (100 : Int32)) (fun x5_78 m78 =>
bv (fX6_shares n (p1 - ((p1 * p2) / (100 : Int32))) m78) (fun m118 =>
lX6_laysCosts_124 n p1 p2 (fun x5_124 m124 =>
some m124) n (0 : Int32) m118)) n (0 : Int32) m32) n (0 : Int32) (0 : Int32) m23)))
else none
def lX6_laysUnits_2 (n : Nat) (k : Int32 → hb_m → Option (hb_m)) : Nat → Int32 → hb_m → Option (hb_m)
  | 0, _, _ => none
  | f + 1, x1, μ => if (8 : Int32) ≤ x1 then
(k x1 μ)
else
(if ib x1 8 then
lX6_laysUnits_2 n k f (x1 + (1 : Int32)) (wr μ 8 x1.toNatClampNeg (0 : Int32))
else none)
def lX6_laysUnits_23 (n : Nat) (k : Int32 → hb_m → Option (hb_m)) : Nat → Int32 → hb_m → Option (hb_m)
  | 0, _, _ => none
  | f + 1, x1, μ => if ib (1 : Int32) 415 then
if (rd μ 1 (1 : Int32).toNatClampNeg) ≤ x1 then
(k x1 μ)
else
(bi (fX6_of n x1 (0 : Int32) μ) (fun r40 m40 =>
if ib r40 8 then
bi (fX6_unitsNow n x1 m40) (fun r47 m47 =>
if ib r40 8 then
lX6_laysUnits_23 n k f (x1 + (1 : Int32)) (wr m47 8 r40.toNatClampNeg ((rd m40 8 r40.toNatClampNeg) + r47))
else none)
else none))
else none
def fX6_laysUnits (n : Nat) (μ : hb_m) : Option (hb_m) :=
lX6_laysUnits_2 n (fun x1_2 m2 =>
lX6_laysUnits_23 n (fun x1_23 m23 =>
some m23) n (0 : Int32) m2) n (0 : Int32) μ
def fX6_laysOpen (n : Nat) (p1 : Int32) (μ : hb_m) : Option (hb_m) :=
bv (fX6_laysUnits n μ) (fun m1 =>
if ib (3 : Int32) 415 then
bv (fX6_laysCosts n (rd m1 1 (3 : Int32).toNatClampNeg) p1 m1) (fun m12 =>
some m12)
else none)
def lX6_laysOld_2 (n : Nat) (p1 : Int32) (k : Int32 → hb_m → Option (hb_m)) : Nat → Int32 → hb_m → Option (hb_m)
  | 0, _, _ => none
  | f + 1, x2, μ => if (8 : Int32) ≤ x2 then
(k x2 μ)
else
(if ib x2 8 then
lX6_laysOld_2 n p1 k f (x2 + (1 : Int32)) (wr μ 8 x2.toNatClampNeg (0 : Int32))
else none)
def lX6_laysOld_23 (n : Nat) (p1 : Int32) (k : Int32 → hb_m → Option (hb_m)) : Nat → Int32 → hb_m → Option (hb_m)
  | 0, _, _ => none
  | f + 1, x2, μ => bi (fX6_old n p1 (2 : Int32) μ) (fun r30 m30 =>
if ib r30 415 then
if (rd m30 1 r30.toNatClampNeg) ≤ x2 then
(k x2 m30)
else
(bi (fX6_of n x2 (0 : Int32) m30) (fun r44 m44 =>
if ib r44 8 then
bi (fX6_old n p1 ((3 : Int32) + x2) m44) (fun r57 m57 =>
if ib r57 415 then
if ib r44 8 then
lX6_laysOld_23 n p1 k f (x2 + (1 : Int32)) (wr m57 8 r44.toNatClampNeg ((rd m44 8 r44.toNatClampNeg) + (rd m57 1 r57.toNatClampNeg)))
else none
else none)
else none))
else none)
def fX6_laysOld (n : Nat) (p1 : Int32) (μ : hb_m) : Option (hb_m) :=
lX6_laysOld_2 n p1 (fun x2_2 m2 =>
lX6_laysOld_23 n p1 (fun x2_23 m23 =>
bi (fX6_old n p1 (0 : Int32) m23) (fun r76 m76 =>
if ib r76 415 then
bi (fX6_old n p1 (1 : Int32) m76) (fun r86 m86 =>
if ib r86 415 then
bv (fX6_laysCosts n (rd m76 1 r76.toNatClampNeg) (rd m86 1 r86.toNatClampNeg) m86) (fun m90 =>
some m90)
else none)
else none)) n (0 : Int32) m2) n (0 : Int32) μ
def fX6_firstOf (n : Nat) (p1 : Int32) (p2 : Int32) (p3 : Int32) (μ : hb_m) : Option (Int32 × hb_m) :=
if p2 = 0 then
(if ib p1 8 then
if ib p1 8 then
some (((rd μ 9 p1.toNatClampNeg) + (rd μ 10 p1.toNatClampNeg)), μ)
else none
else none)
else
(if p3 = (-5 : Int32) then
(bi (fX6_weightsAhead n p2 μ) (fun r25 m25 =>
if ib p1 8 then
if ib p1 8 then
some (((((rd m25 9 p1.toNatClampNeg) * p2) / (12 : Int32)) + (((rd m25 10 p1.toNatClampNeg) * r25) / (1000 : Int32))), m25)
else none
else none))
else
(if ib p1 8 then
if ib p1 8 then
some (((((rd μ 9 p1.toNatClampNeg) * p2) / (12 : Int32)) + (((rd μ 10 p1.toNatClampNeg) * p3) / (1000 : Int32))), μ)
else none
else none))
def fX6_tenantOf (n : Nat) (p1 : Int32) (p2 : Int32) (p3 : Int32) (p4 : Int32) (μ : hb_m) : Option (Int32 × hb_m) :=
bi (fX6_firstOf n p1 p3 p4 μ) (fun r5 m5 =>
if p2 = 0 then
(some (r5, m5))
else
(if ib p1 8 then
if ib p1 8 then
some ((((rd m5 9 p1.toNatClampNeg) + (rd m5 10 p1.toNatClampNeg)) - r5), m5)
else none
else none))
def fX6_addFlat (n : Nat) (p1 : Int32) (μ : hb_m) : Option (Int32 × hb_m) :=
bi (fX6_in n p1 (1 : Int32) (200 : Int32) μ) (fun r5 m5 =>
if r5 = 0 then
(some ((-2 : Int32), m5))
else
(if ib (0 : Int32) 415 then
if (rd m5 1 (0 : Int32).toNatClampNeg) = (8 : Int32) then
(some ((-3 : Int32), m5))
else
(if ib (2 : Int32) 415 then
if (rd m5 1 (2 : Int32).toNatClampNeg) ≤ 0 then
(bv (fX6_records n m5) (fun m43 =>
if ib (((7 : Int32) + ((3 : Int32) * (rd m5 1 (0 : Int32).toNatClampNeg))) + (0 : Int32)) 415 then
if ib (((7 : Int32) + ((3 : Int32) * (rd m5 1 (0 : Int32).toNatClampNeg))) + (1 : Int32)) 415 then
if ib (((7 : Int32) + ((3 : Int32) * (rd m5 1 (0 : Int32).toNatClampNeg))) + (2 : Int32)) 415 then
if ib (0 : Int32) 415 then
if ib (0 : Int32) 415 then
some ((rd m5 1 (0 : Int32).toNatClampNeg), (wr (wr (wr (wr m43 1 (((7 : Int32) + ((3 : Int32) * (rd m5 1 (0 : Int32).toNatClampNeg))) + (0 : Int32)).toNatClampNeg p1) 1 (((7 : Int32) + ((3 : Int32) * (rd m5 1 (0 : Int32).toNatClampNeg))) + (1 : Int32)).toNatClampNeg (0 : Int32)) 1 (((7 : Int32) + ((3 : Int32) * (rd m5 1 (0 : Int32).toNatClampNeg))) + (2 : Int32)).toNatClampNeg (-5 : Int32)) 1 (0 : Int32).toNatClampNeg ((rd (wr (wr (wr m43 1 (((7 : Int32) + ((3 : Int32) * (rd m5 1 (0 : Int32).toNatClampNeg))) + (0 : Int32)).toNatClampNeg p1) 1 (((7 : Int32) + ((3 : Int32) * (rd m5 1 (0 : Int32).toNatClampNeg))) + (1 : Int32)).toNatClampNeg (0 : Int32)) 1 (((7 : Int32) + ((3 : Int32) * (rd m5 1 (0 : Int32).toNatClampNeg))) + (2 : Int32)).toNatClampNeg (-5 : Int32)) 1 (0 : Int32).toNatClampNeg) + (1 : Int32))))
else none
else none
else none
else none
else none))
else
(some ((-4 : Int32), m5))
else none)
else none))
def fX6_addDevice (n : Nat) (p1 : Int32) (p2 : Int32) (μ : hb_m) : Option (Int32 × hb_m) :=
bi (fX6_isFlat n p1 μ) (fun r2 m2 =>
if r2 = 0 then
(some ((-1 : Int32), m2))
else
(bi (fX6_in n p2 (1 : Int32) (20 : Int32) m2) (fun r14 m14 =>
if r14 = 0 then
(some ((-2 : Int32), m14))
else
(if ib (1 : Int32) 415 then
if (rd m14 1 (1 : Int32).toNatClampNeg) = (20 : Int32) then
(some ((-3 : Int32), m14))
else
(bv (fX6_records n m14) (fun m40 =>
bv (fX6_puts n (rd m14 1 (1 : Int32).toNatClampNeg) (0 : Int32) p1 m40) (fun m47 =>
bv (fX6_puts n (rd m14 1 (1 : Int32).toNatClampNeg) (1 : Int32) p2 m47) (fun m54 =>
bv (fX6_puts n (rd m14 1 (1 : Int32).toNatClampNeg) (2 : Int32) (0 : Int32) m54) (fun m61 =>
bv (fX6_puts n (rd m14 1 (1 : Int32).toNatClampNeg) (3 : Int32) (0 : Int32) m61) (fun m68 =>
bv (fX6_puts n (rd m14 1 (1 : Int32).toNatClampNeg) (4 : Int32) (0 : Int32) m68) (fun m75 =>
if ib (1 : Int32) 415 then
if ib (1 : Int32) 415 then
some ((rd m14 1 (1 : Int32).toNatClampNeg), (wr m75 1 (1 : Int32).toNatClampNeg ((rd m75 1 (1 : Int32).toNatClampNeg) + (1 : Int32))))
else none
else none)))))))
else none))))
def fX6_set (n : Nat) (p1 : Int32) (p2 : Int32) (μ : hb_m) : Option (Int32 × hb_m) :=
bi (fX6_in n p1 (0 : Int32) (2 : Int32) μ) (fun r3 m3 =>
if r3 = 0 then
(some ((-2 : Int32), m3))
else
(if p1 = 0 then
(bi (fX6_in n p2 (0 : Int32) (99999 : Int32) m3) (fun r31 m31 =>
if r31 = 0 then
(some ((-2 : Int32), m31))
else
(if ib ((3 : Int32) + p1) 415 then
if (rd m31 1 ((3 : Int32) + p1).toNatClampNeg) = p2 then
(some ((-5 : Int32), m31))
else
(bv (fX6_records n m31) (fun m58 =>
if ib ((3 : Int32) + p1) 415 then
some ((rd m31 1 ((3 : Int32) + p1).toNatClampNeg), (wr m58 1 ((3 : Int32) + p1).toNatClampNeg p2))
else none))
else none)))
else
(if p1 = (1 : Int32) then
(bi (fX6_in n p2 (0 : Int32) (100 : Int32) m3) (fun r31 m31 =>
if r31 = 0 then
(some ((-2 : Int32), m31))
else
(if ib ((3 : Int32) + p1) 415 then
if (rd m31 1 ((3 : Int32) + p1).toNatClampNeg) = p2 then
(some ((-5 : Int32), m31))
else
(bv (fX6_records n m31) (fun m58 =>
if ib ((3 : Int32) + p1) 415 then
some ((rd m31 1 ((3 : Int32) + p1).toNatClampNeg), (wr m58 1 ((3 : Int32) + p1).toNatClampNeg p2))
else none))
else none)))
else
(bi (fX6_in n p2 (0 : Int32) (1 : Int32) m3) (fun r31 m31 =>
if r31 = 0 then
(some ((-2 : Int32), m31))
else
(if ib ((3 : Int32) + p1) 415 then
if (rd m31 1 ((3 : Int32) + p1).toNatClampNeg) = p2 then
(some ((-5 : Int32), m31))
else
(bv (fX6_records n m31) (fun m58 =>
if ib ((3 : Int32) + p1) 415 then
some ((rd m31 1 ((3 : Int32) + p1).toNatClampNeg), (wr m58 1 ((3 : Int32) + p1).toNatClampNeg p2))
else none))
else none))))))
def fX6_read (n : Nat) (p1 : Int32) (p2 : Int32) (μ : hb_m) : Option (Int32 × hb_m) :=
bi (fX6_isDevice n p1 μ) (fun r2 m2 =>
if r2 = 0 then
(some ((-1 : Int32), m2))
else
(bi (fX6_in n p2 (0 : Int32) (9999 : Int32) m2) (fun r15 m15 =>
if r15 = 0 then
(some ((-2 : Int32), m15))
else
(bi (fX6_of n p1 (2 : Int32) m15) (fun r28 m28 =>
if r28 ≤ p2 then
(bi (fX6_of n p1 (3 : Int32) m28) (fun r41 m41 =>
if p2 = r41 then
(some ((-5 : Int32), m41))
else
(bv (fX6_records n m41) (fun m51 =>
bv (fX6_puts n p1 (3 : Int32) p2 m51) (fun m58 =>
bi (fX6_unitsNow n p1 m58) (fun r63 m63 =>
some (r63, m63)))))))
else
(some ((-4 : Int32), m28)))))))
def lX6_faulty_4 (n : Nat) (k : Int32 → Int32 → hb_m → Option (Int32 × hb_m)) : Nat → Int32 → Int32 → hb_m → Option (Int32 × hb_m)
  | 0, _, _, _ => none
  | f + 1, x2, x1, μ => if ib (1 : Int32) 415 then
if (rd μ 1 (1 : Int32).toNatClampNeg) ≤ x2 then
(k x2 x1 μ)
else
(bi (fX6_of n x2 (4 : Int32) μ) (fun r18 m18 =>
lX6_faulty_4 n k f (x2 + (1 : Int32)) (x1 + r18) m18))
else none
def fX6_faulty (n : Nat) (μ : hb_m) : Option (Int32 × hb_m) :=
lX6_faulty_4 n (fun x2_4 x1_4 m4 =>
some (x1_4, m4)) n (0 : Int32) (0 : Int32) μ
def fX6_mark (n : Nat) (p1 : Int32) (p2 : Int32) (μ : hb_m) : Option (Int32 × hb_m) :=
bi (fX6_isDevice n p1 μ) (fun r2 m2 =>
if r2 = 0 then
(some ((-1 : Int32), m2))
else
(bi (fX6_of n p1 (4 : Int32) m2) (fun r13 m13 =>
if p2 = 0 then
(if r13 = (0 : Int32) then
(some ((-5 : Int32), m13))
else
(bv (fX6_records n m13) (fun m32 =>
if p2 = 0 then
(bv (fX6_puts n p1 (4 : Int32) (0 : Int32) m32) (fun m47 =>
bi (fX6_faulty n m47) (fun r51 m51 =>
some (r51, m51))))
else
(bv (fX6_puts n p1 (4 : Int32) (1 : Int32) m32) (fun m47 =>
bi (fX6_faulty n m47) (fun r51 m51 =>
some (r51, m51)))))))
else
(if r13 = (1 : Int32) then
(some ((-5 : Int32), m13))
else
(bv (fX6_records n m13) (fun m32 =>
if p2 = 0 then
(bv (fX6_puts n p1 (4 : Int32) (0 : Int32) m32) (fun m47 =>
bi (fX6_faulty n m47) (fun r51 m51 =>
some (r51, m51))))
else
(bv (fX6_puts n p1 (4 : Int32) (1 : Int32) m32) (fun m47 =>
bi (fX6_faulty n m47) (fun r51 m51 =>
some (r51, m51))))))))))
def fX6_move (n : Nat) (p1 : Int32) (p2 : Int32) (μ : hb_m) : Option (Int32 × hb_m) :=
bi (fX6_isFlat n p1 μ) (fun r2 m2 =>
if r2 = 0 then
(some ((-1 : Int32), m2))
else
(bi (fX6_in n p2 (1 : Int32) (11 : Int32) m2) (fun r14 m14 =>
if r14 = 0 then
(some ((-2 : Int32), m14))
else
(bi (fX6_ofFlat n p1 (1 : Int32) m14) (fun r26 m26 =>
if r26 ≤ 0 then
(bv (fX6_records n m26) (fun m36 =>
if ib (((7 : Int32) + ((3 : Int32) * p1)) + (1 : Int32)) 415 then
if ib (((7 : Int32) + ((3 : Int32) * p1)) + (2 : Int32)) 415 then
bi (fX6_weightsAhead n p2 (wr (wr m36 1 (((7 : Int32) + ((3 : Int32) * p1)) + (1 : Int32)).toNatClampNeg p2) 1 (((7 : Int32) + ((3 : Int32) * p1)) + (2 : Int32)).toNatClampNeg (-5 : Int32))) (fun r69 m69 =>
some (r69, m69))
else none
else none))
else
(some ((-4 : Int32), m26)))))))
def fX6_between (n : Nat) (p1 : Int32) (p2 : Int32) (μ : hb_m) : Option (Int32 × hb_m) :=
bi (fX6_isFlat n p1 μ) (fun r2 m2 =>
if r2 = 0 then
(some ((-1 : Int32), m2))
else
(bi (fX6_in n p2 (0 : Int32) (1000 : Int32) m2) (fun r15 m15 =>
if r15 = 0 then
(some ((-2 : Int32), m15))
else
(bi (fX6_ofFlat n p1 (1 : Int32) m15) (fun r27 m27 =>
if r27 = 0 then
(some ((-4 : Int32), m27))
else
(bi (fX6_ofFlat n p1 (2 : Int32) m27) (fun r39 m39 =>
if r39 = p2 then
(some ((-5 : Int32), m39))
else
(bv (fX6_records n m39) (fun m52 =>
if ib (((7 : Int32) + ((3 : Int32) * p1)) + (2 : Int32)) 415 then
if r39 = (-5 : Int32) then
(some ((1 : Int32), (wr m52 1 (((7 : Int32) + ((3 : Int32) * p1)) + (2 : Int32)).toNatClampNeg p2)))
else
(some ((0 : Int32), (wr m52 1 (((7 : Int32) + ((3 : Int32) * p1)) + (2 : Int32)).toNatClampNeg p2)))
else none)))))))))
def lX6_close_91 (n : Nat) (v1 : Int32) (k : Int32 → hb_m → Option (Int32 × hb_m)) : Nat → Int32 → hb_m → Option (Int32 × hb_m)
  | 0, _, _ => none
  | f + 1, x2, μ => if ib (1 : Int32) 415 then
if (rd μ 1 (1 : Int32).toNatClampNeg) ≤ x2 then
(k x2 μ)
else
(bi (fX6_old n v1 ((3 : Int32) + x2) μ) (fun r109 m109 =>
bi (fX6_unitsNow n x2 m109) (fun r114 m114 =>
if ib r109 415 then
lX6_close_91 n v1 k f (x2 + (1 : Int32)) (wr m114 1 r109.toNatClampNeg r114)
else none)))
else none
def lX6_close_126 (n : Nat) (v1 : Int32) (k : Int32 → hb_m → Option (Int32 × hb_m)) : Nat → Int32 → hb_m → Option (Int32 × hb_m)
  | 0, _, _ => none
  | f + 1, x2, μ => if ib (0 : Int32) 415 then
if (rd μ 1 (0 : Int32).toNatClampNeg) ≤ x2 then
(k x2 μ)
else
(bi (fX6_ofFlat n x2 (1 : Int32) μ) (fun r139 m139 =>
bi (fX6_ofFlat n x2 (2 : Int32) m139) (fun r146 m146 =>
bi (fX6_old n v1 ((23 : Int32) + ((2 : Int32) * x2)) m146) (fun r162 m162 =>
if ib r162 415 then
bi (fX6_old n v1 (((23 : Int32) + ((2 : Int32) * x2)) + (1 : Int32)) (wr m162 1 r162.toNatClampNeg r139)) (fun r180 m180 =>
if ib r180 415 then
bi (fX6_old n v1 ((39 : Int32) + ((2 : Int32) * x2)) (wr m180 1 r180.toNatClampNeg r146)) (fun r197 m197 =>
bi (fX6_tenantOf n x2 (0 : Int32) r139 r146 m197) (fun r206 m206 =>
if ib r197 415 then
bi (fX6_old n v1 (((39 : Int32) + ((2 : Int32) * x2)) + (1 : Int32)) (wr m206 1 r197.toNatClampNeg r206)) (fun r223 m223 =>
bi (fX6_tenantOf n x2 (1 : Int32) r139 r146 m223) (fun r232 m232 =>
if ib r223 415 then
bi (fX6_old n v1 ((55 : Int32) + ((2 : Int32) * x2)) (wr m232 1 r223.toNatClampNeg r232)) (fun r247 m247 =>
if ib r247 415 then
bi (fX6_old n v1 (((55 : Int32) + ((2 : Int32) * x2)) + (1 : Int32)) (wr m247 1 r247.toNatClampNeg (0 : Int32))) (fun r265 m265 =>
if ib r265 415 then
if ib (((7 : Int32) + ((3 : Int32) * x2)) + (1 : Int32)) 415 then
if ib (((7 : Int32) + ((3 : Int32) * x2)) + (2 : Int32)) 415 then
lX6_close_126 n v1 k f (x2 + (1 : Int32)) (wr (wr (wr m265 1 r265.toNatClampNeg (0 : Int32)) 1 (((7 : Int32) + ((3 : Int32) * x2)) + (1 : Int32)).toNatClampNeg (0 : Int32)) 1 (((7 : Int32) + ((3 : Int32) * x2)) + (2 : Int32)).toNatClampNeg (-5 : Int32))
else none
else none
else none)
else none)
else none))
else none))
else none)
else none))))
else none
def lX6_close_307 (n : Nat) (v1 : Int32) (k : Int32 → hb_m → Option (Int32 × hb_m)) : Nat → Int32 → hb_m → Option (Int32 × hb_m)
  | 0, _, _ => none
  | f + 1, x2, μ => if ib (1 : Int32) 415 then
if (rd μ 1 (1 : Int32).toNatClampNeg) ≤ x2 then
(k x2 μ)
else
(bi (fX6_of n x2 (3 : Int32) μ) (fun r323 m323 =>
bv (fX6_puts n x2 (2 : Int32) r323 m323) (fun m326 =>
lX6_close_307 n v1 k f (x2 + (1 : Int32)) m326)))
else none
def fX6_close (n : Nat) (μ : hb_m) : Option (Int32 × hb_m) :=
if ib (2 : Int32) 415 then
if (rd μ 1 (2 : Int32).toNatClampNeg) = (4 : Int32) then
(some ((-3 : Int32), μ))
else
(if ib (0 : Int32) 415 then
if (rd μ 1 (0 : Int32).toNatClampNeg) = 0 then
(some ((-4 : Int32), μ))
else
(bv (fX6_records n μ) (fun m28 =>
if ib (4 : Int32) 415 then
bv (fX6_laysOpen n (rd m28 1 (4 : Int32).toNatClampNeg) m28) (fun m38 =>
bi (fX6_old n (rd μ 1 (2 : Int32).toNatClampNeg) (0 : Int32) m38) (fun r47 m47 =>
if ib (3 : Int32) 415 then
if ib r47 415 then
bi (fX6_old n (rd μ 1 (2 : Int32).toNatClampNeg) (1 : Int32) (wr m47 1 r47.toNatClampNeg (rd m47 1 (3 : Int32).toNatClampNeg))) (fun r63 m63 =>
if ib (4 : Int32) 415 then
if ib r63 415 then
bi (fX6_old n (rd μ 1 (2 : Int32).toNatClampNeg) (2 : Int32) (wr m63 1 r63.toNatClampNeg (rd m63 1 (4 : Int32).toNatClampNeg))) (fun r79 m79 =>
if ib (1 : Int32) 415 then
if ib r79 415 then
lX6_close_91 n (rd μ 1 (2 : Int32).toNatClampNeg) (fun x2_91 m91 =>
lX6_close_126 n (rd μ 1 (2 : Int32).toNatClampNeg) (fun x2_126 m126 =>
lX6_close_307 n (rd μ 1 (2 : Int32).toNatClampNeg) (fun x2_307 m307 =>
if ib (3 : Int32) 415 then
if ib (2 : Int32) 415 then
if ib (2 : Int32) 415 then
some ((rd μ 1 (2 : Int32).toNatClampNeg), (wr (wr m307 1 (3 : Int32).toNatClampNeg (0 : Int32)) 1 (2 : Int32).toNatClampNeg ((rd (wr m307 1 (3 : Int32).toNatClampNeg (0 : Int32)) 1 (2 : Int32).toNatClampNeg) + (1 : Int32))))
else none
else none
else none) n (0 : Int32) m126) n (0 : Int32) m91) n (0 : Int32) (wr m79 1 r79.toNatClampNeg (rd m79 1 (1 : Int32).toNatClampNeg))
else none
else none)
else none
else none)
else none
else none))
else none))
else none)
else none
def lX6_correct_101 (n : Nat) (p1 : Int32) (p2 : Int32) (p3 : Int32) (k : Int32 → Int32 → hb_m → Option (Int32 × hb_m)) : Nat → Int32 → Int32 → hb_m → Option (Int32 × hb_m)
  | 0, _, _, _ => none
  | f + 1, x5, x4, μ => if ib (0 : Int32) 415 then
if ((2 : Int32) * (rd μ 1 (0 : Int32).toNatClampNeg)) ≤ x5 then
(k x5 x4 μ)
else
(if (x5 - x5 / (2 : Int32) * (2 : Int32)) = (1 : Int32) then
(bi (fX6_old n p1 ((23 : Int32) + ((2 : Int32) * (x5 / (2 : Int32)))) μ) (fun r148 m148 =>
if ib r148 415 then
bi (fX6_old n p1 (((23 : Int32) + ((2 : Int32) * (x5 / (2 : Int32)))) + (1 : Int32)) m148) (fun r166 m166 =>
if ib r166 415 then
bi (fX6_tenantOf n (x5 / (2 : Int32)) (1 : Int32) (rd m148 1 r148.toNatClampNeg) (rd m166 1 r166.toNatClampNeg) m166) (fun r170 m170 =>
bi (fX6_old n p1 ((39 : Int32) + x5) m170) (fun r187 m187 =>
if ib r187 415 then
if (r170 - (rd m187 1 r187.toNatClampNeg)) = 0 then
(bi (fX6_old n p1 ((55 : Int32) + x5) m187) (fun r219 m219 =>
if ib r219 415 then
if ib r219 415 then
bi (fX6_old n p1 ((39 : Int32) + x5) (wr m219 1 r219.toNatClampNeg ((rd m219 1 r219.toNatClampNeg) + (r170 - (rd m187 1 r187.toNatClampNeg))))) (fun r238 m238 =>
if ib r238 415 then
lX6_correct_101 n p1 p2 p3 k f (x5 + (1 : Int32)) (x4 + (0 : Int32)) (wr m238 1 r238.toNatClampNeg r170)
else none)
else none
else none))
else
(bi (fX6_old n p1 ((55 : Int32) + x5) m187) (fun r219 m219 =>
if ib r219 415 then
if ib r219 415 then
bi (fX6_old n p1 ((39 : Int32) + x5) (wr m219 1 r219.toNatClampNeg ((rd m219 1 r219.toNatClampNeg) + (r170 - (rd m187 1 r187.toNatClampNeg))))) (fun r238 m238 =>
if ib r238 415 then
lX6_correct_101 n p1 p2 p3 k f (x5 + (1 : Int32)) (x4 + (1 : Int32)) (wr m238 1 r238.toNatClampNeg r170)
else none)
else none
else none))
else none))
else none)
else none))
else
(bi (fX6_old n p1 ((23 : Int32) + ((2 : Int32) * (x5 / (2 : Int32)))) μ) (fun r148 m148 =>
if ib r148 415 then
bi (fX6_old n p1 (((23 : Int32) + ((2 : Int32) * (x5 / (2 : Int32)))) + (1 : Int32)) m148) (fun r166 m166 =>
if ib r166 415 then
bi (fX6_tenantOf n (x5 / (2 : Int32)) (0 : Int32) (rd m148 1 r148.toNatClampNeg) (rd m166 1 r166.toNatClampNeg) m166) (fun r170 m170 =>
bi (fX6_old n p1 ((39 : Int32) + x5) m170) (fun r187 m187 =>
if ib r187 415 then
if (r170 - (rd m187 1 r187.toNatClampNeg)) = 0 then
(bi (fX6_old n p1 ((55 : Int32) + x5) m187) (fun r219 m219 =>
if ib r219 415 then
if ib r219 415 then
bi (fX6_old n p1 ((39 : Int32) + x5) (wr m219 1 r219.toNatClampNeg ((rd m219 1 r219.toNatClampNeg) + (r170 - (rd m187 1 r187.toNatClampNeg))))) (fun r238 m238 =>
if ib r238 415 then
lX6_correct_101 n p1 p2 p3 k f (x5 + (1 : Int32)) (x4 + (0 : Int32)) (wr m238 1 r238.toNatClampNeg r170)
else none)
else none
else none))
else
(bi (fX6_old n p1 ((55 : Int32) + x5) m187) (fun r219 m219 =>
if ib r219 415 then
if ib r219 415 then
bi (fX6_old n p1 ((39 : Int32) + x5) (wr m219 1 r219.toNatClampNeg ((rd m219 1 r219.toNatClampNeg) + (r170 - (rd m187 1 r187.toNatClampNeg))))) (fun r238 m238 =>
if ib r238 415 then
lX6_correct_101 n p1 p2 p3 k f (x5 + (1 : Int32)) (x4 + (1 : Int32)) (wr m238 1 r238.toNatClampNeg r170)
else none)
else none
else none))
else none))
else none)
else none)))
else none
def fX6_correct (n : Nat) (p1 : Int32) (p2 : Int32) (p3 : Int32) (μ : hb_m) : Option (Int32 × hb_m) :=
bi (fX6_isClosed n p1 μ) (fun r2 m2 =>
if r2 = 0 then
(some ((-1 : Int32), m2))
else
(bi (fX6_old n p1 (2 : Int32) m2) (fun r16 m16 =>
if ib r16 415 then
bi (fX6_in n p2 (0 : Int32) ((rd m16 1 r16.toNatClampNeg) - (1 : Int32)) m16) (fun r22 m22 =>
if r22 = 0 then
(some ((-1 : Int32), m22))
else
(bi (fX6_in n p3 (0 : Int32) (199980 : Int32) m22) (fun r34 m34 =>
if r34 = 0 then
(some ((-2 : Int32), m34))
else
(bi (fX6_old n p1 ((3 : Int32) + p2) m34) (fun r51 m51 =>
if ib r51 415 then
if (rd m51 1 r51.toNatClampNeg) = p3 then
(some ((-5 : Int32), m51))
else
(bv (fX6_records n m51) (fun m63 =>
bi (fX6_old n p1 ((3 : Int32) + p2) m63) (fun r74 m74 =>
if ib r74 415 then
if ib (6 : Int32) 415 then
if ib (6 : Int32) 415 then
bv (fX6_laysOld n p1 (wr (wr m74 1 r74.toNatClampNeg p3) 1 (6 : Int32).toNatClampNeg ((rd (wr m74 1 r74.toNatClampNeg p3) 1 (6 : Int32).toNatClampNeg) + (1 : Int32)))) (fun m92 =>
lX6_correct_101 n p1 p2 p3 (fun x5_101 x4_101 m101 =>
some (x4_101, m101)) n (0 : Int32) (0 : Int32) m92)
else none
else none
else none)))
else none)))))
else none)))
def fX6_type (n : Nat) (p1 : Int32) (μ : hb_m) : Option (Int32 × hb_m) :=
if (rd μ 0 6) = (60 : Int32) then
(some ((-3 : Int32), μ))
else
(if ib (rd μ 0 6) 60 then
some ((rd (wr (wr μ 4 (rd μ 0 6).toNatClampNeg (vp_nar .char p1)) 0 6 ((rd (wr μ 4 (rd μ 0 6).toNatClampNeg (vp_nar .char p1)) 0 6) + (1 : Int32))) 0 6), (wr (wr μ 4 (rd μ 0 6).toNatClampNeg (vp_nar .char p1)) 0 6 ((rd (wr μ 4 (rd μ 0 6).toNatClampNeg (vp_nar .char p1)) 0 6) + (1 : Int32))))
else none)
def fX6_clearText (n : Nat) (μ : hb_m) : Option (Int32 × hb_m) :=
some ((rd μ 0 6), (wr μ 0 6 (0 : Int32)))
def fX6_sees (n : Nat) (p1 : Int32) (p2 : Int32) (μ : hb_m) : Option (Int32 × hb_m) :=
if (rd μ 0 6) ≤ (rd μ 0 13) then
(some ((0 : Int32), μ))
else
(if ib (rd μ 0 13) 60 then
bi (fX6_in n (rd μ 4 (rd μ 0 13).toNatClampNeg) p1 p2 μ) (fun r22 m22 =>
if r22 = 0 then
(some ((0 : Int32), m22))
else
(some ((1 : Int32), m22)))
else none)
def fX6_takes (n : Nat) (p1 : Int32) (μ : hb_m) : Option (Int32 × hb_m) :=
bi (fX6_sees n p1 p1 μ) (fun r3 m3 =>
if r3 = 0 then
(if vp_nar .boolean r3 = r3 then some (r3, (wr m3 0 13 ((rd m3 0 13) + (0 : Int32)))) else none)
else
(if vp_nar .boolean r3 = r3 then some (r3, (wr m3 0 13 ((rd m3 0 13) + (1 : Int32)))) else none))
def lX6_number_37 (n : Nat) (p1 : Int32) (k : Int32 → hb_m → Option (Int32 × hb_m)) : Nat → Int32 → hb_m → Option (Int32 × hb_m)
  | 0, _, _ => none
  | f + 1, x2, μ => if x2 ≤ 0 then
(k x2 μ)
else
(bi (fX6_sees n (48 : Int32) (57 : Int32) μ) (fun r46 m46 =>
if r46 = 0 then
(k x2 m46)
else
(if ib (rd m46 0 13) 60 then
if p1 < ((((10 : Int32) * x2) + (rd m46 4 (rd m46 0 13).toNatClampNeg)) - (48 : Int32)) then
(k x2 m46)
else
(if ib (rd m46 0 13) 60 then
lX6_number_37 n p1 k f ((((10 : Int32) * x2) + (rd m46 4 (rd m46 0 13).toNatClampNeg)) - (48 : Int32)) (wr m46 0 13 ((rd m46 0 13) + (1 : Int32)))
else none)
else none)))
def fX6_number (n : Nat) (p1 : Int32) (μ : hb_m) : Option (Int32 × hb_m) :=
bi (fX6_sees n (48 : Int32) (57 : Int32) μ) (fun r5 m5 =>
if r5 = 0 then
(some ((-5 : Int32), m5))
else
(if ib (rd m5 0 13) 60 then
lX6_number_37 n p1 (fun x2_37 m37 =>
some (x2_37, m37)) n ((rd m5 4 (rd m5 0 13).toNatClampNeg) - (48 : Int32)) (wr m5 0 13 ((rd m5 0 13) + (1 : Int32)))
else none))
def fX6_readsOne (n : Nat) (μ : hb_m) : Option (Int32 × hb_m) :=
bi (fX6_number n (19 : Int32) μ) (fun r3 m3 =>
if r3 = (-5 : Int32) then
(some ((0 : Int32), m3))
else
(bi (fX6_takes n (61 : Int32) m3) (fun r16 m16 =>
if r16 = 0 then
(some ((0 : Int32), m16))
else
(bi (fX6_takes n (63 : Int32) m16) (fun r27 m27 =>
if r27 = 0 then
(bi (fX6_number n (9999 : Int32) m27) (fun r44 m44 =>
if r27 = 0 then
(if r44 = (-5 : Int32) then
(some ((0 : Int32), m44))
else
(if ib ((2 : Int32) * (rd m44 0 15)) 64 then
if ib (((2 : Int32) * (rd (wr m44 11 ((2 : Int32) * (rd m44 0 15)).toNatClampNeg r3) 0 15)) + (1 : Int32)) 64 then
some ((1 : Int32), (wr (wr (wr m44 11 ((2 : Int32) * (rd m44 0 15)).toNatClampNeg r3) 11 (((2 : Int32) * (rd (wr m44 11 ((2 : Int32) * (rd m44 0 15)).toNatClampNeg r3) 0 15)) + (1 : Int32)).toNatClampNeg r44) 0 15 ((rd (wr (wr m44 11 ((2 : Int32) * (rd m44 0 15)).toNatClampNeg r3) 11 (((2 : Int32) * (rd (wr m44 11 ((2 : Int32) * (rd m44 0 15)).toNatClampNeg r3) 0 15)) + (1 : Int32)).toNatClampNeg r44) 0 15) + (1 : Int32))))
else none
else none))
else
(if ib ((2 : Int32) * (rd m44 0 15)) 64 then
if ib (((2 : Int32) * (rd (wr m44 11 ((2 : Int32) * (rd m44 0 15)).toNatClampNeg r3) 0 15)) + (1 : Int32)) 64 then
some ((1 : Int32), (wr (wr (wr m44 11 ((2 : Int32) * (rd m44 0 15)).toNatClampNeg r3) 11 (((2 : Int32) * (rd (wr m44 11 ((2 : Int32) * (rd m44 0 15)).toNatClampNeg r3) 0 15)) + (1 : Int32)).toNatClampNeg r44) 0 15 ((rd (wr (wr m44 11 ((2 : Int32) * (rd m44 0 15)).toNatClampNeg r3) 11 (((2 : Int32) * (rd (wr m44 11 ((2 : Int32) * (rd m44 0 15)).toNatClampNeg r3) 0 15)) + (1 : Int32)).toNatClampNeg r44) 0 15) + (1 : Int32))))
else none
else none)))
else
(if r27 = 0 then
(if (-5 : Int32) = (-5 : Int32) then
(some ((0 : Int32), m27))
else
(if ib ((2 : Int32) * (rd m27 0 15)) 64 then
if ib (((2 : Int32) * (rd (wr m27 11 ((2 : Int32) * (rd m27 0 15)).toNatClampNeg r3) 0 15)) + (1 : Int32)) 64 then
some ((1 : Int32), (wr (wr (wr m27 11 ((2 : Int32) * (rd m27 0 15)).toNatClampNeg r3) 11 (((2 : Int32) * (rd (wr m27 11 ((2 : Int32) * (rd m27 0 15)).toNatClampNeg r3) 0 15)) + (1 : Int32)).toNatClampNeg (-5 : Int32)) 0 15 ((rd (wr (wr m27 11 ((2 : Int32) * (rd m27 0 15)).toNatClampNeg r3) 11 (((2 : Int32) * (rd (wr m27 11 ((2 : Int32) * (rd m27 0 15)).toNatClampNeg r3) 0 15)) + (1 : Int32)).toNatClampNeg (-5 : Int32)) 0 15) + (1 : Int32))))
else none
else none))
else
(if ib ((2 : Int32) * (rd m27 0 15)) 64 then
if ib (((2 : Int32) * (rd (wr m27 11 ((2 : Int32) * (rd m27 0 15)).toNatClampNeg r3) 0 15)) + (1 : Int32)) 64 then
some ((1 : Int32), (wr (wr (wr m27 11 ((2 : Int32) * (rd m27 0 15)).toNatClampNeg r3) 11 (((2 : Int32) * (rd (wr m27 11 ((2 : Int32) * (rd m27 0 15)).toNatClampNeg r3) 0 15)) + (1 : Int32)).toNatClampNeg (-5 : Int32)) 0 15 ((rd (wr (wr m27 11 ((2 : Int32) * (rd m27 0 15)).toNatClampNeg r3) 11 (((2 : Int32) * (rd (wr m27 11 ((2 : Int32) * (rd m27 0 15)).toNatClampNeg r3) 0 15)) + (1 : Int32)).toNatClampNeg (-5 : Int32)) 0 15) + (1 : Int32))))
else none
else none)))))))
def lX6_isText_12 (n : Nat) (k : Int32 → hb_m → Option (Int32 × hb_m)) : Nat → Int32 → hb_m → Option (Int32 × hb_m)
  | 0, _, _ => none
  | f + 1, x1, μ => if x1 = 0 then
(k x1 μ)
else
(bi (fX6_readsOne n μ) (fun r17 m17 =>
if r17 = 0 then
(some ((0 : Int32), m17))
else
(bi (fX6_takes n (59 : Int32) m17) (fun r28 m28 =>
lX6_isText_12 n k f r28 m28))))
def fX6_isText (n : Nat) (μ : hb_m) : Option (Int32 × hb_m) :=
lX6_isText_12 n (fun x1_12 m12 =>
if (rd m12 0 13) = (rd m12 0 6) then
(some ((1 : Int32), m12))
else
(some ((0 : Int32), m12))) n (1 : Int32) (wr (wr μ 0 13 (0 : Int32)) 0 15 (0 : Int32))
def lX6_refusal_6 (n : Nat) (k : Int32 → Int32 → Int32 → hb_m → Option (Int32 × hb_m)) : Nat → Int32 → Int32 → Int32 → hb_m → Option (Int32 × hb_m)
  | 0, _, _, _, _ => none
  | f + 1, x3, x2, x1, μ => if (rd μ 0 15) ≤ x3 then
(k x3 x2 x1 μ)
else
(if ib ((2 : Int32) * x3) 64 then
bi (fX6_isDevice n (rd μ 11 ((2 : Int32) * x3).toNatClampNeg) μ) (fun r23 m23 =>
if x1 = 0 then
(if x2 = 0 then
(lX6_refusal_6 n k f (x3 + (1 : Int32)) (0 : Int32) (0 : Int32) m23)
else
(if r23 = 0 then
(lX6_refusal_6 n k f (x3 + (1 : Int32)) (1 : Int32) (0 : Int32) m23)
else
(if ib (((2 : Int32) * x3) + (1 : Int32)) 64 then
if (rd m23 11 (((2 : Int32) * x3) + (1 : Int32)).toNatClampNeg) = (-5 : Int32) then
(lX6_refusal_6 n k f (x3 + (1 : Int32)) (1 : Int32) (0 : Int32) m23)
else
(if ib (((2 : Int32) * x3) + (1 : Int32)) 64 then
if ib ((2 : Int32) * x3) 64 then
bi (fX6_of n (rd m23 11 ((2 : Int32) * x3).toNatClampNeg) (2 : Int32) m23) (fun r87 m87 =>
if (rd m23 11 (((2 : Int32) * x3) + (1 : Int32)).toNatClampNeg) < r87 then
(lX6_refusal_6 n k f (x3 + (1 : Int32)) (0 : Int32) (0 : Int32) m87)
else
(lX6_refusal_6 n k f (x3 + (1 : Int32)) (1 : Int32) (0 : Int32) m87))
else none
else none)
else none)))
else
(if r23 = 0 then
(if x2 = 0 then
(lX6_refusal_6 n k f (x3 + (1 : Int32)) (0 : Int32) (0 : Int32) m23)
else
(if r23 = 0 then
(lX6_refusal_6 n k f (x3 + (1 : Int32)) (1 : Int32) (0 : Int32) m23)
else
(if ib (((2 : Int32) * x3) + (1 : Int32)) 64 then
if (rd m23 11 (((2 : Int32) * x3) + (1 : Int32)).toNatClampNeg) = (-5 : Int32) then
(lX6_refusal_6 n k f (x3 + (1 : Int32)) (1 : Int32) (0 : Int32) m23)
else
(if ib (((2 : Int32) * x3) + (1 : Int32)) 64 then
if ib ((2 : Int32) * x3) 64 then
bi (fX6_of n (rd m23 11 ((2 : Int32) * x3).toNatClampNeg) (2 : Int32) m23) (fun r87 m87 =>
if (rd m23 11 (((2 : Int32) * x3) + (1 : Int32)).toNatClampNeg) < r87 then
(lX6_refusal_6 n k f (x3 + (1 : Int32)) (0 : Int32) (0 : Int32) m87)
else
(lX6_refusal_6 n k f (x3 + (1 : Int32)) (1 : Int32) (0 : Int32) m87))
else none
else none)
else none)))
else
(if x2 = 0 then
(lX6_refusal_6 n k f (x3 + (1 : Int32)) (0 : Int32) (1 : Int32) m23)
else
(if r23 = 0 then
(lX6_refusal_6 n k f (x3 + (1 : Int32)) (1 : Int32) (1 : Int32) m23)
else
(if ib (((2 : Int32) * x3) + (1 : Int32)) 64 then
if (rd m23 11 (((2 : Int32) * x3) + (1 : Int32)).toNatClampNeg) = (-5 : Int32) then
(lX6_refusal_6 n k f (x3 + (1 : Int32)) (1 : Int32) (1 : Int32) m23)
else
(if ib (((2 : Int32) * x3) + (1 : Int32)) 64 then
if ib ((2 : Int32) * x3) 64 then
bi (fX6_of n (rd m23 11 ((2 : Int32) * x3).toNatClampNeg) (2 : Int32) m23) (fun r87 m87 =>
if (rd m23 11 (((2 : Int32) * x3) + (1 : Int32)).toNatClampNeg) < r87 then
(lX6_refusal_6 n k f (x3 + (1 : Int32)) (0 : Int32) (1 : Int32) m87)
else
(lX6_refusal_6 n k f (x3 + (1 : Int32)) (1 : Int32) (1 : Int32) m87))
else none
else none)
else none)))))
else none)
def fX6_refusal (n : Nat) (μ : hb_m) : Option (Int32 × hb_m) :=
lX6_refusal_6 n (fun x3_6 x2_6 x1_6 m6 =>
if x1_6 = 0 then
(some ((-1 : Int32), m6))
else
(if x2_6 = 0 then
(some ((-4 : Int32), m6))
else
(some ((0 : Int32), m6)))) n (0 : Int32) (1 : Int32) (1 : Int32) μ
def lX6_readAll_32 (n : Nat) (k : Int32 → hb_m → Option (Int32 × hb_m)) : Nat → Int32 → hb_m → Option (Int32 × hb_m)
  | 0, _, _ => none
  | f + 1, x2, μ => if (rd μ 0 15) ≤ x2 then
(k x2 μ)
else
(if ib (((2 : Int32) * x2) + (1 : Int32)) 64 then
if ib ((2 : Int32) * x2) 64 then
if (rd μ 11 (((2 : Int32) * x2) + (1 : Int32)).toNatClampNeg) = (-5 : Int32) then
(bv (fX6_puts n (rd μ 11 ((2 : Int32) * x2).toNatClampNeg) (4 : Int32) (1 : Int32) μ) (fun m72 =>
if ib ((2 : Int32) * x2) 64 then
if (rd μ 11 (((2 : Int32) * x2) + (1 : Int32)).toNatClampNeg) = (-5 : Int32) then
(if ib ((2 : Int32) * x2) 64 then
bi (fX6_of n (rd m72 11 ((2 : Int32) * x2).toNatClampNeg) (3 : Int32) m72) (fun r101 m101 =>
bv (fX6_puts n (rd m72 11 ((2 : Int32) * x2).toNatClampNeg) (3 : Int32) r101 m101) (fun m108 =>
lX6_readAll_32 n k f (x2 + (1 : Int32)) m108))
else none)
else
(bv (fX6_puts n (rd m72 11 ((2 : Int32) * x2).toNatClampNeg) (3 : Int32) (rd μ 11 (((2 : Int32) * x2) + (1 : Int32)).toNatClampNeg) m72) (fun m108 =>
lX6_readAll_32 n k f (x2 + (1 : Int32)) m108))
else none))
else
(bv (fX6_puts n (rd μ 11 ((2 : Int32) * x2).toNatClampNeg) (4 : Int32) (0 : Int32) μ) (fun m72 =>
if ib ((2 : Int32) * x2) 64 then
if (rd μ 11 (((2 : Int32) * x2) + (1 : Int32)).toNatClampNeg) = (-5 : Int32) then
(if ib ((2 : Int32) * x2) 64 then
bi (fX6_of n (rd m72 11 ((2 : Int32) * x2).toNatClampNeg) (3 : Int32) m72) (fun r101 m101 =>
bv (fX6_puts n (rd m72 11 ((2 : Int32) * x2).toNatClampNeg) (3 : Int32) r101 m101) (fun m108 =>
lX6_readAll_32 n k f (x2 + (1 : Int32)) m108))
else none)
else
(bv (fX6_puts n (rd m72 11 ((2 : Int32) * x2).toNatClampNeg) (3 : Int32) (rd μ 11 (((2 : Int32) * x2) + (1 : Int32)).toNatClampNeg) m72) (fun m108 =>
lX6_readAll_32 n k f (x2 + (1 : Int32)) m108))
else none))
else none
else none)
def fX6_readAll (n : Nat) (μ : hb_m) : Option (Int32 × hb_m) :=
bi (fX6_isText n μ) (fun r1 m1 =>
if r1 = 0 then
(some (((-100 : Int32) - (rd m1 0 13)), m1))
else
(bi (fX6_refusal n m1) (fun r16 m16 =>
if 0 ≤ r16 then
(bv (fX6_records n m16) (fun m27 =>
lX6_readAll_32 n (fun x2_32 m32 =>
some ((rd m32 0 15), m32)) n (0 : Int32) m27))
else
(some (r16, m16)))))
def lX6_devicesOf_4 (n : Nat) (p1 : Int32) (k : Int32 → Int32 → hb_m → Option (Int32 × hb_m)) : Nat → Int32 → Int32 → hb_m → Option (Int32 × hb_m)
  | 0, _, _, _ => none
  | f + 1, x3, x2, μ => if ib (1 : Int32) 415 then
if (rd μ 1 (1 : Int32).toNatClampNeg) ≤ x3 then
(k x3 x2 μ)
else
(bi (fX6_of n x3 (0 : Int32) μ) (fun r18 m18 =>
if r18 = p1 then
(lX6_devicesOf_4 n p1 k f (x3 + (1 : Int32)) (x2 ||| ((1 : Int32) <<< (x3 &&& 31))) m18)
else
(lX6_devicesOf_4 n p1 k f (x3 + (1 : Int32)) (x2 ||| (0 : Int32)) m18)))
else none
def fX6_devicesOf (n : Nat) (p1 : Int32) (μ : hb_m) : Option (Int32 × hb_m) :=
lX6_devicesOf_4 n p1 (fun x3_4 x2_4 m4 =>
some (x2_4, m4)) n (0 : Int32) (0 : Int32) μ
def fX6_flat (n : Nat) (p1 : Int32) (p2 : Int32) (μ : hb_m) : Option (Int32 × hb_m) :=
bi (fX6_isFlat n p1 μ) (fun r2 m2 =>
if r2 = 0 then
(some ((-1 : Int32), m2))
else
(if ib (4 : Int32) 415 then
bv (fX6_laysOpen n (rd m2 1 (4 : Int32).toNatClampNeg) m2) (fun m17 =>
if p2 = 0 then
(bi (fX6_ofFlat n p1 (0 : Int32) m17) (fun r71 m71 =>
some (r71, m71)))
else if p2 = 1 then
(bi (fX6_devicesOf n p1 m17) (fun r77 m77 =>
some (r77, m77)))
else if p2 = 2 then
(if ib p1 8 then
some ((rd m17 8 p1.toNatClampNeg), m17)
else none)
else if p2 = 3 then
(if ib p1 8 then
some ((rd m17 9 p1.toNatClampNeg), m17)
else none)
else if p2 = 4 then
(if ib p1 8 then
some ((rd m17 10 p1.toNatClampNeg), m17)
else none)
else if p2 = 5 then
(if ib p1 8 then
if ib p1 8 then
some (((rd m17 9 p1.toNatClampNeg) + (rd m17 10 p1.toNatClampNeg)), m17)
else none
else none)
else if p2 = 6 then
(bi (fX6_ofFlat n p1 (1 : Int32) m17) (fun r119 m119 =>
if r119 = 0 then
(some ((-5 : Int32), m119))
else
(bi (fX6_ofFlat n p1 (1 : Int32) m119) (fun r133 m133 =>
some (r133, m133)))))
else if p2 = 7 then
(bi (fX6_ofFlat n p1 (2 : Int32) m17) (fun r140 m140 =>
some (r140, m140)))
else 
(some ((-2 : Int32), m17)))
else none))
def fX6_device (n : Nat) (p1 : Int32) (p2 : Int32) (μ : hb_m) : Option (Int32 × hb_m) :=
bi (fX6_isDevice n p1 μ) (fun r2 m2 =>
if r2 = 0 then
(some ((-1 : Int32), m2))
else
(bi (fX6_in n p2 (0 : Int32) (5 : Int32) m2) (fun r13 m13 =>
if r13 = 0 then
(some ((-2 : Int32), m13))
else
(if p2 = (5 : Int32) then
(bi (fX6_unitsNow n p1 m13) (fun r31 m31 =>
some (r31, m31)))
else
(bi (fX6_of n p1 p2 m13) (fun r40 m40 =>
some (r40, m40)))))))
def fX6_draft (n : Nat) (p1 : Int32) (p2 : Int32) (μ : hb_m) : Option (Int32 × hb_m) :=
bi (fX6_isFlat n p1 μ) (fun r2 m2 =>
if r2 = 0 then
(some ((-1 : Int32), m2))
else
(if p2 = 0 then
(if ib (4 : Int32) 415 then
bv (fX6_laysOpen n (rd m2 1 (4 : Int32).toNatClampNeg) m2) (fun m30 =>
bi (fX6_ofFlat n p1 (1 : Int32) m30) (fun r39 m39 =>
bi (fX6_ofFlat n p1 (2 : Int32) m39) (fun r45 m45 =>
bi (fX6_tenantOf n p1 p2 r39 r45 m45) (fun r48 m48 =>
some (r48, m48)))))
else none)
else
(bi (fX6_ofFlat n p1 (1 : Int32) m2) (fun r15 m15 =>
if r15 = 0 then
(some ((-1 : Int32), m15))
else
(if ib (4 : Int32) 415 then
bv (fX6_laysOpen n (rd m15 1 (4 : Int32).toNatClampNeg) m15) (fun m30 =>
bi (fX6_ofFlat n p1 (1 : Int32) m30) (fun r39 m39 =>
bi (fX6_ofFlat n p1 (2 : Int32) m39) (fun r45 m45 =>
bi (fX6_tenantOf n p1 p2 r39 r45 m45) (fun r48 m48 =>
some (r48, m48)))))
else none)))))
def fX6_bill (n : Nat) (p1 : Int32) (p2 : Int32) (p3 : Int32) (p4 : Int32) (μ : hb_m) : Option (Int32 × hb_m) :=
bi (fX6_isClosed n p1 μ) (fun r2 m2 =>
if r2 = 0 then
(some ((-1 : Int32), m2))
else
(bi (fX6_isFlat n p2 m2) (fun r10 m10 =>
if r10 = 0 then
(some ((-1 : Int32), m10))
else
(if p3 = 0 then
(if p3 = 0 then
(if p4 = 0 then
(bi (fX6_old n p1 ((39 : Int32) + (((2 : Int32) * p2) + (0 : Int32))) m10) (fun r90 m90 =>
if ib r90 415 then
some ((rd m90 1 r90.toNatClampNeg), m90)
else none))
else
(bi (fX6_old n p1 ((55 : Int32) + (((2 : Int32) * p2) + (0 : Int32))) m10) (fun r72 m72 =>
if ib r72 415 then
some (((1000000 : Int32) + (rd m72 1 r72.toNatClampNeg)), m72)
else none)))
else
(if p4 = 0 then
(bi (fX6_old n p1 ((39 : Int32) + (((2 : Int32) * p2) + (1 : Int32))) m10) (fun r90 m90 =>
if ib r90 415 then
some ((rd m90 1 r90.toNatClampNeg), m90)
else none))
else
(bi (fX6_old n p1 ((55 : Int32) + (((2 : Int32) * p2) + (1 : Int32))) m10) (fun r72 m72 =>
if ib r72 415 then
some (((1000000 : Int32) + (rd m72 1 r72.toNatClampNeg)), m72)
else none))))
else
(bi (fX6_old n p1 ((23 : Int32) + ((2 : Int32) * p2)) m10) (fun r31 m31 =>
if ib r31 415 then
if (rd m31 1 r31.toNatClampNeg) = 0 then
(some ((-1 : Int32), m31))
else
(if p3 = 0 then
(if p4 = 0 then
(bi (fX6_old n p1 ((39 : Int32) + (((2 : Int32) * p2) + (0 : Int32))) m31) (fun r90 m90 =>
if ib r90 415 then
some ((rd m90 1 r90.toNatClampNeg), m90)
else none))
else
(bi (fX6_old n p1 ((55 : Int32) + (((2 : Int32) * p2) + (0 : Int32))) m31) (fun r72 m72 =>
if ib r72 415 then
some (((1000000 : Int32) + (rd m72 1 r72.toNatClampNeg)), m72)
else none)))
else
(if p4 = 0 then
(bi (fX6_old n p1 ((39 : Int32) + (((2 : Int32) * p2) + (1 : Int32))) m31) (fun r90 m90 =>
if ib r90 415 then
some ((rd m90 1 r90.toNatClampNeg), m90)
else none))
else
(bi (fX6_old n p1 ((55 : Int32) + (((2 : Int32) * p2) + (1 : Int32))) m31) (fun r72 m72 =>
if ib r72 415 then
some (((1000000 : Int32) + (rd m72 1 r72.toNatClampNeg)), m72)
else none))))
else none))))))
def fX6_units (n : Nat) (p1 : Int32) (p2 : Int32) (μ : hb_m) : Option (Int32 × hb_m) :=
bi (fX6_isClosed n p1 μ) (fun r2 m2 =>
if r2 = 0 then
(some ((-1 : Int32), m2))
else
(bi (fX6_old n p1 (2 : Int32) m2) (fun r16 m16 =>
if ib r16 415 then
bi (fX6_in n p2 (0 : Int32) ((rd m16 1 r16.toNatClampNeg) - (1 : Int32)) m16) (fun r22 m22 =>
if r22 = 0 then
(some ((-1 : Int32), m22))
else
(bi (fX6_old n p1 ((3 : Int32) + p2) m22) (fun r36 m36 =>
if ib r36 415 then
some ((rd m36 1 r36.toNatClampNeg), m36)
else none)))
else none)))
def lX6_greatest_38 (n : Nat) (p1 : Int32) (v3 : Int32) (v2 : Int32) (k : Int32 → Int32 → hb_m → Option (Int32 × hb_m)) : Nat → Int32 → Int32 → hb_m → Option (Int32 × hb_m)
  | 0, _, _, _ => none
  | f + 1, x5, x4, μ => if ib (0 : Int32) 415 then
if (rd μ 1 (0 : Int32).toNatClampNeg) ≤ x5 then
(k x5 x4 μ)
else
(if ib x5 8 then
if ib v3 8 then
if (rd μ 10 v3.toNatClampNeg) < (rd μ 10 x5.toNatClampNeg) then
(lX6_greatest_38 n p1 v3 v2 k f (x5 + (1 : Int32)) (x4 + (1 : Int32)) μ)
else
(if ib x5 8 then
if ib v3 8 then
if (rd μ 10 x5.toNatClampNeg) = (rd μ 10 v3.toNatClampNeg) then
(if v3 ≤ x5 then
(lX6_greatest_38 n p1 v3 v2 k f (x5 + (1 : Int32)) (x4 + (0 : Int32)) μ)
else
(lX6_greatest_38 n p1 v3 v2 k f (x5 + (1 : Int32)) (x4 + (1 : Int32)) μ))
else
(lX6_greatest_38 n p1 v3 v2 k f (x5 + (1 : Int32)) (x4 + (0 : Int32)) μ)
else none
else none)
else none
else none)
else none
def lX6_greatest_22 (n : Nat) (p1 : Int32) (k : Int32 → Int32 → hb_m → Option (Int32 × hb_m)) : Nat → Int32 → Int32 → hb_m → Option (Int32 × hb_m)
  | 0, _, _, _ => none
  | f + 1, x3, x2, μ => if ib (0 : Int32) 415 then
if (rd μ 1 (0 : Int32).toNatClampNeg) ≤ x3 then
(k x3 x2 μ)
else
(lX6_greatest_38 n p1 x3 x2 (fun x5_38 x4_38 m38 =>
if x4_38 = p1 then
(lX6_greatest_22 n p1 k f (x3 + (1 : Int32)) x3 m38)
else
(lX6_greatest_22 n p1 k f (x3 + (1 : Int32)) x2 m38)) n (0 : Int32) (0 : Int32) μ)
else none
def fX6_greatest (n : Nat) (p1 : Int32) (μ : hb_m) : Option (Int32 × hb_m) :=
if 0 ≤ p1 then
(if ib (4 : Int32) 415 then
bv (fX6_laysOpen n (rd μ 1 (4 : Int32).toNatClampNeg) μ) (fun m14 =>
lX6_greatest_22 n p1 (fun x3_22 x2_22 m22 =>
some (x2_22, m22)) n (0 : Int32) (-5 : Int32) m14)
else none)
else
(some ((-2 : Int32), μ))
def fX6_billBy (n : Nat) (p1 : Int32) (p2 : Int32) (μ : hb_m) : Option (Int32 × hb_m) :=
bv (fX6_laysOpen n p2 μ) (fun m2 =>
if ib p1 8 then
if ib p1 8 then
some (((rd m2 9 p1.toNatClampNeg) + (rd m2 10 p1.toNatClampNeg)), m2)
else none
else none)
def fX6_billIf (n : Nat) (p1 : Int32) (p2 : Int32) (μ : hb_m) : Option (Int32 × hb_m) :=
bi (fX6_isFlat n p1 μ) (fun r2 m2 =>
if r2 = 0 then
(some ((-1 : Int32), m2))
else
(bi (fX6_in n p2 (0 : Int32) (100 : Int32) m2) (fun r14 m14 =>
if r14 = 0 then
(some ((-2 : Int32), m14))
else
(bi (fX6_billBy n p1 p2 m14) (fun r23 m23 =>
some (r23, m23))))))
def lX6_bestShare_22 (n : Nat) (p1 : Int32) (k : Int32 → Int32 → Int32 → hb_m → Option (Int32 × hb_m)) : Nat → Int32 → Int32 → Int32 → hb_m → Option (Int32 × hb_m)
  | 0, _, _, _, _ => none
  | f + 1, x4, x3, x2, μ => if (100 : Int32) < x4 then
(k x4 x3 x2 μ)
else
(bi (fX6_billBy n p1 x4 μ) (fun r33 m33 =>
if x3 ≤ r33 then
(if x3 ≤ r33 then
(lX6_bestShare_22 n p1 k f (x4 + (1 : Int32)) x3 x2 m33)
else
(lX6_bestShare_22 n p1 k f (x4 + (1 : Int32)) r33 x2 m33))
else
(if x3 ≤ r33 then
(lX6_bestShare_22 n p1 k f (x4 + (1 : Int32)) x3 x4 m33)
else
(lX6_bestShare_22 n p1 k f (x4 + (1 : Int32)) r33 x4 m33))))
def fX6_bestShare (n : Nat) (p1 : Int32) (μ : hb_m) : Option (Int32 × hb_m) :=
bi (fX6_isFlat n p1 μ) (fun r2 m2 =>
if r2 = 0 then
(some ((-1 : Int32), m2))
else
(bi (fX6_billBy n p1 (0 : Int32) m2) (fun r15 m15 =>
lX6_bestShare_22 n p1 (fun x4_22 x3_22 x2_22 m22 =>
some (x2_22, m22)) n (1 : Int32) r15 (0 : Int32) m15)))
def lX6_areas_4 (n : Nat) (k : Int32 → Int32 → hb_m → Option (Int32 × hb_m)) : Nat → Int32 → Int32 → hb_m → Option (Int32 × hb_m)
  | 0, _, _, _ => none
  | f + 1, x2, x1, μ => if ib (0 : Int32) 415 then
if (rd μ 1 (0 : Int32).toNatClampNeg) ≤ x2 then
(k x2 x1 μ)
else
(bi (fX6_ofFlat n x2 (0 : Int32) μ) (fun r18 m18 =>
lX6_areas_4 n k f (x2 + (1 : Int32)) (x1 + r18) m18))
else none
def fX6_areas (n : Nat) (μ : hb_m) : Option (Int32 × hb_m) :=
lX6_areas_4 n (fun x2_4 x1_4 m4 =>
some (x1_4, m4)) n (0 : Int32) (0 : Int32) μ
def lX6_allUnits_4 (n : Nat) (k : Int32 → Int32 → hb_m → Option (Int32 × hb_m)) : Nat → Int32 → Int32 → hb_m → Option (Int32 × hb_m)
  | 0, _, _, _ => none
  | f + 1, x2, x1, μ => if ib (1 : Int32) 415 then
if (rd μ 1 (1 : Int32).toNatClampNeg) ≤ x2 then
(k x2 x1 μ)
else
(bi (fX6_unitsNow n x2 μ) (fun r17 m17 =>
lX6_allUnits_4 n k f (x2 + (1 : Int32)) (x1 + r17) m17))
else none
def fX6_allUnits (n : Nat) (μ : hb_m) : Option (Int32 × hb_m) :=
lX6_allUnits_4 n (fun x2_4 x1_4 m4 =>
some (x1_4, m4)) n (0 : Int32) (0 : Int32) μ
def lX6_openBills_14 (n : Nat) (k : Int32 → Int32 → hb_m → Option (Int32 × hb_m)) : Nat → Int32 → Int32 → hb_m → Option (Int32 × hb_m)
  | 0, _, _, _ => none
  | f + 1, x2, x1, μ => if ib (0 : Int32) 415 then
if (rd μ 1 (0 : Int32).toNatClampNeg) ≤ x2 then
(k x2 x1 μ)
else
(if ib x2 8 then
if ib x2 8 then
lX6_openBills_14 n k f (x2 + (1 : Int32)) (x1 + ((rd μ 9 x2.toNatClampNeg) + (rd μ 10 x2.toNatClampNeg))) μ
else none
else none)
else none
def fX6_openBills (n : Nat) (μ : hb_m) : Option (Int32 × hb_m) :=
if ib (4 : Int32) 415 then
bv (fX6_laysOpen n (rd μ 1 (4 : Int32).toNatClampNeg) μ) (fun m7 =>
lX6_openBills_14 n (fun x2_14 x1_14 m14 =>
some (x1_14, m14)) n (0 : Int32) (0 : Int32) m7)
else none
def lX6_oldBills_4 (n : Nat) (k : Int32 → Int32 → hb_m → Option (Int32 × hb_m)) : Nat → Int32 → Int32 → hb_m → Option (Int32 × hb_m)
  | 0, _, _, _ => none
  | f + 1, x2, x1, μ => if ib (2 : Int32) 415 then
if ib (0 : Int32) 415 then
if (((rd μ 1 (2 : Int32).toNatClampNeg) * (2 : Int32)) * (rd μ 1 (0 : Int32).toNatClampNeg)) ≤ x2 then
(k x2 x1 μ)
else
(if ib (0 : Int32) 415 then
if ((2 : Int32) * (rd μ 1 (0 : Int32).toNatClampNeg)) = 0 then none else
if ib (0 : Int32) 415 then
if ((2 : Int32) * (rd μ 1 (0 : Int32).toNatClampNeg)) = 0 then none else
bi (fX6_old n (x2 / ((2 : Int32) * (rd μ 1 (0 : Int32).toNatClampNeg))) ((39 : Int32) + (x2 - x2 / ((2 : Int32) * (rd μ 1 (0 : Int32).toNatClampNeg)) * ((2 : Int32) * (rd μ 1 (0 : Int32).toNatClampNeg)))) μ) (fun r51 m51 =>
if ib r51 415 then
lX6_oldBills_4 n k f (x2 + (1 : Int32)) (x1 + (rd m51 1 r51.toNatClampNeg)) m51
else none)
else none
else none)
else none
else none
def fX6_oldBills (n : Nat) (μ : hb_m) : Option (Int32 × hb_m) :=
lX6_oldBills_4 n (fun x2_4 x1_4 m4 =>
some (x1_4, m4)) n (0 : Int32) (0 : Int32) μ
def lX6_moves_4 (n : Nat) (k : Int32 → Int32 → hb_m → Option (Int32 × hb_m)) : Nat → Int32 → Int32 → hb_m → Option (Int32 × hb_m)
  | 0, _, _, _ => none
  | f + 1, x2, x1, μ => if ib (0 : Int32) 415 then
if (rd μ 1 (0 : Int32).toNatClampNeg) ≤ x2 then
(k x2 x1 μ)
else
(bi (fX6_ofFlat n x2 (1 : Int32) μ) (fun r18 m18 =>
if r18 ≤ 0 then
(lX6_moves_4 n k f (x2 + (1 : Int32)) (x1 + (0 : Int32)) m18)
else
(lX6_moves_4 n k f (x2 + (1 : Int32)) (x1 + (1 : Int32)) m18)))
else none
def fX6_moves (n : Nat) (μ : hb_m) : Option (Int32 × hb_m) :=
lX6_moves_4 n (fun x2_4 x1_4 m4 =>
some (x1_4, m4)) n (0 : Int32) (0 : Int32) μ
def fX6_count (n : Nat) (p1 : Int32) (μ : hb_m) : Option (Int32 × hb_m) :=
if p1 = 0 then
(if ib (2 : Int32) 415 then
some ((rd μ 1 (2 : Int32).toNatClampNeg), μ)
else none)
else if p1 = 1 then
(if ib (0 : Int32) 415 then
some ((rd μ 1 (0 : Int32).toNatClampNeg), μ)
else none)
else if p1 = 2 then
(if ib (1 : Int32) 415 then
some ((rd μ 1 (1 : Int32).toNatClampNeg), μ)
else none)
else if p1 = 3 then
(bi (fX6_faulty n μ) (fun r98 m98 =>
some (r98, m98)))
else if p1 = 4 then
(if ib (((3 : Int32) + p1) - (4 : Int32)) 415 then
some ((rd μ 1 (((3 : Int32) + p1) - (4 : Int32)).toNatClampNeg), μ)
else none)
else if p1 = 5 then
(if ib (((3 : Int32) + p1) - (4 : Int32)) 415 then
some ((rd μ 1 (((3 : Int32) + p1) - (4 : Int32)).toNatClampNeg), μ)
else none)
else if p1 = 6 then
(if ib (((3 : Int32) + p1) - (4 : Int32)) 415 then
some ((rd μ 1 (((3 : Int32) + p1) - (4 : Int32)).toNatClampNeg), μ)
else none)
else if p1 = 7 then
(bi (fX6_areas n μ) (fun r114 m114 =>
some (r114, m114)))
else if p1 = 8 then
(bi (fX6_allUnits n μ) (fun r119 m119 =>
some (r119, m119)))
else if p1 = 9 then
(bi (fX6_openBills n μ) (fun r124 m124 =>
some (r124, m124)))
else if p1 = 10 then
(bi (fX6_oldBills n μ) (fun r129 m129 =>
some (r129, m129)))
else if p1 = 11 then
(if ib (6 : Int32) 415 then
some ((rd μ 1 (6 : Int32).toNatClampNeg), μ)
else none)
else if p1 = 12 then
(bi (fX6_moves n μ) (fun r142 m142 =>
some (r142, m142)))
else if p1 = 13 then
(some ((rd μ 0 2), μ))
else if p1 = 14 then
(some ((rd μ 0 6), μ))
else 
(some ((-2 : Int32), μ))

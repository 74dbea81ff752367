def jL_law_375 (n : Nat) (dr : Int32 → Int32) (kk : Int32 → Int32 → lm → Option Int32) (x4 : Int32) (x3 : Int32) (v7 : Int32) (s0 : Int32) (μ : lm) : Option Int32 :=
if 0 ≤ s0 then
(if 0 ≤ s0 then
(kk (x4 + (1 : Int32)) (x3 + (1 : Int32)) μ)
else
(kk (x4 + (1 : Int32)) (x3 + (0 : Int32)) μ))
else
(bi (fX5_count n (13 : Int32) μ.1) (fun r385 m385 =>
if r385 = v7 then
(bl (fL_seen n m385) (fun r394 m394 =>
if ib x3 64 then
if (lg_cmp r394 (μ.2 x3.toNatClampNeg)) = 0 then
(if 0 ≤ s0 then
(kk (x4 + (1 : Int32)) (x3 + (1 : Int32)) (m394, μ.2))
else
(kk (x4 + (1 : Int32)) (x3 + (0 : Int32)) (m394, μ.2)))
else
(some (0 : Int32))
else none))
else
(some (0 : Int32))))
def lL_law_52 (n : Nat) (dr : Int32 → Int32) (k : Int32 → Int32 → lm → Option Int32) : Nat → Int32 → Int32 → lm → Option Int32
  | 0, _, _, _ => none
  | f + 1, x4, x3, μ => if (30 : Int32) ≤ x4 then
(k x4 x3 μ)
else
(bn (if 0 ≤ x4 then some (dr x4) else none) (fun r62 =>
if (3 : Int32) ≤ x4 then
(if (7 : Int32) ≤ x4 then
(bi (fL_part n r62 (10 : Int32) μ.1) (fun r92 m92 =>
bl (fL_seen n m92) (fun r100 m100 =>
if ib x3 64 then
bi (fX5_count n (13 : Int32) m100) (fun r107 m107 =>
bi (fL_part n (r62 >>> ((4 : Int32) &&& 31)) (6 : Int32) m107) (fun r118 m118 =>
bi (fL_part n (r62 >>> ((4 : Int32) &&& 31)) (4 : Int32) m118) (fun r128 m128 =>
if r92 = 0 then
(bi (fL_part n (r62 >>> ((4 : Int32) &&& 31)) (200 : Int32) m128) (fun r147 m147 =>
bi (fX5_addFlat n ((1 : Int32) + r147) m147) (fun r151 m151 =>
jL_law_375 n dr (fun x4 x3 μ => lL_law_52 n dr k f x4 x3 μ) x4 x3 r107 r151 (m151, (vp_updL μ.2 x3.toNatClampNeg r100)))))
else
(if r92 = (1 : Int32) then
(bi (fL_part n (r62 >>> ((7 : Int32) &&& 31)) (20 : Int32) m128) (fun r174 m174 =>
bi (fX5_addDevice n r128 ((1 : Int32) + r174) m174) (fun r178 m178 =>
jL_law_375 n dr (fun x4 x3 μ => lL_law_52 n dr k f x4 x3 μ) x4 x3 r107 r178 (m178, (vp_updL μ.2 x3.toNatClampNeg r100)))))
else
(if (4 : Int32) ≤ r92 then
(if r92 = (4 : Int32) then
(bi (fL_part n (r62 >>> ((7 : Int32) &&& 31)) (2 : Int32) m128) (fun r225 m225 =>
if r225 = 0 then
(bi (fX5_mark n r118 (1 : Int32) m225) (fun r236 m236 =>
jL_law_375 n dr (fun x4 x3 μ => lL_law_52 n dr k f x4 x3 μ) x4 x3 r107 r236 (m236, (vp_updL μ.2 x3.toNatClampNeg r100))))
else
(bi (fX5_mark n r118 (0 : Int32) m225) (fun r236 m236 =>
jL_law_375 n dr (fun x4 x3 μ => lL_law_52 n dr k f x4 x3 μ) x4 x3 r107 r236 (m236, (vp_updL μ.2 x3.toNatClampNeg r100))))))
else
(if r92 = (5 : Int32) then
(bi (fL_part n (r62 >>> ((7 : Int32) &&& 31)) (3 : Int32) m128) (fun r255 m255 =>
bi (fL_part n (r62 >>> ((9 : Int32) &&& 31)) (90 : Int32) m255) (fun r265 m265 =>
bi (fX5_set n r255 r265 m265) (fun r268 m268 =>
jL_law_375 n dr (fun x4 x3 μ => lL_law_52 n dr k f x4 x3 μ) x4 x3 r107 r268 (m268, (vp_updL μ.2 x3.toNatClampNeg r100))))))
else
(if r92 = (6 : Int32) then
(bi (fL_part n (r62 >>> ((7 : Int32) &&& 31)) (11 : Int32) m128) (fun r292 m292 =>
bi (fX5_move n r128 ((1 : Int32) + r292) m292) (fun r296 m296 =>
jL_law_375 n dr (fun x4 x3 μ => lL_law_52 n dr k f x4 x3 μ) x4 x3 r107 r296 (m296, (vp_updL μ.2 x3.toNatClampNeg r100)))))
else
(if r92 = (7 : Int32) then
(bi (fL_part n (r62 >>> ((7 : Int32) &&& 31)) (1001 : Int32) m128) (fun r320 m320 =>
bi (fX5_between n r128 r320 m320) (fun r323 m323 =>
jL_law_375 n dr (fun x4 x3 μ => lL_law_52 n dr k f x4 x3 μ) x4 x3 r107 r323 (m323, (vp_updL μ.2 x3.toNatClampNeg r100)))))
else
(if r92 = (8 : Int32) then
(bi (fX5_close n m128) (fun r337 m337 =>
jL_law_375 n dr (fun x4 x3 μ => lL_law_52 n dr k f x4 x3 μ) x4 x3 r107 r337 (m337, (vp_updL μ.2 x3.toNatClampNeg r100))))
else
(bi (fL_part n (r62 >>> ((4 : Int32) &&& 31)) (3 : Int32) m128) (fun r349 m349 =>
bi (fL_part n (r62 >>> ((6 : Int32) &&& 31)) (4 : Int32) m349) (fun r358 m358 =>
bi (fL_part n (r62 >>> ((8 : Int32) &&& 31)) (9000 : Int32) m358) (fun r369 m369 =>
bi (fX5_correct n r349 r358 r369 m369) (fun r372 m372 =>
jL_law_375 n dr (fun x4 x3 μ => lL_law_52 n dr k f x4 x3 μ) x4 x3 r107 r372 (m372, (vp_updL μ.2 x3.toNatClampNeg r100))))))))))))
else
(bi (fL_part n (r62 >>> ((7 : Int32) &&& 31)) (9000 : Int32) m128) (fun r201 m201 =>
bi (fX5_read n r118 r201 m201) (fun r204 m204 =>
jL_law_375 n dr (fun x4 x3 μ => lL_law_52 n dr k f x4 x3 μ) x4 x3 r107 r204 (m204, (vp_updL μ.2 x3.toNatClampNeg r100))))))))))
else none)))
else
(bl (fL_seen n μ.1) (fun r100 m100 =>
if ib x3 64 then
bi (fX5_count n (13 : Int32) m100) (fun r107 m107 =>
bi (fL_part n (r62 >>> ((4 : Int32) &&& 31)) (6 : Int32) m107) (fun r118 m118 =>
bi (fL_part n (r62 >>> ((4 : Int32) &&& 31)) (4 : Int32) m118) (fun r128 m128 =>
bi (fL_part n (r62 >>> ((7 : Int32) &&& 31)) (20 : Int32) m128) (fun r174 m174 =>
bi (fX5_addDevice n r128 ((1 : Int32) + r174) m174) (fun r178 m178 =>
jL_law_375 n dr (fun x4 x3 μ => lL_law_52 n dr k f x4 x3 μ) x4 x3 r107 r178 (m178, (vp_updL μ.2 x3.toNatClampNeg r100)))))))
else none)))
else
(bl (fL_seen n μ.1) (fun r100 m100 =>
if ib x3 64 then
bi (fX5_count n (13 : Int32) m100) (fun r107 m107 =>
bi (fL_part n (r62 >>> ((4 : Int32) &&& 31)) (6 : Int32) m107) (fun r118 m118 =>
bi (fL_part n (r62 >>> ((4 : Int32) &&& 31)) (4 : Int32) m118) (fun r128 m128 =>
bi (fL_part n (r62 >>> ((4 : Int32) &&& 31)) (200 : Int32) m128) (fun r147 m147 =>
bi (fX5_addFlat n ((1 : Int32) + r147) m147) (fun r151 m151 =>
jL_law_375 n dr (fun x4 x3 μ => lL_law_52 n dr k f x4 x3 μ) x4 x3 r107 r151 (m151, (vp_updL μ.2 x3.toNatClampNeg r100)))))))
else none))))
def lL_law_508 (n : Nat) (dr : Int32 → Int32) (v4 : Int32) (v3 : Int32) (k : Int32 → lm → Option Int32) : Nat → Int32 → lm → Option Int32
  | 0, _, _ => none
  | f + 1, x5, μ => bi (fX5_count n (13 : Int32) μ.1) (fun r511 m511 =>
if r511 ≤ 0 then
(k x5 (m511, μ.2))
else
(if v3 ≤ x5 then
(k x5 (m511, μ.2))
else
(if (4 : Int32) < x5 then
(some (0 : Int32))
else
(bl (fL_seen n m511) (fun r530 m530 =>
if ib (v3 - x5) 64 then
if (lg_cmp r530 (μ.2 (v3 - x5).toNatClampNeg)) = 0 then
(bi (fX5_undo n m530) (fun r544 m544 =>
if 0 ≤ r544 then
(lL_law_508 n dr v4 v3 k f (x5 + (1 : Int32)) (m544, μ.2))
else
(some (0 : Int32))))
else
(some (0 : Int32))
else none)))))
def fL_law (n : Nat) (dr : Int32 → Int32) : Option Int32 :=
bn (fL_years n) (fun r0 =>
if r0 = 0 then
(some (0 : Int32))
else
(bn (fL_texts n) (fun r6 =>
if r6 = 0 then
(some (0 : Int32))
else
(bi (fX5_addFlat n (60 : Int32) mz) (fun r32 m32 =>
if r32 = 0 then
(bi (fX5_addDevice n (0 : Int32) (2 : Int32) m32) (fun r41 m41 =>
if r41 = 0 then
(lL_law_52 n dr (fun x4_52 x3_52 m52 =>
bl (fL_seen n m52.1) (fun r428 m428 =>
if ib x3_52 64 then
bi (fX5_count n (0 : Int32) m428) (fun r434 m434 =>
bi (fX5_keep n m434) (fun r440 m440 =>
if r440 = r434 then
(bi (fX5_count n (4 : Int32) m440) (fun r452 m452 =>
bi (fX5_set n (0 : Int32) (r452 + (1 : Int32)) m452) (fun r457 m457 =>
if r457 < 0 then
(some (0 : Int32))
else
(bi (fX5_count n (5 : Int32) m457) (fun r467 m467 =>
bi (fX5_set n (1 : Int32) ((r467 + (1 : Int32)) - (r467 + (1 : Int32)) / (101 : Int32) * (101 : Int32)) m467) (fun r475 m475 =>
if r475 < 0 then
(some (0 : Int32))
else
(bi (fL_refused n m475) (fun r482 m482 =>
if r482 = 0 then
(some (0 : Int32))
else
(bi (fX5_undo n m482) (fun r489 m489 =>
if r489 < (1 : Int32) then
(some (0 : Int32))
else
(bi (fX5_undo n m489) (fun r497 m497 =>
if 0 ≤ r497 then
(lL_law_508 n dr r434 x3_52 (fun x5_508 m508 =>
bi (fX5_count n (13 : Int32) m508.1) (fun r561 m561 =>
if 0 < r561 then
(some (1 : Int32))
else
(bi (fX5_undo n m561) (fun r568 m568 =>
if r568 = (-5 : Int32) then
(bi (fX5_restore n m568) (fun r577 m577 =>
if r577 = r434 then
(bl (fL_seen n m577) (fun r586 m586 =>
if ib x3_52 64 then
if (lg_cmp r586 (m508.2 x3_52.toNatClampNeg)) = 0 then
(bi (fX5_count n (13 : Int32) m586) (fun r599 m599 =>
if r599 = (1 : Int32) then
(some (1 : Int32))
else
(some (0 : Int32))))
else
(some (0 : Int32))
else none))
else
(some (0 : Int32))))
else
(some (0 : Int32)))))) n (0 : Int32) (m497, (vp_updL m52.2 x3_52.toNatClampNeg r428)))
else
(some (0 : Int32))))))))))))))
else
(some (0 : Int32))))
else none)) n (0 : Int32) (0 : Int32) (m41, (fun _ => 0)))
else
(some (0 : Int32))))
else
(some (0 : Int32)))))))

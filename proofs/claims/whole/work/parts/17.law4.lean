/-! THE LAW (4): its loop -/
theorem and31 (x : Int32) : ∃ j, j < 32 ∧ x &&& 31 = nI j := by
  refine ⟨(x &&& 31).toBitVec.toNat, ?_, ?_⟩
  · have h : (x &&& 31).toBitVec = x.toBitVec &&& 31#32 := rfl
    rw [h, BitVec.toNat_and]
    exact Nat.lt_of_le_of_lt Nat.and_le_right (by decide)
  · apply Int32.toBitVec_inj.mp
    show _ = BitVec.ofNat 32 _
    rw [BitVec.ofNat_toNat, BitVec.setWidth_eq]
theorem go_on {L i : Nat} (hL : L ≤ 2560) (hi : i ≤ 2565) (h : ¬ nI L - 5 < nI i) : i + 5 ≤ L := by
  by_cases h5 : 5 ≤ L
  · rw [show (5 : Int32) = nI 5 from rfl, sub_ok h5, lt_ok (by omega) (by omega)] at h
    omega
  · exfalso
    apply h
    have h0 : nI L - 5 < 0 := by
      rcases (show L = 0 ∨ L = 1 ∨ L = 2 ∨ L = 3 ∨ L = 4 by omega) with rfl | rfl | rfl | rfl | rfl <;> decide
    exact Int32.lt_of_lt_of_le h0 (nI_pos' (by omega))
section LAW4
variable {p : Program} {l : Launch} {e : Env} {s : State} {m : MethodId} {b : Nat} {below : List Frame} {meth : Method} {c : Code} {L : Nat} {xs : Nat → Int32} {D : va_G} {adX adM : Nat → Nat} {dAX dAM : Nat → ClassId} {t1 t2 : Nat} {Q : State → Prop} {cells slots : Nat} {μ ν : hb_m}
theorem l_sw (hC : lC p s m b c L xs D adX adM dAX dAM t1 t2) {dflt lo hi : Int} {offs : Array Int} {len : Nat} {x : Int32} {off : Int} {tgt pc : Nat} {lv : List (Nat × Value)} {st : List Value} (hd : decode cL_law pc = .ok (.tableswitch dflt lo hi offs, len)) (h1 : ¬ x.toInt < lo) (h2 : ¬ hi < x.toInt) (h3 : offs[(x.toInt - lo).toNat]? = some off) (ht : (pc : Int) + off = (tgt : Int)) (kk : lS p l e s m b below meth c D adX adM dAX dAM Q cells slots μ ν tgt lv st) : lS p l e s m b below meth c D adX adM dAX dAM Q cells slots μ ν pc lv (.int x :: st) := fun ls hl H locs hX hM hS => lv_tableIn hC.1.1 hC.1.2.1 hd h1 h2 h3 ht (kk ls hl H locs hX hM hS)
theorem l_swOut (hC : lC p s m b c L xs D adX adM dAX dAM t1 t2) {dflt lo hi : Int} {offs : Array Int} {len : Nat} {x : Int32} {tgt pc : Nat} {lv : List (Nat × Value)} {st : List Value} (hd : decode cL_law pc = .ok (.tableswitch dflt lo hi offs, len)) (h : x.toInt < lo ∨ hi < x.toInt) (ht : (pc : Int) + dflt = (tgt : Int)) (kk : lS p l e s m b below meth c D adX adM dAX dAM Q cells slots μ ν tgt lv st) : lS p l e s m b below meth c D adX adM dAX dAM Q cells slots μ ν pc lv (.int x :: st) := fun ls hl H locs hX hM hS => lv_tableOut hC.1.1 hC.1.2.1 hd h ht (kk ls hl H locs hX hM hS)
set_option maxRecDepth 100000 in
set_option maxHeartbeats 4000000 in
theorem lw_loop (hC : lC p s m b c L xs D adX adM dAX dAM t1 t2) (hcs : cells ≤ room_1.cells ∧ slots ≤ room_1.slots) (kend : ∀ μ1 ν1 lv, lS p l e s m b below meth c D adX adM dAX dAM Q cells slots μ1 ν1 868 lv []) : ∀ (g i : Nat) (μ ν : hb_m), L < i + 5 * g → i ≤ 2565 → RR μ ν → lS p l e s m b below meth c D adX adM dAX dAM Q cells slots μ ν 18 [(3, .int (nI i)), (2, .ref (adM 0)), (1, .ref (adX 228)), (0, .ref b)] []
  | 0, i, μ, ν, hg, hi5, hR => by
    have hL := hC.2.1.2.2
    refine l_iload_n hC dL_law_18 rfl 0 rfl ?_
    refine l_aload_n hC dL_law_19 rfl 3 rfl ?_
    refine l_slen hC dL_law_20 ?_
    refine l_iconst (v := 5) hC dL_law_21 (by decide) ?_
    refine l_isub hC dL_law_22 ?_
    refine l_icmp_gt (tgt := 868) hC dL_law_23 (by decide) (fun _ => kend _ _ _) (fun h => ?_)
    have h5 := go_on hL hi5 h
    omega
  | g + 1, i, μ, ν, hg, hi5, hR => by
    have hL := hC.2.1.2.2
    refine l_iload_n hC dL_law_18 rfl 0 rfl ?_
    refine l_aload_n hC dL_law_19 rfl 3 rfl ?_
    refine l_slen hC dL_law_20 ?_
    refine l_iconst (v := 5) hC dL_law_21 (by decide) ?_
    refine l_isub hC dL_law_22 ?_
    refine l_icmp_gt (tgt := 868) hC dL_law_23 (by decide) (fun _ => kend _ _ _) (fun h => ?_)
    have h5 := go_on hL hi5 h
    have hnext : ∀ μ1 ν1, RR μ1 ν1 → lS p l e s m b below meth c D adX adM dAX dAM Q cells slots μ1 ν1 862 [(3, .int (nI i)), (2, .ref (adM 0)), (1, .ref (adX 228)), (0, .ref b)] [] := by
      intro μ1 ν1 hR1
      refine l_iinc (v := nI (i + 5)) (lv' := [(3, .int (nI (i + 5))), (2, .ref (adM 0)), (1, .ref (adX 228)), (0, .ref b)]) (kx := 0) hC dL_law_862 rfl (by rw [show Int32.ofInt 5 = nI 5 from rfl, nI_add]) (by decide) rfl ?_
      refine l_goto (tgt := 18) hC dL_law_865 (by decide) ?_
      exact lw_loop hC hcs kend g (i + 5) μ1 ν1 (by omega) (by omega) hR1
    refine l_aload_n hC dL_law_26 rfl 3 rfl ?_
    refine l_iload_n hC dL_law_27 rfl 0 rfl ?_
    refine l_sld hC i rfl (by omega) dL_law_28 ?_
    refine l_bipush (v := 31) hC dL_law_29 (by decide) ?_
    refine l_iand hC dL_law_31 ?_
    obtain ⟨j, hj, ej⟩ := and31 (xs i)
    rw [ej]
    by_cases h24 : 24 ≤ j
    · refine l_swOut (tgt := 862) hC dL_law_32 (Or.inr ?_) (by decide) (hnext μ ν hR)
      rw [nI_toInt (by omega)]
      omega
    · rcases (show j = 0 ∨ j = 1 ∨ j = 2 ∨ j = 3 ∨ j = 4 ∨ j = 5 ∨ j = 6 ∨ j = 7 ∨ j = 8 ∨ j = 9 ∨ j = 10 ∨ j = 11 ∨ j = 12 ∨ j = 13 ∨ j = 14 ∨ j = 15 ∨ j = 16 ∨ j = 17 ∨ j = 18 ∨ j = 19 ∨ j = 20 ∨ j = 21 ∨ j = 22 ∨ j = 23 by omega) with rfl | rfl | rfl | rfl | rfl | rfl | rfl | rfl | rfl | rfl | rfl | rfl | rfl | rfl | rfl | rfl | rfl | rfl | rfl | rfl | rfl | rfl | rfl | rfl
      · exact l_sw (tgt := 144) (off := 112) hC dL_law_32 (by decide) (by decide) (by decide) (by decide) (lw_c0 hC h5 hcs hR hnext)
      · exact l_sw (tgt := 167) (off := 135) hC dL_law_32 (by decide) (by decide) (by decide) (by decide) (lw_c1 hC h5 hcs hR hnext)
      · exact l_sw (tgt := 200) (off := 168) hC dL_law_32 (by decide) (by decide) (by decide) (by decide) (lw_c2 hC h5 hcs hR hnext)
      · exact l_sw (tgt := 233) (off := 201) hC dL_law_32 (by decide) (by decide) (by decide) (by decide) (lw_c3 hC h5 hcs hR hnext)
      · exact l_sw (tgt := 266) (off := 234) hC dL_law_32 (by decide) (by decide) (by decide) (by decide) (lw_c4 hC h5 hcs hR hnext)
      · exact l_sw (tgt := 315) (off := 283) hC dL_law_32 (by decide) (by decide) (by decide) (by decide) (lw_c5 hC h5 hcs hR hnext)
      · exact l_sw (tgt := 328) (off := 296) hC dL_law_32 (by decide) (by decide) (by decide) (by decide) (lw_c6 hC h5 hcs hR hnext)
      · exact l_sw (tgt := 361) (off := 329) hC dL_law_32 (by decide) (by decide) (by decide) (by decide) (lw_c7 hC h5 hcs hR hnext)
      · exact l_sw (tgt := 394) (off := 362) hC dL_law_32 (by decide) (by decide) (by decide) (by decide) (lw_c8 hC h5 hcs hR hnext)
      · exact l_sw (tgt := 407) (off := 375) hC dL_law_32 (by decide) (by decide) (by decide) (by decide) (lw_c9 hC h5 hcs hR hnext)
      · exact l_sw (tgt := 450) (off := 418) hC dL_law_32 (by decide) (by decide) (by decide) (by decide) (lw_c10 hC h5 hcs hR hnext)
      · exact l_sw (tgt := 475) (off := 443) hC dL_law_32 (by decide) (by decide) (by decide) (by decide) (lw_c11 hC h5 hcs hR hnext)
      · exact l_sw (tgt := 488) (off := 456) hC dL_law_32 (by decide) (by decide) (by decide) (by decide) (lw_c12 hC h5 hcs hR hnext)
      · exact l_sw (tgt := 501) (off := 469) hC dL_law_32 (by decide) (by decide) (by decide) (by decide) (lw_c13 hC h5 hcs hR hnext)
      · exact l_sw (tgt := 514) (off := 482) hC dL_law_32 (by decide) (by decide) (by decide) (by decide) (lw_c14 hC h5 hcs hR hnext)
      · exact l_sw (tgt := 527) (off := 495) hC dL_law_32 (by decide) (by decide) (by decide) (by decide) (lw_c15 hC h5 hcs hR hnext)
      · exact l_sw (tgt := 560) (off := 528) hC dL_law_32 (by decide) (by decide) (by decide) (by decide) (lw_c16 hC h5 hcs hR hnext)
      · exact l_sw (tgt := 593) (off := 561) hC dL_law_32 (by decide) (by decide) (by decide) (by decide) (lw_c17 hC h5 hcs hR hnext)
      · exact l_sw (tgt := 642) (off := 610) hC dL_law_32 (by decide) (by decide) (by decide) (by decide) (lw_c18 hC h5 hcs hR hnext)
      · exact l_sw (tgt := 727) (off := 695) hC dL_law_32 (by decide) (by decide) (by decide) (by decide) (lw_c19 hC h5 hcs hR hnext)
      · exact l_sw (tgt := 760) (off := 728) hC dL_law_32 (by decide) (by decide) (by decide) (by decide) (lw_c20 hC h5 hcs hR hnext)
      · exact l_sw (tgt := 783) (off := 751) hC dL_law_32 (by decide) (by decide) (by decide) (by decide) (lw_c21 hC h5 hcs hR hnext)
      · exact l_sw (tgt := 816) (off := 784) hC dL_law_32 (by decide) (by decide) (by decide) (by decide) (lw_c22 hC h5 hcs hR hnext)
      · exact l_sw (tgt := 839) (off := 807) hC dL_law_32 (by decide) (by decide) (by decide) (by decide) (lw_c23 hC h5 hcs hR hnext)
end LAW4

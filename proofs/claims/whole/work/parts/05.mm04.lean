theorem hmX6_close_7 : Cond.fieldLink RX6 7 "HeatBillsModel" "s" "[I" ∈ wsX6_close := List.mem_of_getElem? (i := 1) rfl
theorem hiX6_close_X6 : ∀ w ∈ wsX60, w ∈ wsX6_close := fun _ h => List.mem_cons_of_mem _ (List.mem_append_right _ h)
def lX6_close_91 (n : Nat) (v1 : Int32) (k : Int32 → hb_m → Option (Int32 × hb_m)) : Nat → Int32 → hb_m → Option (Int32 × hb_m)
  | 0, _, _ => none
  | f + 1, x2, μ => if ib (1 : Int32) 415 then
if (rd μ 1 (1 : Int32).toNatClampNeg) ≤ x2 then
(k x2 μ)
else
(bi (fX6_old n v1 ((3 : Int32) + x2) μ) (fun r109 m109 =>
bi (fX6_unitsNow n x2 m109) (fun r114 m114 =>
if ib r109 415 then
lX6_close_91 n v1 k f (x2 + (1 : Int32)) (wr m114 1 r109.toNatClampNeg r114)
else none)))
else none
def lX6_close_126 (n : Nat) (v1 : Int32) (k : Int32 → hb_m → Option (Int32 × hb_m)) : Nat → Int32 → hb_m → Option (Int32 × hb_m)
  | 0, _, _ => none
  | f + 1, x2, μ => if ib (0 : Int32) 415 then
if (rd μ 1 (0 : Int32).toNatClampNeg) ≤ x2 then
(k x2 μ)
else
(bi (fX6_ofFlat n x2 (1 : Int32) μ) (fun r139 m139 =>
bi (fX6_ofFlat n x2 (2 : Int32) m139) (fun r146 m146 =>
bi (fX6_old n v1 ((23 : Int32) + ((2 : Int32) * x2)) m146) (fun r162 m162 =>
if ib r162 415 then
bi (fX6_old n v1 (((23 : Int32) + ((2 : Int32) * x2)) + (1 : Int32)) (wr m162 1 r162.toNatClampNeg r139)) (fun r180 m180 =>
if ib r180 415 then
bi (fX6_old n v1 ((39 : Int32) + ((2 : Int32) * x2)) (wr m180 1 r180.toNatClampNeg r146)) (fun r197 m197 =>
bi (fX6_tenantOf n x2 (0 : Int32) r139 r146 m197) (fun r206 m206 =>
if ib r197 415 then
bi (fX6_old n v1 (((39 : Int32) + ((2 : Int32) * x2)) + (1 : Int32)) (wr m206 1 r197.toNatClampNeg r206)) (fun r223 m223 =>
bi (fX6_tenantOf n x2 (1 : Int32) r139 r146 m223) (fun r232 m232 =>
if ib r223 415 then
bi (fX6_old n v1 ((55 : Int32) + ((2 : Int32) * x2)) (wr m232 1 r223.toNatClampNeg r232)) (fun r247 m247 =>
if ib r247 415 then
bi (fX6_old n v1 (((55 : Int32) + ((2 : Int32) * x2)) + (1 : Int32)) (wr m247 1 r247.toNatClampNeg (0 : Int32))) (fun r265 m265 =>
if ib r265 415 then
if ib (((7 : Int32) + ((3 : Int32) * x2)) + (1 : Int32)) 415 then
if ib (((7 : Int32) + ((3 : Int32) * x2)) + (2 : Int32)) 415 then
lX6_close_126 n v1 k f (x2 + (1 : Int32)) (wr (wr (wr m265 1 r265.toNatClampNeg (0 : Int32)) 1 (((7 : Int32) + ((3 : Int32) * x2)) + (1 : Int32)).toNatClampNeg (0 : Int32)) 1 (((7 : Int32) + ((3 : Int32) * x2)) + (2 : Int32)).toNatClampNeg (-5 : Int32))
else none
else none
else none)
else none)
else none))
else none))
else none)
else none))))
else none
def lX6_close_307 (n : Nat) (v1 : Int32) (k : Int32 → hb_m → Option (Int32 × hb_m)) : Nat → Int32 → hb_m → Option (Int32 × hb_m)
  | 0, _, _ => none
  | f + 1, x2, μ => if ib (1 : Int32) 415 then
if (rd μ 1 (1 : Int32).toNatClampNeg) ≤ x2 then
(k x2 μ)
else
(bi (fX6_of n x2 (3 : Int32) μ) (fun r323 m323 =>
bv (fX6_puts n x2 (2 : Int32) r323 m323) (fun m326 =>
lX6_close_307 n v1 k f (x2 + (1 : Int32)) m326)))
else none
def fX6_close (n : Nat) (μ : hb_m) : Option (Int32 × hb_m) :=
if ib (2 : Int32) 415 then
if (rd μ 1 (2 : Int32).toNatClampNeg) = (4 : Int32) then
(some ((-3 : Int32), μ))
else
(if ib (0 : Int32) 415 then
if (rd μ 1 (0 : Int32).toNatClampNeg) = 0 then
(some ((-4 : Int32), μ))
else
(bv (fX6_records n μ) (fun m28 =>
if ib (4 : Int32) 415 then
bv (fX6_laysOpen n (rd m28 1 (4 : Int32).toNatClampNeg) m28) (fun m38 =>
bi (fX6_old n (rd μ 1 (2 : Int32).toNatClampNeg) (0 : Int32) m38) (fun r47 m47 =>
if ib (3 : Int32) 415 then
if ib r47 415 then
bi (fX6_old n (rd μ 1 (2 : Int32).toNatClampNeg) (1 : Int32) (wr m47 1 r47.toNatClampNeg (rd m47 1 (3 : Int32).toNatClampNeg))) (fun r63 m63 =>
if ib (4 : Int32) 415 then
if ib r63 415 then
bi (fX6_old n (rd μ 1 (2 : Int32).toNatClampNeg) (2 : Int32) (wr m63 1 r63.toNatClampNeg (rd m63 1 (4 : Int32).toNatClampNeg))) (fun r79 m79 =>
if ib (1 : Int32) 415 then
if ib r79 415 then
lX6_close_91 n (rd μ 1 (2 : Int32).toNatClampNeg) (fun x2_91 m91 =>
lX6_close_126 n (rd μ 1 (2 : Int32).toNatClampNeg) (fun x2_126 m126 =>
lX6_close_307 n (rd μ 1 (2 : Int32).toNatClampNeg) (fun x2_307 m307 =>
if ib (3 : Int32) 415 then
if ib (2 : Int32) 415 then
if ib (2 : Int32) 415 then
some ((rd μ 1 (2 : Int32).toNatClampNeg), (wr (wr m307 1 (3 : Int32).toNatClampNeg (0 : Int32)) 1 (2 : Int32).toNatClampNeg ((rd (wr m307 1 (3 : Int32).toNatClampNeg (0 : Int32)) 1 (2 : Int32).toNatClampNeg) + (1 : Int32))))
else none
else none
else none) n (0 : Int32) m126) n (0 : Int32) m91) n (0 : Int32) (wr m79 1 r79.toNatClampNeg (rd m79 1 (1 : Int32).toNatClampNeg))
else none
else none)
else none
else none)
else none
else none))
else none))
else none)
else none
abbrev rmX6_close : Room := { frames := 6, cells := 0, slots := 0, locals := 133 }
set_option maxRecDepth 100000 in
set_option maxHeartbeats 4000000 in
theorem tX6_close {l : Launch} {D : va_G} {ad : Nat → Nat} {dA : Nat → ClassId} (hI : hb_I 12 ad) (n : Nat) (μ : hb_m) : hb_M (hb_Qi vwCl kdM 12 ad D dA) l yX6_close wsX6_close rmX6_close vwCl kdM 12 ad D dA [] [] [.ref (ad 0)] μ (fX6_close n μ) := by
  refine hb_start (cc := cX6_close) (maxL := 5) (ret := (some .int)) (by decide) rfl hI (Nat.le_of_ble_eq_true rfl) [(0, .ref (ad 0))] rfl ?_
  intro p e s m args below meth c hC hr
  have L91 : ∀ (v1 : Int32) (k : Int32 → hb_m → Option (Int32 × hb_m)) (hk : ∀ (x2 : Int32) (μ : hb_m), hb_V p l e rmX6_close s m args below meth c 5 vwCl kdM 12 ad D dA (hb_Qi vwCl kdM 12 ad D dA) μ 124 [(2, .int x2), (1, .int v1), (0, .ref (ad 0))] [] (k x2 μ)) (f : Nat) (x2 : Int32) (μ : hb_m), hb_V p l e rmX6_close s m args below meth c 5 vwCl kdM 12 ad D dA (hb_Qi vwCl kdM 12 ad D dA) μ 91 [(2, .int x2), (1, .int v1), (0, .ref (ad 0))] [] (lX6_close_91 n v1 k f x2 μ) := by
    intro v1 k hk f
    induction f with
    | zero => intro x2 μ; rw [lX6_close_91]; exact hr_none
    | succ f ih =>
      intro x2 μ
      rw [lX6_close_91]
      refine hr_iload_n hC dX6_close_91 rfl 0 rfl ?_
      refine hr_aload_n hC dX6_close_92 rfl 2 rfl ?_
      refine hr_getR hC hiX6_close_X6 rfl km0 0 (by decide) hmX6_close_7 rfl dX6_close_93 ?_
      refine hr_iconst (v := 1) hC dX6_close_96 (by decide) ?_
      refine hr_iald hC km1 dX6_close_97 ?_
      refine hr_icmp_ge (tgt := 124) hC dX6_close_98 (by decide) (fun _ => ?_) (fun _ => ?_)
      · refine hr_sub (lv' := [(2, .int x2), (1, .int v1), (0, .ref (ad 0))]) [0, 1, 2] rfl ?_
        exact hk _ _
      · refine hr_aload_n hC dX6_close_101 rfl 2 rfl ?_
        refine hr_getR hC hiX6_close_X6 rfl km0 0 (by decide) hmX6_close_7 rfl dX6_close_102 ?_
        refine hr_iload_n hC dX6_close_105 rfl 1 rfl ?_
        refine hr_iconst (v := 3) hC dX6_close_106 (by decide) ?_
        refine hr_iload_n hC dX6_close_107 rfl 0 rfl ?_
        refine hr_iadd hC dX6_close_108 ?_
        refine hr_callSi (As := [.int v1, .int ((3 : Int32) + x2)]) hC rfl (tX6_old hI n v1 ((3 : Int32) + x2) μ) (va_cwS 2 hC.1.2.2.2.2 gX6_close_X6_old rfl rfl rfl (by decide +kernel) ⟨Nat.le_of_ble_eq_true rfl, Nat.le_of_ble_eq_true rfl⟩) rfl (Nat.le_of_ble_eq_true rfl) dX6_close_109 (fun r109 m109 => ?_)
        refine hr_aload_n hC dX6_close_112 rfl 2 rfl ?_
        refine hr_iload_n hC dX6_close_113 rfl 0 rfl ?_
        refine hr_callVi (As := [.int x2]) (k := 0) hC rfl (tX6_unitsNow hI n x2 m109) (cwV 1 hC.1.2.2.2.2 gX6_close_X6_unitsNow rfl rfl rfl (by decide +kernel) ⟨Nat.le_of_ble_eq_true rfl, Nat.le_of_ble_eq_true rfl⟩) km0 rfl rfl rfl (Nat.le_of_ble_eq_true rfl) dX6_close_114 (fun r114 m114 => ?_)
        refine hr_iast hC km1 dX6_close_117 ?_
        refine hr_iinc (v := (x2 + (1 : Int32))) (lv' := [(2, .int (x2 + (1 : Int32))), (1, .int v1), (0, .ref (ad 0))]) (kx := 0) hC dX6_close_118 rfl rfl (by decide) rfl ?_
        refine hr_goto (tgt := 91) hC dX6_close_121 (by decide) ?_
        refine hr_sub (lv' := [(2, .int (x2 + (1 : Int32))), (1, .int v1), (0, .ref (ad 0))]) [0, 1, 2] rfl ?_
        exact ih _ _
  have L126 : ∀ (v1 : Int32) (k : Int32 → hb_m → Option (Int32 × hb_m)) (hk : ∀ (x2 : Int32) (μ : hb_m), hb_V p l e rmX6_close s m args below meth c 5 vwCl kdM 12 ad D dA (hb_Qi vwCl kdM 12 ad D dA) μ 305 [(2, .int x2), (1, .int v1), (0, .ref (ad 0))] [] (k x2 μ)) (f : Nat) (x2 : Int32) (μ : hb_m), hb_V p l e rmX6_close s m args below meth c 5 vwCl kdM 12 ad D dA (hb_Qi vwCl kdM 12 ad D dA) μ 126 [(2, .int x2), (1, .int v1), (0, .ref (ad 0))] [] (lX6_close_126 n v1 k f x2 μ) := by
    intro v1 k hk f
    induction f with
    | zero => intro x2 μ; rw [lX6_close_126]; exact hr_none
    | succ f ih =>
      intro x2 μ
      rw [lX6_close_126]
      refine hr_iload_n hC dX6_close_126 rfl 0 rfl ?_
      refine hr_aload_n hC dX6_close_127 rfl 2 rfl ?_
      refine hr_getR hC hiX6_close_X6 rfl km0 0 (by decide) hmX6_close_7 rfl dX6_close_128 ?_
      refine hr_iconst (v := 0) hC dX6_close_131 (by decide) ?_
      refine hr_iald hC km1 dX6_close_132 ?_
      refine hr_icmp_ge (tgt := 305) hC dX6_close_133 (by decide) (fun _ => ?_) (fun _ => ?_)
      · refine hr_sub (lv' := [(2, .int x2), (1, .int v1), (0, .ref (ad 0))]) [0, 1, 2] rfl ?_
        exact hk _ _
      · refine hr_aload_n hC dX6_close_136 rfl 2 rfl ?_
        refine hr_iload_n hC dX6_close_137 rfl 0 rfl ?_
        refine hr_iconst (v := 1) hC dX6_close_138 (by decide) ?_
        refine hr_callVi (As := [.int x2, .int (1 : Int32)]) (k := 0) hC rfl (tX6_ofFlat hI n x2 (1 : Int32) μ) (cwV 2 hC.1.2.2.2.2 gX6_close_X6_ofFlat rfl rfl rfl (by decide +kernel) ⟨Nat.le_of_ble_eq_true rfl, Nat.le_of_ble_eq_true rfl⟩) km0 rfl rfl rfl (Nat.le_of_ble_eq_true rfl) dX6_close_139 (fun r139 m139 => ?_)
        refine hr_istore_n (lv' := [(3, .int r139), (2, .int x2), (1, .int v1), (0, .ref (ad 0))]) hC dX6_close_142 rfl (by decide) rfl ?_
        refine hr_aload_n hC dX6_close_143 rfl 3 rfl ?_
        refine hr_iload_n hC dX6_close_144 rfl 1 rfl ?_
        refine hr_iconst (v := 2) hC dX6_close_145 (by decide) ?_
        refine hr_callVi (As := [.int x2, .int (2 : Int32)]) (k := 0) hC rfl (tX6_ofFlat hI n x2 (2 : Int32) m139) (cwV 2 hC.1.2.2.2.2 gX6_close_X6_ofFlat rfl rfl rfl (by decide +kernel) ⟨Nat.le_of_ble_eq_true rfl, Nat.le_of_ble_eq_true rfl⟩) km0 rfl rfl rfl (Nat.le_of_ble_eq_true rfl) dX6_close_146 (fun r146 m146 => ?_)
        refine hr_istore (lv' := [(4, .int r146), (3, .int r139), (2, .int x2), (1, .int v1), (0, .ref (ad 0))]) hC dX6_close_149 (by decide) rfl ?_
        refine hr_aload_n hC dX6_close_151 rfl 4 rfl ?_
        refine hr_getR hC hiX6_close_X6 rfl km0 0 (by decide) hmX6_close_7 rfl dX6_close_152 ?_
        refine hr_iload_n hC dX6_close_155 rfl 3 rfl ?_
        refine hr_bipush (v := 23) hC dX6_close_156 (by decide) ?_
        refine hr_iconst (v := 2) hC dX6_close_158 (by decide) ?_
        refine hr_iload_n hC dX6_close_159 rfl 2 rfl ?_
        refine hr_imul hC dX6_close_160 ?_
        refine hr_iadd hC dX6_close_161 ?_
        refine hr_callSi (As := [.int v1, .int ((23 : Int32) + ((2 : Int32) * x2))]) hC rfl (tX6_old hI n v1 ((23 : Int32) + ((2 : Int32) * x2)) m146) (va_cwS 2 hC.1.2.2.2.2 gX6_close_X6_old rfl rfl rfl (by decide +kernel) ⟨Nat.le_of_ble_eq_true rfl, Nat.le_of_ble_eq_true rfl⟩) rfl (Nat.le_of_ble_eq_true rfl) dX6_close_162 (fun r162 m162 => ?_)
        refine hr_iload_n hC dX6_close_165 rfl 1 rfl ?_
        refine hr_iast hC km1 dX6_close_166 ?_
        refine hr_aload_n hC dX6_close_167 rfl 4 rfl ?_
        refine hr_getR hC hiX6_close_X6 rfl km0 0 (by decide) hmX6_close_7 rfl dX6_close_168 ?_
        refine hr_iload_n hC dX6_close_171 rfl 3 rfl ?_
        refine hr_bipush (v := 23) hC dX6_close_172 (by decide) ?_
        refine hr_iconst (v := 2) hC dX6_close_174 (by decide) ?_
        refine hr_iload_n hC dX6_close_175 rfl 2 rfl ?_
        refine hr_imul hC dX6_close_176 ?_
        refine hr_iadd hC dX6_close_177 ?_
        refine hr_iconst (v := 1) hC dX6_close_178 (by decide) ?_
        refine hr_iadd hC dX6_close_179 ?_
        refine hr_callSi (As := [.int v1, .int (((23 : Int32) + ((2 : Int32) * x2)) + (1 : Int32))]) hC rfl (tX6_old hI n v1 (((23 : Int32) + ((2 : Int32) * x2)) + (1 : Int32)) (wr m162 1 r162.toNatClampNeg r139)) (va_cwS 2 hC.1.2.2.2.2 gX6_close_X6_old rfl rfl rfl (by decide +kernel) ⟨Nat.le_of_ble_eq_true rfl, Nat.le_of_ble_eq_true rfl⟩) rfl (Nat.le_of_ble_eq_true rfl) dX6_close_180 (fun r180 m180 => ?_)
        refine hr_iload hC dX6_close_183 0 rfl ?_
        refine hr_iast hC km1 dX6_close_185 ?_
        refine hr_aload_n hC dX6_close_186 rfl 4 rfl ?_
        refine hr_getR hC hiX6_close_X6 rfl km0 0 (by decide) hmX6_close_7 rfl dX6_close_187 ?_
        refine hr_iload_n hC dX6_close_190 rfl 3 rfl ?_
        refine hr_bipush (v := 39) hC dX6_close_191 (by decide) ?_
        refine hr_iconst (v := 2) hC dX6_close_193 (by decide) ?_
        refine hr_iload_n hC dX6_close_194 rfl 2 rfl ?_
        refine hr_imul hC dX6_close_195 ?_
        refine hr_iadd hC dX6_close_196 ?_
        refine hr_callSi (As := [.int v1, .int ((39 : Int32) + ((2 : Int32) * x2))]) hC rfl (tX6_old hI n v1 ((39 : Int32) + ((2 : Int32) * x2)) (wr m180 1 r180.toNatClampNeg r146)) (va_cwS 2 hC.1.2.2.2.2 gX6_close_X6_old rfl rfl rfl (by decide +kernel) ⟨Nat.le_of_ble_eq_true rfl, Nat.le_of_ble_eq_true rfl⟩) rfl (Nat.le_of_ble_eq_true rfl) dX6_close_197 (fun r197 m197 => ?_)
        refine hr_aload_n hC dX6_close_200 rfl 4 rfl ?_
        refine hr_iload_n hC dX6_close_201 rfl 2 rfl ?_
        refine hr_iconst (v := 0) hC dX6_close_202 (by decide) ?_
        refine hr_iload_n hC dX6_close_203 rfl 1 rfl ?_
        refine hr_iload hC dX6_close_204 0 rfl ?_
        refine hr_callVi (As := [.int x2, .int (0 : Int32), .int r139, .int r146]) (k := 0) hC rfl (tX6_tenantOf hI n x2 (0 : Int32) r139 r146 m197) (cwV 4 hC.1.2.2.2.2 gX6_close_X6_tenantOf rfl rfl rfl (by decide +kernel) ⟨Nat.le_of_ble_eq_true rfl, Nat.le_of_ble_eq_true rfl⟩) km0 rfl rfl rfl (Nat.le_of_ble_eq_true rfl) dX6_close_206 (fun r206 m206 => ?_)
        refine hr_iast hC km1 dX6_close_209 ?_
        refine hr_aload_n hC dX6_close_210 rfl 4 rfl ?_
        refine hr_getR hC hiX6_close_X6 rfl km0 0 (by decide) hmX6_close_7 rfl dX6_close_211 ?_
        refine hr_iload_n hC dX6_close_214 rfl 3 rfl ?_
        refine hr_bipush (v := 39) hC dX6_close_215 (by decide) ?_
        refine hr_iconst (v := 2) hC dX6_close_217 (by decide) ?_
        refine hr_iload_n hC dX6_close_218 rfl 2 rfl ?_
        refine hr_imul hC dX6_close_219 ?_
        refine hr_iadd hC dX6_close_220 ?_
        refine hr_iconst (v := 1) hC dX6_close_221 (by decide) ?_
        refine hr_iadd hC dX6_close_222 ?_
        refine hr_callSi (As := [.int v1, .int (((39 : Int32) + ((2 : Int32) * x2)) + (1 : Int32))]) hC rfl (tX6_old hI n v1 (((39 : Int32) + ((2 : Int32) * x2)) + (1 : Int32)) (wr m206 1 r197.toNatClampNeg r206)) (va_cwS 2 hC.1.2.2.2.2 gX6_close_X6_old rfl rfl rfl (by decide +kernel) ⟨Nat.le_of_ble_eq_true rfl, Nat.le_of_ble_eq_true rfl⟩) rfl (Nat.le_of_ble_eq_true rfl) dX6_close_223 (fun r223 m223 => ?_)
        refine hr_aload_n hC dX6_close_226 rfl 4 rfl ?_
        refine hr_iload_n hC dX6_close_227 rfl 2 rfl ?_
        refine hr_iconst (v := 1) hC dX6_close_228 (by decide) ?_
        refine hr_iload_n hC dX6_close_229 rfl 1 rfl ?_
        refine hr_iload hC dX6_close_230 0 rfl ?_
        refine hr_callVi (As := [.int x2, .int (1 : Int32), .int r139, .int r146]) (k := 0) hC rfl (tX6_tenantOf hI n x2 (1 : Int32) r139 r146 m223) (cwV 4 hC.1.2.2.2.2 gX6_close_X6_tenantOf rfl rfl rfl (by decide +kernel) ⟨Nat.le_of_ble_eq_true rfl, Nat.le_of_ble_eq_true rfl⟩) km0 rfl rfl rfl (Nat.le_of_ble_eq_true rfl) dX6_close_232 (fun r232 m232 => ?_)
        refine hr_iast hC km1 dX6_close_235 ?_
        refine hr_aload_n hC dX6_close_236 rfl 4 rfl ?_
        refine hr_getR hC hiX6_close_X6 rfl km0 0 (by decide) hmX6_close_7 rfl dX6_close_237 ?_
        refine hr_iload_n hC dX6_close_240 rfl 3 rfl ?_
        refine hr_bipush (v := 55) hC dX6_close_241 (by decide) ?_
        refine hr_iconst (v := 2) hC dX6_close_243 (by decide) ?_
        refine hr_iload_n hC dX6_close_244 rfl 2 rfl ?_
        refine hr_imul hC dX6_close_245 ?_
        refine hr_iadd hC dX6_close_246 ?_
        refine hr_callSi (As := [.int v1, .int ((55 : Int32) + ((2 : Int32) * x2))]) hC rfl (tX6_old hI n v1 ((55 : Int32) + ((2 : Int32) * x2)) (wr m232 1 r223.toNatClampNeg r232)) (va_cwS 2 hC.1.2.2.2.2 gX6_close_X6_old rfl rfl rfl (by decide +kernel) ⟨Nat.le_of_ble_eq_true rfl, Nat.le_of_ble_eq_true rfl⟩) rfl (Nat.le_of_ble_eq_true rfl) dX6_close_247 (fun r247 m247 => ?_)
        refine hr_iconst (v := 0) hC dX6_close_250 (by decide) ?_
        refine hr_iast hC km1 dX6_close_251 ?_
        refine hr_aload_n hC dX6_close_252 rfl 4 rfl ?_
        refine hr_getR hC hiX6_close_X6 rfl km0 0 (by decide) hmX6_close_7 rfl dX6_close_253 ?_
        refine hr_iload_n hC dX6_close_256 rfl 3 rfl ?_
        refine hr_bipush (v := 55) hC dX6_close_257 (by decide) ?_
        refine hr_iconst (v := 2) hC dX6_close_259 (by decide) ?_
        refine hr_iload_n hC dX6_close_260 rfl 2 rfl ?_
        refine hr_imul hC dX6_close_261 ?_
        refine hr_iadd hC dX6_close_262 ?_
        refine hr_iconst (v := 1) hC dX6_close_263 (by decide) ?_
        refine hr_iadd hC dX6_close_264 ?_
        refine hr_callSi (As := [.int v1, .int (((55 : Int32) + ((2 : Int32) * x2)) + (1 : Int32))]) hC rfl (tX6_old hI n v1 (((55 : Int32) + ((2 : Int32) * x2)) + (1 : Int32)) (wr m247 1 r247.toNatClampNeg (0 : Int32))) (va_cwS 2 hC.1.2.2.2.2 gX6_close_X6_old rfl rfl rfl (by decide +kernel) ⟨Nat.le_of_ble_eq_true rfl, Nat.le_of_ble_eq_true rfl⟩) rfl (Nat.le_of_ble_eq_true rfl) dX6_close_265 (fun r265 m265 => ?_)
        refine hr_iconst (v := 0) hC dX6_close_268 (by decide) ?_
        refine hr_iast hC km1 dX6_close_269 ?_
        refine hr_aload_n hC dX6_close_270 rfl 4 rfl ?_
        refine hr_getR hC hiX6_close_X6 rfl km0 0 (by decide) hmX6_close_7 rfl dX6_close_271 ?_
        refine hr_bipush (v := 7) hC dX6_close_274 (by decide) ?_
        refine hr_iconst (v := 3) hC dX6_close_276 (by decide) ?_
        refine hr_iload_n hC dX6_close_277 rfl 2 rfl ?_
        refine hr_imul hC dX6_close_278 ?_
        refine hr_iadd hC dX6_close_279 ?_
        refine hr_iconst (v := 1) hC dX6_close_280 (by decide) ?_
        refine hr_iadd hC dX6_close_281 ?_
        refine hr_iconst (v := 0) hC dX6_close_282 (by decide) ?_
        refine hr_iast hC km1 dX6_close_283 ?_
        refine hr_aload_n hC dX6_close_284 rfl 4 rfl ?_
        refine hr_getR hC hiX6_close_X6 rfl km0 0 (by decide) hmX6_close_7 rfl dX6_close_285 ?_
        refine hr_bipush (v := 7) hC dX6_close_288 (by decide) ?_
        refine hr_iconst (v := 3) hC dX6_close_290 (by decide) ?_
        refine hr_iload_n hC dX6_close_291 rfl 2 rfl ?_
        refine hr_imul hC dX6_close_292 ?_
        refine hr_iadd hC dX6_close_293 ?_
        refine hr_iconst (v := 2) hC dX6_close_294 (by decide) ?_
        refine hr_iadd hC dX6_close_295 ?_
        refine hr_bipush (v := -5) hC dX6_close_296 (by decide) ?_
        refine hr_iast hC km1 dX6_close_298 ?_
        refine hr_iinc (v := (x2 + (1 : Int32))) (lv' := [(2, .int (x2 + (1 : Int32))), (4, .int r146), (3, .int r139), (1, .int v1), (0, .ref (ad 0))]) (kx := 2) hC dX6_close_299 rfl rfl (by decide) rfl ?_
        refine hr_goto (tgt := 126) hC dX6_close_302 (by decide) ?_
        refine hr_sub (lv' := [(2, .int (x2 + (1 : Int32))), (1, .int v1), (0, .ref (ad 0))]) [0, 3, 4] rfl ?_
        exact ih _ _
  have L307 : ∀ (v1 : Int32) (k : Int32 → hb_m → Option (Int32 × hb_m)) (hk : ∀ (x2 : Int32) (μ : hb_m), hb_V p l e rmX6_close s m args below meth c 5 vwCl kdM 12 ad D dA (hb_Qi vwCl kdM 12 ad D dA) μ 335 [(2, .int x2), (1, .int v1), (0, .ref (ad 0))] [] (k x2 μ)) (f : Nat) (x2 : Int32) (μ : hb_m), hb_V p l e rmX6_close s m args below meth c 5 vwCl kdM 12 ad D dA (hb_Qi vwCl kdM 12 ad D dA) μ 307 [(2, .int x2), (1, .int v1), (0, .ref (ad 0))] [] (lX6_close_307 n v1 k f x2 μ) := by
    intro v1 k hk f
    induction f with
    | zero => intro x2 μ; rw [lX6_close_307]; exact hr_none
    | succ f ih =>
      intro x2 μ
      rw [lX6_close_307]
      refine hr_iload_n hC dX6_close_307 rfl 0 rfl ?_
      refine hr_aload_n hC dX6_close_308 rfl 2 rfl ?_
      refine hr_getR hC hiX6_close_X6 rfl km0 0 (by decide) hmX6_close_7 rfl dX6_close_309 ?_
      refine hr_iconst (v := 1) hC dX6_close_312 (by decide) ?_
      refine hr_iald hC km1 dX6_close_313 ?_
      refine hr_icmp_ge (tgt := 335) hC dX6_close_314 (by decide) (fun _ => ?_) (fun _ => ?_)
      · refine hr_sub (lv' := [(2, .int x2), (1, .int v1), (0, .ref (ad 0))]) [0, 1, 2] rfl ?_
        exact hk _ _
      · refine hr_aload_n hC dX6_close_317 rfl 2 rfl ?_
        refine hr_iload_n hC dX6_close_318 rfl 0 rfl ?_
        refine hr_iconst (v := 2) hC dX6_close_319 (by decide) ?_
        refine hr_aload_n hC dX6_close_320 rfl 2 rfl ?_
        refine hr_iload_n hC dX6_close_321 rfl 0 rfl ?_
        refine hr_iconst (v := 3) hC dX6_close_322 (by decide) ?_
        refine hr_callVi (As := [.int x2, .int (3 : Int32)]) (k := 0) hC rfl (tX6_of hI n x2 (3 : Int32) μ) (cwV 2 hC.1.2.2.2.2 gX6_close_X6_of rfl rfl rfl (by decide +kernel) ⟨Nat.le_of_ble_eq_true rfl, Nat.le_of_ble_eq_true rfl⟩) km0 rfl rfl rfl (Nat.le_of_ble_eq_true rfl) dX6_close_323 (fun r323 m323 => ?_)
        refine hr_callVv (As := [.int x2, .int (2 : Int32), .int r323]) (k := 0) hC rfl (tX6_puts hI n x2 (2 : Int32) r323 m323) (cwV 3 hC.1.2.2.2.2 gX6_close_X6_puts rfl rfl rfl (by decide +kernel) ⟨Nat.le_of_ble_eq_true rfl, Nat.le_of_ble_eq_true rfl⟩) km0 rfl rfl rfl (Nat.le_of_ble_eq_true rfl) dX6_close_326 (fun m326 => ?_)
        refine hr_iinc (v := (x2 + (1 : Int32))) (lv' := [(2, .int (x2 + (1 : Int32))), (1, .int v1), (0, .ref (ad 0))]) (kx := 0) hC dX6_close_329 rfl rfl (by decide) rfl ?_
        refine hr_goto (tgt := 307) hC dX6_close_332 (by decide) ?_
        refine hr_sub (lv' := [(2, .int (x2 + (1 : Int32))), (1, .int v1), (0, .ref (ad 0))]) [0, 1, 2] rfl ?_
        exact ih _ _
  rw [fX6_close]
  refine hr_aload_n hC dX6_close_0 rfl 0 rfl ?_
  refine hr_getR hC hiX6_close_X6 rfl km0 0 (by decide) hmX6_close_7 rfl dX6_close_1 ?_
  refine hr_iconst (v := 2) hC dX6_close_4 (by decide) ?_
  refine hr_iald hC km1 dX6_close_5 ?_
  refine hr_istore_n (lv' := [(1, .int (rd μ 1 (2 : Int32).toNatClampNeg)), (0, .ref (ad 0))]) hC dX6_close_6 rfl (by decide) rfl ?_
  refine hr_iload_n hC dX6_close_7 rfl 0 rfl ?_
  refine hr_iconst (v := 4) hC dX6_close_8 (by decide) ?_
  refine hr_icmp_ne (tgt := 15) hC dX6_close_9 (by decide) (fun _ => ?_) (fun _ => ?_)
  · refine hr_bipush (v := -3) hC dX6_close_12 (by decide) ?_
    exact hr_ireti hC hr dX6_close_14
  · refine hr_aload_n hC dX6_close_15 rfl 1 rfl ?_
    refine hr_getR hC hiX6_close_X6 rfl km0 0 (by decide) hmX6_close_7 rfl dX6_close_16 ?_
    refine hr_iconst (v := 0) hC dX6_close_19 (by decide) ?_
    refine hr_iald hC km1 dX6_close_20 ?_
    refine hr_if_ne (tgt := 27) hC dX6_close_21 (by decide) (fun _ => ?_) (fun _ => ?_)
    · refine hr_bipush (v := -4) hC dX6_close_24 (by decide) ?_
      exact hr_ireti hC hr dX6_close_26
    · refine hr_aload_n hC dX6_close_27 rfl 1 rfl ?_
      refine hr_callVv (As := []) (k := 0) hC rfl (tX6_records hI n μ) (cwV 0 hC.1.2.2.2.2 gX6_close_X6_records rfl rfl rfl (by decide +kernel) ⟨Nat.le_of_ble_eq_true rfl, Nat.le_of_ble_eq_true rfl⟩) km0 rfl rfl rfl (Nat.le_of_ble_eq_true rfl) dX6_close_28 (fun m28 => ?_)
      refine hr_aload_n hC dX6_close_31 rfl 1 rfl ?_
      refine hr_aload_n hC dX6_close_32 rfl 1 rfl ?_
      refine hr_getR hC hiX6_close_X6 rfl km0 0 (by decide) hmX6_close_7 rfl dX6_close_33 ?_
      refine hr_iconst (v := 4) hC dX6_close_36 (by decide) ?_
      refine hr_iald hC km1 dX6_close_37 ?_
      refine hr_callVv (As := [.int (rd m28 1 (4 : Int32).toNatClampNeg)]) (k := 0) hC rfl (tX6_laysOpen hI n (rd m28 1 (4 : Int32).toNatClampNeg) m28) (cwV 1 hC.1.2.2.2.2 gX6_close_X6_laysOpen rfl rfl rfl (by decide +kernel) ⟨Nat.le_of_ble_eq_true rfl, Nat.le_of_ble_eq_true rfl⟩) km0 rfl rfl rfl (Nat.le_of_ble_eq_true rfl) dX6_close_38 (fun m38 => ?_)
      refine hr_aload_n hC dX6_close_41 rfl 1 rfl ?_
      refine hr_getR hC hiX6_close_X6 rfl km0 0 (by decide) hmX6_close_7 rfl dX6_close_42 ?_
      refine hr_iload_n hC dX6_close_45 rfl 0 rfl ?_
      refine hr_iconst (v := 0) hC dX6_close_46 (by decide) ?_
      refine hr_callSi (As := [.int (rd μ 1 (2 : Int32).toNatClampNeg), .int (0 : Int32)]) hC rfl (tX6_old hI n (rd μ 1 (2 : Int32).toNatClampNeg) (0 : Int32) m38) (va_cwS 2 hC.1.2.2.2.2 gX6_close_X6_old rfl rfl rfl (by decide +kernel) ⟨Nat.le_of_ble_eq_true rfl, Nat.le_of_ble_eq_true rfl⟩) rfl (Nat.le_of_ble_eq_true rfl) dX6_close_47 (fun r47 m47 => ?_)
      refine hr_aload_n hC dX6_close_50 rfl 1 rfl ?_
      refine hr_getR hC hiX6_close_X6 rfl km0 0 (by decide) hmX6_close_7 rfl dX6_close_51 ?_
      refine hr_iconst (v := 3) hC dX6_close_54 (by decide) ?_
      refine hr_iald hC km1 dX6_close_55 ?_
      refine hr_iast hC km1 dX6_close_56 ?_
      refine hr_aload_n hC dX6_close_57 rfl 1 rfl ?_
      refine hr_getR hC hiX6_close_X6 rfl km0 0 (by decide) hmX6_close_7 rfl dX6_close_58 ?_
      refine hr_iload_n hC dX6_close_61 rfl 0 rfl ?_
      refine hr_iconst (v := 1) hC dX6_close_62 (by decide) ?_
      refine hr_callSi (As := [.int (rd μ 1 (2 : Int32).toNatClampNeg), .int (1 : Int32)]) hC rfl (tX6_old hI n (rd μ 1 (2 : Int32).toNatClampNeg) (1 : Int32) (wr m47 1 r47.toNatClampNeg (rd m47 1 (3 : Int32).toNatClampNeg))) (va_cwS 2 hC.1.2.2.2.2 gX6_close_X6_old rfl rfl rfl (by decide +kernel) ⟨Nat.le_of_ble_eq_true rfl, Nat.le_of_ble_eq_true rfl⟩) rfl (Nat.le_of_ble_eq_true rfl) dX6_close_63 (fun r63 m63 => ?_)
      refine hr_aload_n hC dX6_close_66 rfl 1 rfl ?_
      refine hr_getR hC hiX6_close_X6 rfl km0 0 (by decide) hmX6_close_7 rfl dX6_close_67 ?_
      refine hr_iconst (v := 4) hC dX6_close_70 (by decide) ?_
      refine hr_iald hC km1 dX6_close_71 ?_
      refine hr_iast hC km1 dX6_close_72 ?_
      refine hr_aload_n hC dX6_close_73 rfl 1 rfl ?_
      refine hr_getR hC hiX6_close_X6 rfl km0 0 (by decide) hmX6_close_7 rfl dX6_close_74 ?_
      refine hr_iload_n hC dX6_close_77 rfl 0 rfl ?_
      refine hr_iconst (v := 2) hC dX6_close_78 (by decide) ?_
      refine hr_callSi (As := [.int (rd μ 1 (2 : Int32).toNatClampNeg), .int (2 : Int32)]) hC rfl (tX6_old hI n (rd μ 1 (2 : Int32).toNatClampNeg) (2 : Int32) (wr m63 1 r63.toNatClampNeg (rd m63 1 (4 : Int32).toNatClampNeg))) (va_cwS 2 hC.1.2.2.2.2 gX6_close_X6_old rfl rfl rfl (by decide +kernel) ⟨Nat.le_of_ble_eq_true rfl, Nat.le_of_ble_eq_true rfl⟩) rfl (Nat.le_of_ble_eq_true rfl) dX6_close_79 (fun r79 m79 => ?_)
      refine hr_aload_n hC dX6_close_82 rfl 1 rfl ?_
      refine hr_getR hC hiX6_close_X6 rfl km0 0 (by decide) hmX6_close_7 rfl dX6_close_83 ?_
      refine hr_iconst (v := 1) hC dX6_close_86 (by decide) ?_
      refine hr_iald hC km1 dX6_close_87 ?_
      refine hr_iast hC km1 dX6_close_88 ?_
      refine hr_iconst (v := 0) hC dX6_close_89 (by decide) ?_
      refine hr_istore_n (lv' := [(2, .int (0 : Int32)), (1, .int (rd μ 1 (2 : Int32).toNatClampNeg)), (0, .ref (ad 0))]) hC dX6_close_90 rfl (by decide) rfl ?_
      refine hr_sub (lv' := [(2, .int (0 : Int32)), (1, .int (rd μ 1 (2 : Int32).toNatClampNeg)), (0, .ref (ad 0))]) [0, 1, 2] rfl ?_
      refine L91 _ _ (fun x2_91 m91 => ?_) _ _ _
      refine hr_iconst (v := 0) hC dX6_close_124 (by decide) ?_
      refine hr_istore_n (lv' := [(2, .int (0 : Int32)), (1, .int (rd μ 1 (2 : Int32).toNatClampNeg)), (0, .ref (ad 0))]) hC dX6_close_125 rfl (by decide) rfl ?_
      refine hr_sub (lv' := [(2, .int (0 : Int32)), (1, .int (rd μ 1 (2 : Int32).toNatClampNeg)), (0, .ref (ad 0))]) [0, 1, 2] rfl ?_
      refine L126 _ _ (fun x2_126 m126 => ?_) _ _ _
      refine hr_iconst (v := 0) hC dX6_close_305 (by decide) ?_
      refine hr_istore_n (lv' := [(2, .int (0 : Int32)), (1, .int (rd μ 1 (2 : Int32).toNatClampNeg)), (0, .ref (ad 0))]) hC dX6_close_306 rfl (by decide) rfl ?_
      refine hr_sub (lv' := [(2, .int (0 : Int32)), (1, .int (rd μ 1 (2 : Int32).toNatClampNeg)), (0, .ref (ad 0))]) [0, 1, 2] rfl ?_
      refine L307 _ _ (fun x2_307 m307 => ?_) _ _ _
      refine hr_aload_n hC dX6_close_335 rfl 2 rfl ?_
      refine hr_getR hC hiX6_close_X6 rfl km0 0 (by decide) hmX6_close_7 rfl dX6_close_336 ?_
      refine hr_iconst (v := 3) hC dX6_close_339 (by decide) ?_
      refine hr_iconst (v := 0) hC dX6_close_340 (by decide) ?_
      refine hr_iast hC km1 dX6_close_341 ?_
      refine hr_aload_n hC dX6_close_342 rfl 2 rfl ?_
      refine hr_getR hC hiX6_close_X6 rfl km0 0 (by decide) hmX6_close_7 rfl dX6_close_343 ?_
      refine hr_iconst (v := 2) hC dX6_close_346 (by decide) ?_
      refine hr_dup2 hC dX6_close_347 rfl rfl ?_
      refine hr_iald hC km1 dX6_close_348 ?_
      refine hr_iconst (v := 1) hC dX6_close_349 (by decide) ?_
      refine hr_iadd hC dX6_close_350 ?_
      refine hr_iast hC km1 dX6_close_351 ?_
      refine hr_iload_n hC dX6_close_352 rfl 1 rfl ?_
      exact hr_ireti hC hr dX6_close_353
theorem hmX6_correct_7 : Cond.fieldLink RX6 7 "HeatBillsModel" "s" "[I" ∈ wsX6_correct := List.mem_of_getElem? (i := 1) rfl
theorem hmX6_correct_139 : Cond.constant RX6 139 (199980) ∈ wsX6_correct := List.mem_of_getElem? (i := 2) rfl
theorem hiX6_correct_X6 : ∀ w ∈ wsX60, w ∈ wsX6_correct := fun _ h => List.mem_cons_of_mem _ (List.mem_append_right _ h)
def lX6_correct_101 (n : Nat) (p1 : Int32) (p2 : Int32) (p3 : Int32) (k : Int32 → Int32 → hb_m → Option (Int32 × hb_m)) : Nat → Int32 → Int32 → hb_m → Option (Int32 × hb_m)
  | 0, _, _, _ => none
  | f + 1, x5, x4, μ => if ib (0 : Int32) 415 then
if ((2 : Int32) * (rd μ 1 (0 : Int32).toNatClampNeg)) ≤ x5 then
(k x5 x4 μ)
else
(if (x5 - x5 / (2 : Int32) * (2 : Int32)) = (1 : Int32) then
(bi (fX6_old n p1 ((23 : Int32) + ((2 : Int32) * (x5 / (2 : Int32)))) μ) (fun r148 m148 =>
if ib r148 415 then
bi (fX6_old n p1 (((23 : Int32) + ((2 : Int32) * (x5 / (2 : Int32)))) + (1 : Int32)) m148) (fun r166 m166 =>
if ib r166 415 then
bi (fX6_tenantOf n (x5 / (2 : Int32)) (1 : Int32) (rd m148 1 r148.toNatClampNeg) (rd m166 1 r166.toNatClampNeg) m166) (fun r170 m170 =>
bi (fX6_old n p1 ((39 : Int32) + x5) m170) (fun r187 m187 =>
if ib r187 415 then
if (r170 - (rd m187 1 r187.toNatClampNeg)) = 0 then
(bi (fX6_old n p1 ((55 : Int32) + x5) m187) (fun r219 m219 =>
if ib r219 415 then
if ib r219 415 then
bi (fX6_old n p1 ((39 : Int32) + x5) (wr m219 1 r219.toNatClampNeg ((rd m219 1 r219.toNatClampNeg) + (r170 - (rd m187 1 r187.toNatClampNeg))))) (fun r238 m238 =>
if ib r238 415 then
lX6_correct_101 n p1 p2 p3 k f (x5 + (1 : Int32)) (x4 + (0 : Int32)) (wr m238 1 r238.toNatClampNeg r170)
else none)
else none
else none))
else
(bi (fX6_old n p1 ((55 : Int32) + x5) m187) (fun r219 m219 =>
if ib r219 415 then
if ib r219 415 then
bi (fX6_old n p1 ((39 : Int32) + x5) (wr m219 1 r219.toNatClampNeg ((rd m219 1 r219.toNatClampNeg) + (r170 - (rd m187 1 r187.toNatClampNeg))))) (fun r238 m238 =>
if ib r238 415 then
lX6_correct_101 n p1 p2 p3 k f (x5 + (1 : Int32)) (x4 + (1 : Int32)) (wr m238 1 r238.toNatClampNeg r170)
else none)
else none
else none))
else none))
else none)
else none))
else
(bi (fX6_old n p1 ((23 : Int32) + ((2 : Int32) * (x5 / (2 : Int32)))) μ) (fun r148 m148 =>
if ib r148 415 then
bi (fX6_old n p1 (((23 : Int32) + ((2 : Int32) * (x5 / (2 : Int32)))) + (1 : Int32)) m148) (fun r166 m166 =>
if ib r166 415 then
bi (fX6_tenantOf n (x5 / (2 : Int32)) (0 : Int32) (rd m148 1 r148.toNatClampNeg) (rd m166 1 r166.toNatClampNeg) m166) (fun r170 m170 =>
bi (fX6_old n p1 ((39 : Int32) + x5) m170) (fun r187 m187 =>
if ib r187 415 then
if (r170 - (rd m187 1 r187.toNatClampNeg)) = 0 then
(bi (fX6_old n p1 ((55 : Int32) + x5) m187) (fun r219 m219 =>
if ib r219 415 then
if ib r219 415 then
bi (fX6_old n p1 ((39 : Int32) + x5) (wr m219 1 r219.toNatClampNeg ((rd m219 1 r219.toNatClampNeg) + (r170 - (rd m187 1 r187.toNatClampNeg))))) (fun r238 m238 =>
if ib r238 415 then
lX6_correct_101 n p1 p2 p3 k f (x5 + (1 : Int32)) (x4 + (0 : Int32)) (wr m238 1 r238.toNatClampNeg r170)
else none)
else none
else none))
else
(bi (fX6_old n p1 ((55 : Int32) + x5) m187) (fun r219 m219 =>
if ib r219 415 then
if ib r219 415 then
bi (fX6_old n p1 ((39 : Int32) + x5) (wr m219 1 r219.toNatClampNeg ((rd m219 1 r219.toNatClampNeg) + (r170 - (rd m187 1 r187.toNatClampNeg))))) (fun r238 m238 =>
if ib r238 415 then
lX6_correct_101 n p1 p2 p3 k f (x5 + (1 : Int32)) (x4 + (1 : Int32)) (wr m238 1 r238.toNatClampNeg r170)
else none)
else none
else none))
else none))
else none)
else none)))
else none
def fX6_correct (n : Nat) (p1 : Int32) (p2 : Int32) (p3 : Int32) (μ : hb_m) : Option (Int32 × hb_m) :=
bi (fX6_isClosed n p1 μ) (fun r2 m2 =>
if r2 = 0 then
(some ((-1 : Int32), m2))
else
(bi (fX6_old n p1 (2 : Int32) m2) (fun r16 m16 =>
if ib r16 415 then
bi (fX6_in n p2 (0 : Int32) ((rd m16 1 r16.toNatClampNeg) - (1 : Int32)) m16) (fun r22 m22 =>
if r22 = 0 then
(some ((-1 : Int32), m22))
else
(bi (fX6_in n p3 (0 : Int32) (199980 : Int32) m22) (fun r34 m34 =>
if r34 = 0 then
(some ((-2 : Int32), m34))
else
(bi (fX6_old n p1 ((3 : Int32) + p2) m34) (fun r51 m51 =>
if ib r51 415 then
if (rd m51 1 r51.toNatClampNeg) = p3 then
(some ((-5 : Int32), m51))
else
(bv (fX6_records n m51) (fun m63 =>
bi (fX6_old n p1 ((3 : Int32) + p2) m63) (fun r74 m74 =>
if ib r74 415 then
if ib (6 : Int32) 415 then
if ib (6 : Int32) 415 then
bv (fX6_laysOld n p1 (wr (wr m74 1 r74.toNatClampNeg p3) 1 (6 : Int32).toNatClampNeg ((rd (wr m74 1 r74.toNatClampNeg p3) 1 (6 : Int32).toNatClampNeg) + (1 : Int32)))) (fun m92 =>
lX6_correct_101 n p1 p2 p3 (fun x5_101 x4_101 m101 =>
some (x4_101, m101)) n (0 : Int32) (0 : Int32) m92)
else none
else none
else none)))
else none)))))
else none)))
abbrev rmX6_correct : Room := { frames := 4, cells := 0, slots := 0, locals := 96 }
set_option maxRecDepth 100000 in
set_option maxHeartbeats 4000000 in
theorem tX6_correct {l : Launch} {D : va_G} {ad : Nat → Nat} {dA : Nat → ClassId} (hI : hb_I 12 ad) (n : Nat) (p1 : Int32) (p2 : Int32) (p3 : Int32) (μ : hb_m) : hb_M (hb_Qi vwCl kdM 12 ad D dA) l yX6_correct wsX6_correct rmX6_correct vwCl kdM 12 ad D dA [] [] [.ref (ad 0), .int p1, .int p2, .int p3] μ (fX6_correct n p1 p2 p3 μ) := by
  refine hb_start (cc := cX6_correct) (maxL := 9) (ret := (some .int)) (by decide) rfl hI (Nat.le_of_ble_eq_true rfl) [(0, .ref (ad 0)), (1, .int p1), (2, .int p2), (3, .int p3)] rfl ?_
  intro p e s m args below meth c hC hr
  have L101 : ∀ (k : Int32 → Int32 → hb_m → Option (Int32 × hb_m)) (hk : ∀ (x5 : Int32) (x4 : Int32) (μ : hb_m), hb_V p l e rmX6_correct s m args below meth c 9 vwCl kdM 12 ad D dA (hb_Qi vwCl kdM 12 ad D dA) μ 250 [(5, .int x5), (4, .int x4), (0, .ref (ad 0)), (1, .int p1)] [] (k x5 x4 μ)) (f : Nat) (x5 : Int32) (x4 : Int32) (μ : hb_m), hb_V p l e rmX6_correct s m args below meth c 9 vwCl kdM 12 ad D dA (hb_Qi vwCl kdM 12 ad D dA) μ 101 [(5, .int x5), (4, .int x4), (0, .ref (ad 0)), (1, .int p1)] [] (lX6_correct_101 n p1 p2 p3 k f x5 x4 μ) := by
    intro k hk f
    induction f with
    | zero => intro x5 x4 μ; rw [lX6_correct_101]; exact hr_none
    | succ f ih =>
      intro x5 x4 μ
      rw [lX6_correct_101]
      refine hr_iload hC dX6_correct_101 0 rfl ?_
      refine hr_iconst (v := 2) hC dX6_correct_103 (by decide) ?_
      refine hr_aload_n hC dX6_correct_104 rfl 2 rfl ?_
      refine hr_getR hC hiX6_correct_X6 rfl km0 0 (by decide) hmX6_correct_7 rfl dX6_correct_105 ?_
      refine hr_iconst (v := 0) hC dX6_correct_108 (by decide) ?_
      refine hr_iald hC km1 dX6_correct_109 ?_
      refine hr_imul hC dX6_correct_110 ?_
      refine hr_icmp_ge (tgt := 250) hC dX6_correct_111 (by decide) (fun _ => ?_) (fun _ => ?_)
      · refine hr_sub (lv' := [(5, .int x5), (4, .int x4), (0, .ref (ad 0)), (1, .int p1)]) [0, 1, 2, 3] rfl ?_
        exact hk _ _ _
      · refine hr_iload hC dX6_correct_114 0 rfl ?_
        refine hr_iconst (v := 2) hC dX6_correct_116 (by decide) ?_
        refine hr_idiv hC dX6_correct_117 (by decide) ?_
        refine hr_istore (lv' := [(6, .int (x5 / (2 : Int32))), (5, .int x5), (4, .int x4), (0, .ref (ad 0)), (1, .int p1)]) hC dX6_correct_118 (by decide) rfl ?_
        refine hr_aload_n hC dX6_correct_120 rfl 3 rfl ?_
        refine hr_iload hC dX6_correct_121 0 rfl ?_
        refine hr_iload hC dX6_correct_123 1 rfl ?_
        refine hr_iconst (v := 2) hC dX6_correct_125 (by decide) ?_
        refine hr_irem hC dX6_correct_126 (by decide) ?_
        refine hr_iconst (v := 1) hC dX6_correct_127 (by decide) ?_
        refine hr_icmp_ne (tgt := 135) hC dX6_correct_128 (by decide) (fun _ => ?_) (fun _ => ?_)
        · refine hr_iconst (v := 1) hC dX6_correct_131 (by decide) ?_
          refine hr_goto (tgt := 136) hC dX6_correct_132 (by decide) ?_
          refine hr_aload_n hC dX6_correct_136 rfl 3 rfl ?_
          refine hr_getR hC hiX6_correct_X6 rfl km0 0 (by decide) hmX6_correct_7 rfl dX6_correct_137 ?_
          refine hr_iload_n hC dX6_correct_140 rfl 4 rfl ?_
          refine hr_bipush (v := 23) hC dX6_correct_141 (by decide) ?_
          refine hr_iconst (v := 2) hC dX6_correct_143 (by decide) ?_
          refine hr_iload hC dX6_correct_144 0 rfl ?_
          refine hr_imul hC dX6_correct_146 ?_
          refine hr_iadd hC dX6_correct_147 ?_
          refine hr_callSi (As := [.int p1, .int ((23 : Int32) + ((2 : Int32) * (x5 / (2 : Int32))))]) hC rfl (tX6_old hI n p1 ((23 : Int32) + ((2 : Int32) * (x5 / (2 : Int32)))) μ) (va_cwS 2 hC.1.2.2.2.2 gX6_correct_X6_old rfl rfl rfl (by decide +kernel) ⟨Nat.le_of_ble_eq_true rfl, Nat.le_of_ble_eq_true rfl⟩) rfl (Nat.le_of_ble_eq_true rfl) dX6_correct_148 (fun r148 m148 => ?_)
          refine hr_iald hC km1 dX6_correct_151 ?_
          refine hr_aload_n hC dX6_correct_152 rfl 3 rfl ?_
          refine hr_getR hC hiX6_correct_X6 rfl km0 0 (by decide) hmX6_correct_7 rfl dX6_correct_153 ?_
          refine hr_iload_n hC dX6_correct_156 rfl 4 rfl ?_
          refine hr_bipush (v := 23) hC dX6_correct_157 (by decide) ?_
          refine hr_iconst (v := 2) hC dX6_correct_159 (by decide) ?_
          refine hr_iload hC dX6_correct_160 0 rfl ?_
          refine hr_imul hC dX6_correct_162 ?_
          refine hr_iadd hC dX6_correct_163 ?_
          refine hr_iconst (v := 1) hC dX6_correct_164 (by decide) ?_
          refine hr_iadd hC dX6_correct_165 ?_
          refine hr_callSi (As := [.int p1, .int (((23 : Int32) + ((2 : Int32) * (x5 / (2 : Int32)))) + (1 : Int32))]) hC rfl (tX6_old hI n p1 (((23 : Int32) + ((2 : Int32) * (x5 / (2 : Int32)))) + (1 : Int32)) m148) (va_cwS 2 hC.1.2.2.2.2 gX6_correct_X6_old rfl rfl rfl (by decide +kernel) ⟨Nat.le_of_ble_eq_true rfl, Nat.le_of_ble_eq_true rfl⟩) rfl (Nat.le_of_ble_eq_true rfl) dX6_correct_166 (fun r166 m166 => ?_)
          refine hr_iald hC km1 dX6_correct_169 ?_
          refine hr_callVi (As := [.int (x5 / (2 : Int32)), .int (1 : Int32), .int (rd m148 1 r148.toNatClampNeg), .int (rd m166 1 r166.toNatClampNeg)]) (k := 0) hC rfl (tX6_tenantOf hI n (x5 / (2 : Int32)) (1 : Int32) (rd m148 1 r148.toNatClampNeg) (rd m166 1 r166.toNatClampNeg) m166) (cwV 4 hC.1.2.2.2.2 gX6_correct_X6_tenantOf rfl rfl rfl (by decide +kernel) ⟨Nat.le_of_ble_eq_true rfl, Nat.le_of_ble_eq_true rfl⟩) km0 rfl rfl rfl (Nat.le_of_ble_eq_true rfl) dX6_correct_170 (fun r170 m170 => ?_)
          refine hr_istore (lv' := [(7, .int r170), (6, .int (x5 / (2 : Int32))), (5, .int x5), (4, .int x4), (0, .ref (ad 0)), (1, .int p1)]) hC dX6_correct_173 (by decide) rfl ?_
          refine hr_iload hC dX6_correct_175 0 rfl ?_
          refine hr_aload_n hC dX6_correct_177 rfl 4 rfl ?_
          refine hr_getR hC hiX6_correct_X6 rfl km0 0 (by decide) hmX6_correct_7 rfl dX6_correct_178 ?_
          refine hr_iload_n hC dX6_correct_181 rfl 5 rfl ?_
          refine hr_bipush (v := 39) hC dX6_correct_182 (by decide) ?_
          refine hr_iload hC dX6_correct_184 2 rfl ?_
          refine hr_iadd hC dX6_correct_186 ?_
          refine hr_callSi (As := [.int p1, .int ((39 : Int32) + x5)]) hC rfl (tX6_old hI n p1 ((39 : Int32) + x5) m170) (va_cwS 2 hC.1.2.2.2.2 gX6_correct_X6_old rfl rfl rfl (by decide +kernel) ⟨Nat.le_of_ble_eq_true rfl, Nat.le_of_ble_eq_true rfl⟩) rfl (Nat.le_of_ble_eq_true rfl) dX6_correct_187 (fun r187 m187 => ?_)
          refine hr_iald hC km1 dX6_correct_190 ?_
          refine hr_isub hC dX6_correct_191 ?_
          refine hr_istore (lv' := [(8, .int (r170 - (rd m187 1 r187.toNatClampNeg))), (7, .int r170), (6, .int (x5 / (2 : Int32))), (5, .int x5), (4, .int x4), (0, .ref (ad 0)), (1, .int p1)]) hC dX6_correct_192 (by decide) rfl ?_
          refine hr_iload hC dX6_correct_194 4 rfl ?_
          refine hr_iload hC dX6_correct_196 0 rfl ?_
          refine hr_if_ne (tgt := 205) hC dX6_correct_198 (by decide) (fun _ => ?_) (fun _ => ?_)
          · refine hr_iconst (v := 0) hC dX6_correct_201 (by decide) ?_
            refine hr_goto (tgt := 206) hC dX6_correct_202 (by decide) ?_
            refine hr_iadd hC dX6_correct_206 ?_
            refine hr_istore (lv' := [(4, .int (x4 + (0 : Int32))), (8, .int (r170 - (rd m187 1 r187.toNatClampNeg))), (7, .int r170), (6, .int (x5 / (2 : Int32))), (5, .int x5), (0, .ref (ad 0)), (1, .int p1)]) hC dX6_correct_207 (by decide) rfl ?_
            refine hr_aload_n hC dX6_correct_209 rfl 5 rfl ?_
            refine hr_getR hC hiX6_correct_X6 rfl km0 0 (by decide) hmX6_correct_7 rfl dX6_correct_210 ?_
            refine hr_iload_n hC dX6_correct_213 rfl 6 rfl ?_
            refine hr_bipush (v := 55) hC dX6_correct_214 (by decide) ?_
            refine hr_iload hC dX6_correct_216 4 rfl ?_
            refine hr_iadd hC dX6_correct_218 ?_
            refine hr_callSi (As := [.int p1, .int ((55 : Int32) + x5)]) hC rfl (tX6_old hI n p1 ((55 : Int32) + x5) m187) (va_cwS 2 hC.1.2.2.2.2 gX6_correct_X6_old rfl rfl rfl (by decide +kernel) ⟨Nat.le_of_ble_eq_true rfl, Nat.le_of_ble_eq_true rfl⟩) rfl (Nat.le_of_ble_eq_true rfl) dX6_correct_219 (fun r219 m219 => ?_)
            refine hr_dup2 hC dX6_correct_222 rfl rfl ?_
            refine hr_iald hC km1 dX6_correct_223 ?_
            refine hr_iload hC dX6_correct_224 1 rfl ?_
            refine hr_iadd hC dX6_correct_226 ?_
            refine hr_iast hC km1 dX6_correct_227 ?_
            refine hr_aload_n hC dX6_correct_228 rfl 5 rfl ?_
            refine hr_getR hC hiX6_correct_X6 rfl km0 0 (by decide) hmX6_correct_7 rfl dX6_correct_229 ?_
            refine hr_iload_n hC dX6_correct_232 rfl 6 rfl ?_
            refine hr_bipush (v := 39) hC dX6_correct_233 (by decide) ?_
            refine hr_iload hC dX6_correct_235 4 rfl ?_
            refine hr_iadd hC dX6_correct_237 ?_
            refine hr_callSi (As := [.int p1, .int ((39 : Int32) + x5)]) hC rfl (tX6_old hI n p1 ((39 : Int32) + x5) (wr m219 1 r219.toNatClampNeg ((rd m219 1 r219.toNatClampNeg) + (r170 - (rd m187 1 r187.toNatClampNeg))))) (va_cwS 2 hC.1.2.2.2.2 gX6_correct_X6_old rfl rfl rfl (by decide +kernel) ⟨Nat.le_of_ble_eq_true rfl, Nat.le_of_ble_eq_true rfl⟩) rfl (Nat.le_of_ble_eq_true rfl) dX6_correct_238 (fun r238 m238 => ?_)
            refine hr_iload hC dX6_correct_241 2 rfl ?_
            refine hr_iast hC km1 dX6_correct_243 ?_
            refine hr_iinc (v := (x5 + (1 : Int32))) (lv' := [(5, .int (x5 + (1 : Int32))), (4, .int (x4 + (0 : Int32))), (8, .int (r170 - (rd m187 1 r187.toNatClampNeg))), (7, .int r170), (6, .int (x5 / (2 : Int32))), (0, .ref (ad 0)), (1, .int p1)]) (kx := 4) hC dX6_correct_244 rfl rfl (by decide) rfl ?_
            refine hr_goto (tgt := 101) hC dX6_correct_247 (by decide) ?_
            refine hr_sub (lv' := [(5, .int (x5 + (1 : Int32))), (4, .int (x4 + (0 : Int32))), (0, .ref (ad 0)), (1, .int p1)]) [0, 1, 5, 6] rfl ?_
            exact ih _ _ _
          · refine hr_iconst (v := 1) hC dX6_correct_205 (by decide) ?_
            refine hr_iadd hC dX6_correct_206 ?_
            refine hr_istore (lv' := [(4, .int (x4 + (1 : Int32))), (8, .int (r170 - (rd m187 1 r187.toNatClampNeg))), (7, .int r170), (6, .int (x5 / (2 : Int32))), (5, .int x5), (0, .ref (ad 0)), (1, .int p1)]) hC dX6_correct_207 (by decide) rfl ?_
            refine hr_aload_n hC dX6_correct_209 rfl 5 rfl ?_
            refine hr_getR hC hiX6_correct_X6 rfl km0 0 (by decide) hmX6_correct_7 rfl dX6_correct_210 ?_
            refine hr_iload_n hC dX6_correct_213 rfl 6 rfl ?_
            refine hr_bipush (v := 55) hC dX6_correct_214 (by decide) ?_
            refine hr_iload hC dX6_correct_216 4 rfl ?_
            refine hr_iadd hC dX6_correct_218 ?_
            refine hr_callSi (As := [.int p1, .int ((55 : Int32) + x5)]) hC rfl (tX6_old hI n p1 ((55 : Int32) + x5) m187) (va_cwS 2 hC.1.2.2.2.2 gX6_correct_X6_old rfl rfl rfl (by decide +kernel) ⟨Nat.le_of_ble_eq_true rfl, Nat.le_of_ble_eq_true rfl⟩) rfl (Nat.le_of_ble_eq_true rfl) dX6_correct_219 (fun r219 m219 => ?_)
            refine hr_dup2 hC dX6_correct_222 rfl rfl ?_
            refine hr_iald hC km1 dX6_correct_223 ?_
            refine hr_iload hC dX6_correct_224 1 rfl ?_
            refine hr_iadd hC dX6_correct_226 ?_
            refine hr_iast hC km1 dX6_correct_227 ?_
            refine hr_aload_n hC dX6_correct_228 rfl 5 rfl ?_
            refine hr_getR hC hiX6_correct_X6 rfl km0 0 (by decide) hmX6_correct_7 rfl dX6_correct_229 ?_
            refine hr_iload_n hC dX6_correct_232 rfl 6 rfl ?_
            refine hr_bipush (v := 39) hC dX6_correct_233 (by decide) ?_
            refine hr_iload hC dX6_correct_235 4 rfl ?_
            refine hr_iadd hC dX6_correct_237 ?_
            refine hr_callSi (As := [.int p1, .int ((39 : Int32) + x5)]) hC rfl (tX6_old hI n p1 ((39 : Int32) + x5) (wr m219 1 r219.toNatClampNeg ((rd m219 1 r219.toNatClampNeg) + (r170 - (rd m187 1 r187.toNatClampNeg))))) (va_cwS 2 hC.1.2.2.2.2 gX6_correct_X6_old rfl rfl rfl (by decide +kernel) ⟨Nat.le_of_ble_eq_true rfl, Nat.le_of_ble_eq_true rfl⟩) rfl (Nat.le_of_ble_eq_true rfl) dX6_correct_238 (fun r238 m238 => ?_)
            refine hr_iload hC dX6_correct_241 2 rfl ?_
            refine hr_iast hC km1 dX6_correct_243 ?_
            refine hr_iinc (v := (x5 + (1 : Int32))) (lv' := [(5, .int (x5 + (1 : Int32))), (4, .int (x4 + (1 : Int32))), (8, .int (r170 - (rd m187 1 r187.toNatClampNeg))), (7, .int r170), (6, .int (x5 / (2 : Int32))), (0, .ref (ad 0)), (1, .int p1)]) (kx := 4) hC dX6_correct_244 rfl rfl (by decide) rfl ?_
            refine hr_goto (tgt := 101) hC dX6_correct_247 (by decide) ?_
            refine hr_sub (lv' := [(5, .int (x5 + (1 : Int32))), (4, .int (x4 + (1 : Int32))), (0, .ref (ad 0)), (1, .int p1)]) [0, 1, 5, 6] rfl ?_
            exact ih _ _ _
        · refine hr_iconst (v := 0) hC dX6_correct_135 (by decide) ?_
          refine hr_aload_n hC dX6_correct_136 rfl 3 rfl ?_
          refine hr_getR hC hiX6_correct_X6 rfl km0 0 (by decide) hmX6_correct_7 rfl dX6_correct_137 ?_
          refine hr_iload_n hC dX6_correct_140 rfl 4 rfl ?_
          refine hr_bipush (v := 23) hC dX6_correct_141 (by decide) ?_
          refine hr_iconst (v := 2) hC dX6_correct_143 (by decide) ?_
          refine hr_iload hC dX6_correct_144 0 rfl ?_
          refine hr_imul hC dX6_correct_146 ?_
          refine hr_iadd hC dX6_correct_147 ?_
          refine hr_callSi (As := [.int p1, .int ((23 : Int32) + ((2 : Int32) * (x5 / (2 : Int32))))]) hC rfl (tX6_old hI n p1 ((23 : Int32) + ((2 : Int32) * (x5 / (2 : Int32)))) μ) (va_cwS 2 hC.1.2.2.2.2 gX6_correct_X6_old rfl rfl rfl (by decide +kernel) ⟨Nat.le_of_ble_eq_true rfl, Nat.le_of_ble_eq_true rfl⟩) rfl (Nat.le_of_ble_eq_true rfl) dX6_correct_148 (fun r148 m148 => ?_)
          refine hr_iald hC km1 dX6_correct_151 ?_
          refine hr_aload_n hC dX6_correct_152 rfl 3 rfl ?_
          refine hr_getR hC hiX6_correct_X6 rfl km0 0 (by decide) hmX6_correct_7 rfl dX6_correct_153 ?_
          refine hr_iload_n hC dX6_correct_156 rfl 4 rfl ?_
          refine hr_bipush (v := 23) hC dX6_correct_157 (by decide) ?_
          refine hr_iconst (v := 2) hC dX6_correct_159 (by decide) ?_
          refine hr_iload hC dX6_correct_160 0 rfl ?_
          refine hr_imul hC dX6_correct_162 ?_
          refine hr_iadd hC dX6_correct_163 ?_
          refine hr_iconst (v := 1) hC dX6_correct_164 (by decide) ?_
          refine hr_iadd hC dX6_correct_165 ?_
          refine hr_callSi (As := [.int p1, .int (((23 : Int32) + ((2 : Int32) * (x5 / (2 : Int32)))) + (1 : Int32))]) hC rfl (tX6_old hI n p1 (((23 : Int32) + ((2 : Int32) * (x5 / (2 : Int32)))) + (1 : Int32)) m148) (va_cwS 2 hC.1.2.2.2.2 gX6_correct_X6_old rfl rfl rfl (by decide +kernel) ⟨Nat.le_of_ble_eq_true rfl, Nat.le_of_ble_eq_true rfl⟩) rfl (Nat.le_of_ble_eq_true rfl) dX6_correct_166 (fun r166 m166 => ?_)
          refine hr_iald hC km1 dX6_correct_169 ?_
          refine hr_callVi (As := [.int (x5 / (2 : Int32)), .int (0 : Int32), .int (rd m148 1 r148.toNatClampNeg), .int (rd m166 1 r166.toNatClampNeg)]) (k := 0) hC rfl (tX6_tenantOf hI n (x5 / (2 : Int32)) (0 : Int32) (rd m148 1 r148.toNatClampNeg) (rd m166 1 r166.toNatClampNeg) m166) (cwV 4 hC.1.2.2.2.2 gX6_correct_X6_tenantOf rfl rfl rfl (by decide +kernel) ⟨Nat.le_of_ble_eq_true rfl, Nat.le_of_ble_eq_true rfl⟩) km0 rfl rfl rfl (Nat.le_of_ble_eq_true rfl) dX6_correct_170 (fun r170 m170 => ?_)
          refine hr_istore (lv' := [(7, .int r170), (6, .int (x5 / (2 : Int32))), (5, .int x5), (4, .int x4), (0, .ref (ad 0)), (1, .int p1)]) hC dX6_correct_173 (by decide) rfl ?_
          refine hr_iload hC dX6_correct_175 0 rfl ?_
          refine hr_aload_n hC dX6_correct_177 rfl 4 rfl ?_
          refine hr_getR hC hiX6_correct_X6 rfl km0 0 (by decide) hmX6_correct_7 rfl dX6_correct_178 ?_
          refine hr_iload_n hC dX6_correct_181 rfl 5 rfl ?_
          refine hr_bipush (v := 39) hC dX6_correct_182 (by decide) ?_
          refine hr_iload hC dX6_correct_184 2 rfl ?_
          refine hr_iadd hC dX6_correct_186 ?_
          refine hr_callSi (As := [.int p1, .int ((39 : Int32) + x5)]) hC rfl (tX6_old hI n p1 ((39 : Int32) + x5) m170) (va_cwS 2 hC.1.2.2.2.2 gX6_correct_X6_old rfl rfl rfl (by decide +kernel) ⟨Nat.le_of_ble_eq_true rfl, Nat.le_of_ble_eq_true rfl⟩) rfl (Nat.le_of_ble_eq_true rfl) dX6_correct_187 (fun r187 m187 => ?_)
          refine hr_iald hC km1 dX6_correct_190 ?_
          refine hr_isub hC dX6_correct_191 ?_
          refine hr_istore (lv' := [(8, .int (r170 - (rd m187 1 r187.toNatClampNeg))), (7, .int r170), (6, .int (x5 / (2 : Int32))), (5, .int x5), (4, .int x4), (0, .ref (ad 0)), (1, .int p1)]) hC dX6_correct_192 (by decide) rfl ?_
          refine hr_iload hC dX6_correct_194 4 rfl ?_
          refine hr_iload hC dX6_correct_196 0 rfl ?_
          refine hr_if_ne (tgt := 205) hC dX6_correct_198 (by decide) (fun _ => ?_) (fun _ => ?_)
          · refine hr_iconst (v := 0) hC dX6_correct_201 (by decide) ?_
            refine hr_goto (tgt := 206) hC dX6_correct_202 (by decide) ?_
            refine hr_iadd hC dX6_correct_206 ?_
            refine hr_istore (lv' := [(4, .int (x4 + (0 : Int32))), (8, .int (r170 - (rd m187 1 r187.toNatClampNeg))), (7, .int r170), (6, .int (x5 / (2 : Int32))), (5, .int x5), (0, .ref (ad 0)), (1, .int p1)]) hC dX6_correct_207 (by decide) rfl ?_
            refine hr_aload_n hC dX6_correct_209 rfl 5 rfl ?_
            refine hr_getR hC hiX6_correct_X6 rfl km0 0 (by decide) hmX6_correct_7 rfl dX6_correct_210 ?_
            refine hr_iload_n hC dX6_correct_213 rfl 6 rfl ?_
            refine hr_bipush (v := 55) hC dX6_correct_214 (by decide) ?_
            refine hr_iload hC dX6_correct_216 4 rfl ?_
            refine hr_iadd hC dX6_correct_218 ?_
            refine hr_callSi (As := [.int p1, .int ((55 : Int32) + x5)]) hC rfl (tX6_old hI n p1 ((55 : Int32) + x5) m187) (va_cwS 2 hC.1.2.2.2.2 gX6_correct_X6_old rfl rfl rfl (by decide +kernel) ⟨Nat.le_of_ble_eq_true rfl, Nat.le_of_ble_eq_true rfl⟩) rfl (Nat.le_of_ble_eq_true rfl) dX6_correct_219 (fun r219 m219 => ?_)
            refine hr_dup2 hC dX6_correct_222 rfl rfl ?_
            refine hr_iald hC km1 dX6_correct_223 ?_
            refine hr_iload hC dX6_correct_224 1 rfl ?_
            refine hr_iadd hC dX6_correct_226 ?_
            refine hr_iast hC km1 dX6_correct_227 ?_
            refine hr_aload_n hC dX6_correct_228 rfl 5 rfl ?_
            refine hr_getR hC hiX6_correct_X6 rfl km0 0 (by decide) hmX6_correct_7 rfl dX6_correct_229 ?_
            refine hr_iload_n hC dX6_correct_232 rfl 6 rfl ?_
            refine hr_bipush (v := 39) hC dX6_correct_233 (by decide) ?_
            refine hr_iload hC dX6_correct_235 4 rfl ?_
            refine hr_iadd hC dX6_correct_237 ?_
            refine hr_callSi (As := [.int p1, .int ((39 : Int32) + x5)]) hC rfl (tX6_old hI n p1 ((39 : Int32) + x5) (wr m219 1 r219.toNatClampNeg ((rd m219 1 r219.toNatClampNeg) + (r170 - (rd m187 1 r187.toNatClampNeg))))) (va_cwS 2 hC.1.2.2.2.2 gX6_correct_X6_old rfl rfl rfl (by decide +kernel) ⟨Nat.le_of_ble_eq_true rfl, Nat.le_of_ble_eq_true rfl⟩) rfl (Nat.le_of_ble_eq_true rfl) dX6_correct_238 (fun r238 m238 => ?_)
            refine hr_iload hC dX6_correct_241 2 rfl ?_
            refine hr_iast hC km1 dX6_correct_243 ?_
            refine hr_iinc (v := (x5 + (1 : Int32))) (lv' := [(5, .int (x5 + (1 : Int32))), (4, .int (x4 + (0 : Int32))), (8, .int (r170 - (rd m187 1 r187.toNatClampNeg))), (7, .int r170), (6, .int (x5 / (2 : Int32))), (0, .ref (ad 0)), (1, .int p1)]) (kx := 4) hC dX6_correct_244 rfl rfl (by decide) rfl ?_
            refine hr_goto (tgt := 101) hC dX6_correct_247 (by decide) ?_
            refine hr_sub (lv' := [(5, .int (x5 + (1 : Int32))), (4, .int (x4 + (0 : Int32))), (0, .ref (ad 0)), (1, .int p1)]) [0, 1, 5, 6] rfl ?_
            exact ih _ _ _
          · refine hr_iconst (v := 1) hC dX6_correct_205 (by decide) ?_
            refine hr_iadd hC dX6_correct_206 ?_
            refine hr_istore (lv' := [(4, .int (x4 + (1 : Int32))), (8, .int (r170 - (rd m187 1 r187.toNatClampNeg))), (7, .int r170), (6, .int (x5 / (2 : Int32))), (5, .int x5), (0, .ref (ad 0)), (1, .int p1)]) hC dX6_correct_207 (by decide) rfl ?_
            refine hr_aload_n hC dX6_correct_209 rfl 5 rfl ?_
            refine hr_getR hC hiX6_correct_X6 rfl km0 0 (by decide) hmX6_correct_7 rfl dX6_correct_210 ?_
            refine hr_iload_n hC dX6_correct_213 rfl 6 rfl ?_
            refine hr_bipush (v := 55) hC dX6_correct_214 (by decide) ?_
            refine hr_iload hC dX6_correct_216 4 rfl ?_
            refine hr_iadd hC dX6_correct_218 ?_
            refine hr_callSi (As := [.int p1, .int ((55 : Int32) + x5)]) hC rfl (tX6_old hI n p1 ((55 : Int32) + x5) m187) (va_cwS 2 hC.1.2.2.2.2 gX6_correct_X6_old rfl rfl rfl (by decide +kernel) ⟨Nat.le_of_ble_eq_true rfl, Nat.le_of_ble_eq_true rfl⟩) rfl (Nat.le_of_ble_eq_true rfl) dX6_correct_219 (fun r219 m219 => ?_)
            refine hr_dup2 hC dX6_correct_222 rfl rfl ?_
            refine hr_iald hC km1 dX6_correct_223 ?_
            refine hr_iload hC dX6_correct_224 1 rfl ?_
            refine hr_iadd hC dX6_correct_226 ?_
            refine hr_iast hC km1 dX6_correct_227 ?_
            refine hr_aload_n hC dX6_correct_228 rfl 5 rfl ?_
            refine hr_getR hC hiX6_correct_X6 rfl km0 0 (by decide) hmX6_correct_7 rfl dX6_correct_229 ?_
            refine hr_iload_n hC dX6_correct_232 rfl 6 rfl ?_
            refine hr_bipush (v := 39) hC dX6_correct_233 (by decide) ?_
            refine hr_iload hC dX6_correct_235 4 rfl ?_
            refine hr_iadd hC dX6_correct_237 ?_
            refine hr_callSi (As := [.int p1, .int ((39 : Int32) + x5)]) hC rfl (tX6_old hI n p1 ((39 : Int32) + x5) (wr m219 1 r219.toNatClampNeg ((rd m219 1 r219.toNatClampNeg) + (r170 - (rd m187 1 r187.toNatClampNeg))))) (va_cwS 2 hC.1.2.2.2.2 gX6_correct_X6_old rfl rfl rfl (by decide +kernel) ⟨Nat.le_of_ble_eq_true rfl, Nat.le_of_ble_eq_true rfl⟩) rfl (Nat.le_of_ble_eq_true rfl) dX6_correct_238 (fun r238 m238 => ?_)
            refine hr_iload hC dX6_correct_241 2 rfl ?_
            refine hr_iast hC km1 dX6_correct_243 ?_
            refine hr_iinc (v := (x5 + (1 : Int32))) (lv' := [(5, .int (x5 + (1 : Int32))), (4, .int (x4 + (1 : Int32))), (8, .int (r170 - (rd m187 1 r187.toNatClampNeg))), (7, .int r170), (6, .int (x5 / (2 : Int32))), (0, .ref (ad 0)), (1, .int p1)]) (kx := 4) hC dX6_correct_244 rfl rfl (by decide) rfl ?_
            refine hr_goto (tgt := 101) hC dX6_correct_247 (by decide) ?_
            refine hr_sub (lv' := [(5, .int (x5 + (1 : Int32))), (4, .int (x4 + (1 : Int32))), (0, .ref (ad 0)), (1, .int p1)]) [0, 1, 5, 6] rfl ?_
            exact ih _ _ _
  rw [fX6_correct]
  refine hr_aload_n hC dX6_correct_0 rfl 0 rfl ?_
  refine hr_iload_n hC dX6_correct_1 rfl 1 rfl ?_
  refine hr_callVi (As := [.int p1]) (k := 0) hC rfl (tX6_isClosed hI n p1 μ) (cwV 1 hC.1.2.2.2.2 gX6_correct_X6_isClosed rfl rfl rfl (by decide +kernel) ⟨Nat.le_of_ble_eq_true rfl, Nat.le_of_ble_eq_true rfl⟩) km0 rfl rfl rfl (Nat.le_of_ble_eq_true rfl) dX6_correct_2 (fun r2 m2 => ?_)
  refine hr_if_eq (tgt := 28) hC dX6_correct_5 (by decide) (fun _ => ?_) (fun _ => ?_)
  · refine hr_iconst (v := -1) hC dX6_correct_28 (by decide) ?_
    exact hr_ireti hC hr dX6_correct_29
  · refine hr_iload_n hC dX6_correct_8 rfl 2 rfl ?_
    refine hr_iconst (v := 0) hC dX6_correct_9 (by decide) ?_
    refine hr_aload_n hC dX6_correct_10 rfl 0 rfl ?_
    refine hr_getR hC hiX6_correct_X6 rfl km0 0 (by decide) hmX6_correct_7 rfl dX6_correct_11 ?_
    refine hr_iload_n hC dX6_correct_14 rfl 1 rfl ?_
    refine hr_iconst (v := 2) hC dX6_correct_15 (by decide) ?_
    refine hr_callSi (As := [.int p1, .int (2 : Int32)]) hC rfl (tX6_old hI n p1 (2 : Int32) m2) (va_cwS 2 hC.1.2.2.2.2 gX6_correct_X6_old rfl rfl rfl (by decide +kernel) ⟨Nat.le_of_ble_eq_true rfl, Nat.le_of_ble_eq_true rfl⟩) rfl (Nat.le_of_ble_eq_true rfl) dX6_correct_16 (fun r16 m16 => ?_)
    refine hr_iald hC km1 dX6_correct_19 ?_
    refine hr_iconst (v := 1) hC dX6_correct_20 (by decide) ?_
    refine hr_isub hC dX6_correct_21 ?_
    refine hr_callSi (As := [.int p2, .int (0 : Int32), .int ((rd m16 1 r16.toNatClampNeg) - (1 : Int32))]) hC rfl (tX6_in hI n p2 (0 : Int32) ((rd m16 1 r16.toNatClampNeg) - (1 : Int32)) m16) (va_cwS 3 hC.1.2.2.2.2 gX6_correct_X6_in rfl rfl rfl (by decide +kernel) ⟨Nat.le_of_ble_eq_true rfl, Nat.le_of_ble_eq_true rfl⟩) rfl (Nat.le_of_ble_eq_true rfl) dX6_correct_22 (fun r22 m22 => ?_)
    refine hr_if_ne (tgt := 30) hC dX6_correct_25 (by decide) (fun _ => ?_) (fun _ => ?_)
    · refine hr_iconst (v := -1) hC dX6_correct_28 (by decide) ?_
      exact hr_ireti hC hr dX6_correct_29
    · refine hr_iload_n hC dX6_correct_30 rfl 3 rfl ?_
      refine hr_iconst (v := 0) hC dX6_correct_31 (by decide) ?_
      refine hr_ldc (v := 199980) hC dX6_correct_32 hmX6_correct_139 ?_
      refine hr_callSi (As := [.int p3, .int (0 : Int32), .int (199980 : Int32)]) hC rfl (tX6_in hI n p3 (0 : Int32) (199980 : Int32) m22) (va_cwS 3 hC.1.2.2.2.2 gX6_correct_X6_in rfl rfl rfl (by decide +kernel) ⟨Nat.le_of_ble_eq_true rfl, Nat.le_of_ble_eq_true rfl⟩) rfl (Nat.le_of_ble_eq_true rfl) dX6_correct_34 (fun r34 m34 => ?_)
      refine hr_if_ne (tgt := 43) hC dX6_correct_37 (by decide) (fun _ => ?_) (fun _ => ?_)
      · refine hr_bipush (v := -2) hC dX6_correct_40 (by decide) ?_
        exact hr_ireti hC hr dX6_correct_42
      · refine hr_aload_n hC dX6_correct_43 rfl 0 rfl ?_
        refine hr_getR hC hiX6_correct_X6 rfl km0 0 (by decide) hmX6_correct_7 rfl dX6_correct_44 ?_
        refine hr_iload_n hC dX6_correct_47 rfl 1 rfl ?_
        refine hr_iconst (v := 3) hC dX6_correct_48 (by decide) ?_
        refine hr_iload_n hC dX6_correct_49 rfl 2 rfl ?_
        refine hr_iadd hC dX6_correct_50 ?_
        refine hr_callSi (As := [.int p1, .int ((3 : Int32) + p2)]) hC rfl (tX6_old hI n p1 ((3 : Int32) + p2) m34) (va_cwS 2 hC.1.2.2.2.2 gX6_correct_X6_old rfl rfl rfl (by decide +kernel) ⟨Nat.le_of_ble_eq_true rfl, Nat.le_of_ble_eq_true rfl⟩) rfl (Nat.le_of_ble_eq_true rfl) dX6_correct_51 (fun r51 m51 => ?_)
        refine hr_iald hC km1 dX6_correct_54 ?_
        refine hr_iload_n hC dX6_correct_55 rfl 3 rfl ?_
        refine hr_icmp_ne (tgt := 62) hC dX6_correct_56 (by decide) (fun _ => ?_) (fun _ => ?_)
        · refine hr_bipush (v := -5) hC dX6_correct_59 (by decide) ?_
          exact hr_ireti hC hr dX6_correct_61
        · refine hr_aload_n hC dX6_correct_62 rfl 0 rfl ?_
          refine hr_callVv (As := []) (k := 0) hC rfl (tX6_records hI n m51) (cwV 0 hC.1.2.2.2.2 gX6_correct_X6_records rfl rfl rfl (by decide +kernel) ⟨Nat.le_of_ble_eq_true rfl, Nat.le_of_ble_eq_true rfl⟩) km0 rfl rfl rfl (Nat.le_of_ble_eq_true rfl) dX6_correct_63 (fun m63 => ?_)
          refine hr_aload_n hC dX6_correct_66 rfl 0 rfl ?_
          refine hr_getR hC hiX6_correct_X6 rfl km0 0 (by decide) hmX6_correct_7 rfl dX6_correct_67 ?_
          refine hr_iload_n hC dX6_correct_70 rfl 1 rfl ?_
          refine hr_iconst (v := 3) hC dX6_correct_71 (by decide) ?_
          refine hr_iload_n hC dX6_correct_72 rfl 2 rfl ?_
          refine hr_iadd hC dX6_correct_73 ?_
          refine hr_callSi (As := [.int p1, .int ((3 : Int32) + p2)]) hC rfl (tX6_old hI n p1 ((3 : Int32) + p2) m63) (va_cwS 2 hC.1.2.2.2.2 gX6_correct_X6_old rfl rfl rfl (by decide +kernel) ⟨Nat.le_of_ble_eq_true rfl, Nat.le_of_ble_eq_true rfl⟩) rfl (Nat.le_of_ble_eq_true rfl) dX6_correct_74 (fun r74 m74 => ?_)
          refine hr_iload_n hC dX6_correct_77 rfl 3 rfl ?_
          refine hr_iast hC km1 dX6_correct_78 ?_
          refine hr_aload_n hC dX6_correct_79 rfl 0 rfl ?_
          refine hr_getR hC hiX6_correct_X6 rfl km0 0 (by decide) hmX6_correct_7 rfl dX6_correct_80 ?_
          refine hr_bipush (v := 6) hC dX6_correct_83 (by decide) ?_
          refine hr_dup2 hC dX6_correct_85 rfl rfl ?_
          refine hr_iald hC km1 dX6_correct_86 ?_
          refine hr_iconst (v := 1) hC dX6_correct_87 (by decide) ?_
          refine hr_iadd hC dX6_correct_88 ?_
          refine hr_iast hC km1 dX6_correct_89 ?_
          refine hr_aload_n hC dX6_correct_90 rfl 0 rfl ?_
          refine hr_iload_n hC dX6_correct_91 rfl 1 rfl ?_
          refine hr_callVv (As := [.int p1]) (k := 0) hC rfl (tX6_laysOld hI n p1 (wr (wr m74 1 r74.toNatClampNeg p3) 1 (6 : Int32).toNatClampNeg ((rd (wr m74 1 r74.toNatClampNeg p3) 1 (6 : Int32).toNatClampNeg) + (1 : Int32)))) (cwV 1 hC.1.2.2.2.2 gX6_correct_X6_laysOld rfl rfl rfl (by decide +kernel) ⟨Nat.le_of_ble_eq_true rfl, Nat.le_of_ble_eq_true rfl⟩) km0 rfl rfl rfl (Nat.le_of_ble_eq_true rfl) dX6_correct_92 (fun m92 => ?_)
          refine hr_iconst (v := 0) hC dX6_correct_95 (by decide) ?_
          refine hr_istore (lv' := [(4, .int (0 : Int32)), (0, .ref (ad 0)), (1, .int p1), (2, .int p2), (3, .int p3)]) hC dX6_correct_96 (by decide) rfl ?_
          refine hr_iconst (v := 0) hC dX6_correct_98 (by decide) ?_
          refine hr_istore (lv' := [(5, .int (0 : Int32)), (4, .int (0 : Int32)), (0, .ref (ad 0)), (1, .int p1), (2, .int p2), (3, .int p3)]) hC dX6_correct_99 (by decide) rfl ?_
          refine hr_sub (lv' := [(5, .int (0 : Int32)), (4, .int (0 : Int32)), (0, .ref (ad 0)), (1, .int p1)]) [0, 1, 2, 3] rfl ?_
          refine L101 _ (fun x5_101 x4_101 m101 => ?_) _ _ _ _
          refine hr_iload hC dX6_correct_250 1 rfl ?_
          exact hr_ireti hC hr dX6_correct_252
theorem hmX6_type_143 : Cond.fieldLink RX6 143 "HeatBillsModel" "length" "I" ∈ wsX6_type := List.mem_of_getElem? (i := 1) rfl
theorem hmX6_type_19 : Cond.fieldLink RX6 19 "HeatBillsModel" "text" "[C" ∈ wsX6_type := List.mem_of_getElem? (i := 2) rfl
theorem hiX6_type_X6 : ∀ w ∈ wsX60, w ∈ wsX6_type := fun _ h => List.mem_cons_of_mem _ (List.mem_append_right _ h)
def fX6_type (n : Nat) (p1 : Int32) (μ : hb_m) : Option (Int32 × hb_m) :=
if (rd μ 0 6) = (60 : Int32) then
(some ((-3 : Int32), μ))
else
(if ib (rd μ 0 6) 60 then
some ((rd (wr (wr μ 4 (rd μ 0 6).toNatClampNeg (vp_nar .char p1)) 0 6 ((rd (wr μ 4 (rd μ 0 6).toNatClampNeg (vp_nar .char p1)) 0 6) + (1 : Int32))) 0 6), (wr (wr μ 4 (rd μ 0 6).toNatClampNeg (vp_nar .char p1)) 0 6 ((rd (wr μ 4 (rd μ 0 6).toNatClampNeg (vp_nar .char p1)) 0 6) + (1 : Int32))))
else none)
abbrev rmX6_type : Room := { frames := 0, cells := 0, slots := 0, locals := 0 }
set_option maxRecDepth 100000 in
set_option maxHeartbeats 4000000 in
theorem tX6_type {l : Launch} {D : va_G} {ad : Nat → Nat} {dA : Nat → ClassId} (hI : hb_I 12 ad) (n : Nat) (p1 : Int32) (μ : hb_m) : hb_M (hb_Qi vwCl kdM 12 ad D dA) l yX6_type wsX6_type rmX6_type vwCl kdM 12 ad D dA [] [] [.ref (ad 0), .int p1] μ (fX6_type n p1 μ) := by
  refine hb_start (cc := cX6_type) (maxL := 2) (ret := (some .int)) (by decide) rfl hI (Nat.le_of_ble_eq_true rfl) [(0, .ref (ad 0)), (1, .int p1)] rfl ?_
  intro p e s m args below meth c hC hr
  rw [fX6_type]
  refine hr_aload_n hC dX6_type_0 rfl 0 rfl ?_
  refine hr_getI hC hiX6_type_X6 rfl km0 6 (by decide) hmX6_type_143 rfl dX6_type_1 ?_
  refine hr_bipush (v := 60) hC dX6_type_4 (by decide) ?_
  refine hr_icmp_ne (tgt := 12) hC dX6_type_6 (by decide) (fun _ => ?_) (fun _ => ?_)
  · refine hr_bipush (v := -3) hC dX6_type_9 (by decide) ?_
    exact hr_ireti hC hr dX6_type_11
  · refine hr_aload_n hC dX6_type_12 rfl 0 rfl ?_
    refine hr_getR hC hiX6_type_X6 rfl km0 5 (by decide) hmX6_type_19 rfl dX6_type_13 ?_
    refine hr_aload_n hC dX6_type_16 rfl 0 rfl ?_
    refine hr_getI hC hiX6_type_X6 rfl km0 6 (by decide) hmX6_type_143 rfl dX6_type_17 ?_
    refine hr_iload_n hC dX6_type_20 rfl 1 rfl ?_
    refine hr_cast hC km4 dX6_type_21 ?_
    refine hr_aload_n hC dX6_type_22 rfl 0 rfl ?_
    refine hr_dup hC dX6_type_23 rfl ?_
    refine hr_getI hC hiX6_type_X6 rfl km0 6 (by decide) hmX6_type_143 rfl dX6_type_24 ?_
    refine hr_iconst (v := 1) hC dX6_type_27 (by decide) ?_
    refine hr_iadd hC dX6_type_28 ?_
    refine hr_putI hC hiX6_type_X6 rfl km0 6 (by decide) hmX6_type_143 tyX6_ok nmX6 rfl rfl rfl rfl dX6_type_29 ?_
    refine hr_aload_n hC dX6_type_32 rfl 0 rfl ?_
    refine hr_getI hC hiX6_type_X6 rfl km0 6 (by decide) hmX6_type_143 rfl dX6_type_33 ?_
    exact hr_ireti hC hr dX6_type_36
theorem hmX6_clearText_143 : Cond.fieldLink RX6 143 "HeatBillsModel" "length" "I" ∈ wsX6_clearText := List.mem_of_getElem? (i := 1) rfl
theorem hiX6_clearText_X6 : ∀ w ∈ wsX60, w ∈ wsX6_clearText := fun _ h => List.mem_cons_of_mem _ (List.mem_append_right _ h)
def fX6_clearText (n : Nat) (μ : hb_m) : Option (Int32 × hb_m) :=
some ((rd μ 0 6), (wr μ 0 6 (0 : Int32)))
abbrev rmX6_clearText : Room := { frames := 0, cells := 0, slots := 0, locals := 0 }
set_option maxRecDepth 100000 in
set_option maxHeartbeats 4000000 in
theorem tX6_clearText {l : Launch} {D : va_G} {ad : Nat → Nat} {dA : Nat → ClassId} (hI : hb_I 12 ad) (n : Nat) (μ : hb_m) : hb_M (hb_Qi vwCl kdM 12 ad D dA) l yX6_clearText wsX6_clearText rmX6_clearText vwCl kdM 12 ad D dA [] [] [.ref (ad 0)] μ (fX6_clearText n μ) := by
  refine hb_start (cc := cX6_clearText) (maxL := 2) (ret := (some .int)) (by decide) rfl hI (Nat.le_of_ble_eq_true rfl) [(0, .ref (ad 0))] rfl ?_
  intro p e s m args below meth c hC hr
  rw [fX6_clearText]
  refine hr_aload_n hC dX6_clearText_0 rfl 0 rfl ?_
  refine hr_getI hC hiX6_clearText_X6 rfl km0 6 (by decide) hmX6_clearText_143 rfl dX6_clearText_1 ?_
  refine hr_istore_n (lv' := [(1, .int (rd μ 0 6)), (0, .ref (ad 0))]) hC dX6_clearText_4 rfl (by decide) rfl ?_
  refine hr_aload_n hC dX6_clearText_5 rfl 1 rfl ?_
  refine hr_iconst (v := 0) hC dX6_clearText_6 (by decide) ?_
  refine hr_putI hC hiX6_clearText_X6 rfl km0 6 (by decide) hmX6_clearText_143 tyX6_ok nmX6 rfl rfl rfl rfl dX6_clearText_7 ?_
  refine hr_iload_n hC dX6_clearText_10 rfl 0 rfl ?_
  exact hr_ireti hC hr dX6_clearText_11
theorem hmX6_sees_146 : Cond.fieldLink RX6 146 "HeatBillsModel" "spot" "I" ∈ wsX6_sees := List.mem_of_getElem? (i := 1) rfl
theorem hmX6_sees_143 : Cond.fieldLink RX6 143 "HeatBillsModel" "length" "I" ∈ wsX6_sees := List.mem_of_getElem? (i := 2) rfl
theorem hmX6_sees_19 : Cond.fieldLink RX6 19 "HeatBillsModel" "text" "[C" ∈ wsX6_sees := List.mem_of_getElem? (i := 3) rfl
theorem hiX6_sees_X6 : ∀ w ∈ wsX60, w ∈ wsX6_sees := fun _ h => List.mem_cons_of_mem _ (List.mem_append_right _ h)
def fX6_sees (n : Nat) (p1 : Int32) (p2 : Int32) (μ : hb_m) : Option (Int32 × hb_m) :=
if (rd μ 0 6) ≤ (rd μ 0 13) then
(some ((0 : Int32), μ))
else
(if ib (rd μ 0 13) 60 then
bi (fX6_in n (rd μ 4 (rd μ 0 13).toNatClampNeg) p1 p2 μ) (fun r22 m22 =>
if r22 = 0 then
(some ((0 : Int32), m22))
else
(some ((1 : Int32), m22)))
else none)
abbrev rmX6_sees : Room := { frames := 1, cells := 0, slots := 0, locals := 22 }
set_option maxRecDepth 100000 in
set_option maxHeartbeats 4000000 in
theorem tX6_sees {l : Launch} {D : va_G} {ad : Nat → Nat} {dA : Nat → ClassId} (hI : hb_I 12 ad) (n : Nat) (p1 : Int32) (p2 : Int32) (μ : hb_m) : hb_M (hb_Qi vwCl kdM 12 ad D dA) l yX6_sees wsX6_sees rmX6_sees vwCl kdM 12 ad D dA [] [] [.ref (ad 0), .int p1, .int p2] μ (fX6_sees n p1 p2 μ) := by
  refine hb_start (cc := cX6_sees) (maxL := 3) (ret := (some .boolean)) (by decide) rfl hI (Nat.le_of_ble_eq_true rfl) [(0, .ref (ad 0)), (1, .int p1), (2, .int p2)] rfl ?_
  intro p e s m args below meth c hC hr
  rw [fX6_sees]
  refine hr_aload_n hC dX6_sees_0 rfl 0 rfl ?_
  refine hr_getI hC hiX6_sees_X6 rfl km0 13 (by decide) hmX6_sees_146 rfl dX6_sees_1 ?_
  refine hr_aload_n hC dX6_sees_4 rfl 0 rfl ?_
  refine hr_getI hC hiX6_sees_X6 rfl km0 6 (by decide) hmX6_sees_143 rfl dX6_sees_5 ?_
  refine hr_icmp_ge (tgt := 32) hC dX6_sees_8 (by decide) (fun _ => ?_) (fun _ => ?_)
  · refine hr_iconst (v := 0) hC dX6_sees_32 (by decide) ?_
    exact hr_iretz hC hr dX6_sees_33 rfl
  · refine hr_aload_n hC dX6_sees_11 rfl 0 rfl ?_
    refine hr_getR hC hiX6_sees_X6 rfl km0 5 (by decide) hmX6_sees_19 rfl dX6_sees_12 ?_
    refine hr_aload_n hC dX6_sees_15 rfl 0 rfl ?_
    refine hr_getI hC hiX6_sees_X6 rfl km0 13 (by decide) hmX6_sees_146 rfl dX6_sees_16 ?_
    refine hr_cald hC km4 dX6_sees_19 ?_
    refine hr_iload_n hC dX6_sees_20 rfl 1 rfl ?_
    refine hr_iload_n hC dX6_sees_21 rfl 2 rfl ?_
    refine hr_callSi (As := [.int (rd μ 4 (rd μ 0 13).toNatClampNeg), .int p1, .int p2]) hC rfl (tX6_in hI n (rd μ 4 (rd μ 0 13).toNatClampNeg) p1 p2 μ) (va_cwS 3 hC.1.2.2.2.2 gX6_sees_X6_in rfl rfl rfl (by decide +kernel) ⟨Nat.le_of_ble_eq_true rfl, Nat.le_of_ble_eq_true rfl⟩) rfl (Nat.le_of_ble_eq_true rfl) dX6_sees_22 (fun r22 m22 => ?_)
    refine hr_if_eq (tgt := 32) hC dX6_sees_25 (by decide) (fun _ => ?_) (fun _ => ?_)
    · refine hr_iconst (v := 0) hC dX6_sees_32 (by decide) ?_
      exact hr_iretz hC hr dX6_sees_33 rfl
    · refine hr_iconst (v := 1) hC dX6_sees_28 (by decide) ?_
      refine hr_goto (tgt := 33) hC dX6_sees_29 (by decide) ?_
      exact hr_iretz hC hr dX6_sees_33 rfl
theorem hmX6_takes_146 : Cond.fieldLink RX6 146 "HeatBillsModel" "spot" "I" ∈ wsX6_takes := List.mem_of_getElem? (i := 1) rfl
theorem hiX6_takes_X6 : ∀ w ∈ wsX60, w ∈ wsX6_takes := fun _ h => List.mem_cons_of_mem _ (List.mem_append_right _ h)
def fX6_takes (n : Nat) (p1 : Int32) (μ : hb_m) : Option (Int32 × hb_m) :=
bi (fX6_sees n p1 p1 μ) (fun r3 m3 =>
if r3 = 0 then
(if vp_nar .boolean r3 = r3 then some (r3, (wr m3 0 13 ((rd m3 0 13) + (0 : Int32)))) else none)
else
(if vp_nar .boolean r3 = r3 then some (r3, (wr m3 0 13 ((rd m3 0 13) + (1 : Int32)))) else none))
abbrev rmX6_takes : Room := { frames := 2, cells := 0, slots := 0, locals := 44 }
set_option maxRecDepth 100000 in
set_option maxHeartbeats 4000000 in
theorem tX6_takes {l : Launch} {D : va_G} {ad : Nat → Nat} {dA : Nat → ClassId} (hI : hb_I 12 ad) (n : Nat) (p1 : Int32) (μ : hb_m) : hb_M (hb_Qi vwCl kdM 12 ad D dA) l yX6_takes wsX6_takes rmX6_takes vwCl kdM 12 ad D dA [] [] [.ref (ad 0), .int p1] μ (fX6_takes n p1 μ) := by
  refine hb_start (cc := cX6_takes) (maxL := 3) (ret := (some .boolean)) (by decide) rfl hI (Nat.le_of_ble_eq_true rfl) [(0, .ref (ad 0)), (1, .int p1)] rfl ?_
  intro p e s m args below meth c hC hr
  rw [fX6_takes]
  refine hr_aload_n hC dX6_takes_0 rfl 0 rfl ?_
  refine hr_iload_n hC dX6_takes_1 rfl 1 rfl ?_
  refine hr_iload_n hC dX6_takes_2 rfl 1 rfl ?_
  refine hr_callVi (As := [.int p1, .int p1]) (k := 0) hC rfl (tX6_sees hI n p1 p1 μ) (cwV 2 hC.1.2.2.2.2 gX6_takes_X6_sees rfl rfl rfl (by decide +kernel) ⟨Nat.le_of_ble_eq_true rfl, Nat.le_of_ble_eq_true rfl⟩) km0 rfl rfl rfl (Nat.le_of_ble_eq_true rfl) dX6_takes_3 (fun r3 m3 => ?_)
  refine hr_istore_n (lv' := [(2, .int r3), (0, .ref (ad 0)), (1, .int p1)]) hC dX6_takes_6 rfl (by decide) rfl ?_
  refine hr_aload_n hC dX6_takes_7 rfl 1 rfl ?_
  refine hr_dup hC dX6_takes_8 rfl ?_
  refine hr_getI hC hiX6_takes_X6 rfl km0 13 (by decide) hmX6_takes_146 rfl dX6_takes_9 ?_
  refine hr_iload_n hC dX6_takes_12 rfl 0 rfl ?_
  refine hr_if_eq (tgt := 20) hC dX6_takes_13 (by decide) (fun _ => ?_) (fun _ => ?_)
  · refine hr_iconst (v := 0) hC dX6_takes_20 (by decide) ?_
    refine hr_iadd hC dX6_takes_21 ?_
    refine hr_putI hC hiX6_takes_X6 rfl km0 13 (by decide) hmX6_takes_146 tyX6_ok nmX6 rfl rfl rfl rfl dX6_takes_22 ?_
    refine hr_iload_n hC dX6_takes_25 rfl 0 rfl ?_
    exact hr_iretzC hC hr dX6_takes_26
  · refine hr_iconst (v := 1) hC dX6_takes_16 (by decide) ?_
    refine hr_goto (tgt := 21) hC dX6_takes_17 (by decide) ?_
    refine hr_iadd hC dX6_takes_21 ?_
    refine hr_putI hC hiX6_takes_X6 rfl km0 13 (by decide) hmX6_takes_146 tyX6_ok nmX6 rfl rfl rfl rfl dX6_takes_22 ?_
    refine hr_iload_n hC dX6_takes_25 rfl 0 rfl ?_
    exact hr_iretzC hC hr dX6_takes_26

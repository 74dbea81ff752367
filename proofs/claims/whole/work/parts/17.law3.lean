/-! THE LAW (3): its cases -/
set_option maxRecDepth 100000 in
theorem lw_c0 {p : Program} {l : Launch} {e : Env} {s : State} {m : MethodId} {b : Nat} {below : List Frame} {meth : Method} {c : Code} {L : Nat} {xs : Nat → Int32} {D : va_G} {adX adM : Nat → Nat} {dAX dAM : Nat → ClassId} {t1 t2 : Nat} {Q : State → Prop} {cells slots : Nat} {μ ν : hb_m} (hC : lC p s m b c L xs D adX adM dAX dAM t1 t2) {i : Nat} (hi : i + 5 ≤ L) (hcs : cells ≤ room_1.cells ∧ slots ≤ room_1.slots) (hR : RR μ ν) (kk : ∀ μ1 ν1, RR μ1 ν1 → lS p l e s m b below meth c D adX adM dAX dAM Q cells slots μ1 ν1 862 [(3, .int (nI i)), (2, .ref (adM 0)), (1, .ref (adX 228)), (0, .ref b)] []) : lS p l e s m b below meth c D adX adM dAX dAM Q cells slots μ ν 144 [(3, .int (nI i)), (2, .ref (adM 0)), (1, .ref (adX 228)), (0, .ref b)] [] := by
  have hL := hC.2.1.2.2
  obtain ⟨r, μ1, ν1, e1, e2, hR1⟩ := O_addFlat (n := 2147483648) (p := (xs (i + 1))) hR (Nat.le_refl _)
  refine l_aload_n hC dL_law_144 rfl 2 rfl ?_
  refine l_aload_n hC dL_law_145 rfl 3 rfl ?_
  refine l_iload_n hC dL_law_146 rfl 0 rfl ?_
  refine l_iconst (v := 1) hC dL_law_147 (by decide) ?_
  refine l_iadd hC dL_law_148 ?_
  refine l_sld hC (i + 1) (by rw [show (1 : Int32) = nI 1 from rfl, nI_add]) (by omega) dL_law_149 ?_
  refine l_callX (As := [.int (xs (i + 1))]) hC rfl (e1 ▸ tX5_addFlat (t1 := t1) (t2 := t2) hC.2.2.2.2.2.2.2.2.2.1 2147483648 (xs (i + 1)) μ) (cwV 1 hC.1.2.2.2.2 gL_law_X5_addFlat rfl rfl rfl (by decide +kernel) ⟨Nat.le_of_ble_eq_true rfl, Nat.le_of_ble_eq_true rfl⟩) rfl (Nat.le_of_ble_eq_true rfl) hcs dL_law_150 ?_
  refine l_aload_n hC dL_law_153 rfl 1 rfl ?_
  refine l_aload_n hC dL_law_154 rfl 3 rfl ?_
  refine l_iload_n hC dL_law_155 rfl 0 rfl ?_
  refine l_iconst (v := 1) hC dL_law_156 (by decide) ?_
  refine l_iadd hC dL_law_157 ?_
  refine l_sld hC (i + 1) (by rw [show (1 : Int32) = nI 1 from rfl, nI_add]) (by omega) dL_law_158 ?_
  refine l_callM (As := [.int (xs (i + 1))]) hC rfl (e2 ▸ tX6_addFlat hC.2.2.2.2.2.2.2.2.2.2 2147483648 (xs (i + 1)) ν) (cwV 1 hC.1.2.2.2.2 gL_law_X6_addFlat rfl rfl rfl (by decide +kernel) ⟨Nat.le_of_ble_eq_true rfl, Nat.le_of_ble_eq_true rfl⟩) rfl (Nat.le_of_ble_eq_true rfl) hcs dL_law_159 ?_
  exact l_icmp_eq (tgt := 862) hC dL_law_162 (by decide) (fun _ => kk μ1 ν1 hR1) (fun h => absurd rfl h)
set_option maxRecDepth 100000 in
theorem lw_c1 {p : Program} {l : Launch} {e : Env} {s : State} {m : MethodId} {b : Nat} {below : List Frame} {meth : Method} {c : Code} {L : Nat} {xs : Nat → Int32} {D : va_G} {adX adM : Nat → Nat} {dAX dAM : Nat → ClassId} {t1 t2 : Nat} {Q : State → Prop} {cells slots : Nat} {μ ν : hb_m} (hC : lC p s m b c L xs D adX adM dAX dAM t1 t2) {i : Nat} (hi : i + 5 ≤ L) (hcs : cells ≤ room_1.cells ∧ slots ≤ room_1.slots) (hR : RR μ ν) (kk : ∀ μ1 ν1, RR μ1 ν1 → lS p l e s m b below meth c D adX adM dAX dAM Q cells slots μ1 ν1 862 [(3, .int (nI i)), (2, .ref (adM 0)), (1, .ref (adX 228)), (0, .ref b)] []) : lS p l e s m b below meth c D adX adM dAX dAM Q cells slots μ ν 167 [(3, .int (nI i)), (2, .ref (adM 0)), (1, .ref (adX 228)), (0, .ref b)] [] := by
  have hL := hC.2.1.2.2
  obtain ⟨r, μ1, ν1, e1, e2, hR1⟩ := O_addDevice (n := 2147483648) (p1 := (xs (i + 1))) (p2 := (xs (i + 2))) hR (Nat.le_refl _)
  refine l_aload_n hC dL_law_167 rfl 2 rfl ?_
  refine l_aload_n hC dL_law_168 rfl 3 rfl ?_
  refine l_iload_n hC dL_law_169 rfl 0 rfl ?_
  refine l_iconst (v := 1) hC dL_law_170 (by decide) ?_
  refine l_iadd hC dL_law_171 ?_
  refine l_sld hC (i + 1) (by rw [show (1 : Int32) = nI 1 from rfl, nI_add]) (by omega) dL_law_172 ?_
  refine l_aload_n hC dL_law_173 rfl 3 rfl ?_
  refine l_iload_n hC dL_law_174 rfl 0 rfl ?_
  refine l_iconst (v := 2) hC dL_law_175 (by decide) ?_
  refine l_iadd hC dL_law_176 ?_
  refine l_sld hC (i + 2) (by rw [show (2 : Int32) = nI 2 from rfl, nI_add]) (by omega) dL_law_177 ?_
  refine l_callX (As := [.int (xs (i + 1)), .int (xs (i + 2))]) hC rfl (e1 ▸ tX5_addDevice (t1 := t1) (t2 := t2) hC.2.2.2.2.2.2.2.2.2.1 2147483648 (xs (i + 1)) (xs (i + 2)) μ) (cwV 2 hC.1.2.2.2.2 gL_law_X5_addDevice rfl rfl rfl (by decide +kernel) ⟨Nat.le_of_ble_eq_true rfl, Nat.le_of_ble_eq_true rfl⟩) rfl (Nat.le_of_ble_eq_true rfl) hcs dL_law_178 ?_
  refine l_aload_n hC dL_law_181 rfl 1 rfl ?_
  refine l_aload_n hC dL_law_182 rfl 3 rfl ?_
  refine l_iload_n hC dL_law_183 rfl 0 rfl ?_
  refine l_iconst (v := 1) hC dL_law_184 (by decide) ?_
  refine l_iadd hC dL_law_185 ?_
  refine l_sld hC (i + 1) (by rw [show (1 : Int32) = nI 1 from rfl, nI_add]) (by omega) dL_law_186 ?_
  refine l_aload_n hC dL_law_187 rfl 3 rfl ?_
  refine l_iload_n hC dL_law_188 rfl 0 rfl ?_
  refine l_iconst (v := 2) hC dL_law_189 (by decide) ?_
  refine l_iadd hC dL_law_190 ?_
  refine l_sld hC (i + 2) (by rw [show (2 : Int32) = nI 2 from rfl, nI_add]) (by omega) dL_law_191 ?_
  refine l_callM (As := [.int (xs (i + 1)), .int (xs (i + 2))]) hC rfl (e2 ▸ tX6_addDevice hC.2.2.2.2.2.2.2.2.2.2 2147483648 (xs (i + 1)) (xs (i + 2)) ν) (cwV 2 hC.1.2.2.2.2 gL_law_X6_addDevice rfl rfl rfl (by decide +kernel) ⟨Nat.le_of_ble_eq_true rfl, Nat.le_of_ble_eq_true rfl⟩) rfl (Nat.le_of_ble_eq_true rfl) hcs dL_law_192 ?_
  exact l_icmp_eq (tgt := 862) hC dL_law_195 (by decide) (fun _ => kk μ1 ν1 hR1) (fun h => absurd rfl h)
set_option maxRecDepth 100000 in
theorem lw_c2 {p : Program} {l : Launch} {e : Env} {s : State} {m : MethodId} {b : Nat} {below : List Frame} {meth : Method} {c : Code} {L : Nat} {xs : Nat → Int32} {D : va_G} {adX adM : Nat → Nat} {dAX dAM : Nat → ClassId} {t1 t2 : Nat} {Q : State → Prop} {cells slots : Nat} {μ ν : hb_m} (hC : lC p s m b c L xs D adX adM dAX dAM t1 t2) {i : Nat} (hi : i + 5 ≤ L) (hcs : cells ≤ room_1.cells ∧ slots ≤ room_1.slots) (hR : RR μ ν) (kk : ∀ μ1 ν1, RR μ1 ν1 → lS p l e s m b below meth c D adX adM dAX dAM Q cells slots μ1 ν1 862 [(3, .int (nI i)), (2, .ref (adM 0)), (1, .ref (adX 228)), (0, .ref b)] []) : lS p l e s m b below meth c D adX adM dAX dAM Q cells slots μ ν 200 [(3, .int (nI i)), (2, .ref (adM 0)), (1, .ref (adX 228)), (0, .ref b)] [] := by
  have hL := hC.2.1.2.2
  obtain ⟨r, μ1, ν1, e1, e2, hR1⟩ := O_set (n := 2147483648) (p1 := (xs (i + 1))) (p2 := (xs (i + 2))) hR (Nat.le_refl _)
  refine l_aload_n hC dL_law_200 rfl 2 rfl ?_
  refine l_aload_n hC dL_law_201 rfl 3 rfl ?_
  refine l_iload_n hC dL_law_202 rfl 0 rfl ?_
  refine l_iconst (v := 1) hC dL_law_203 (by decide) ?_
  refine l_iadd hC dL_law_204 ?_
  refine l_sld hC (i + 1) (by rw [show (1 : Int32) = nI 1 from rfl, nI_add]) (by omega) dL_law_205 ?_
  refine l_aload_n hC dL_law_206 rfl 3 rfl ?_
  refine l_iload_n hC dL_law_207 rfl 0 rfl ?_
  refine l_iconst (v := 2) hC dL_law_208 (by decide) ?_
  refine l_iadd hC dL_law_209 ?_
  refine l_sld hC (i + 2) (by rw [show (2 : Int32) = nI 2 from rfl, nI_add]) (by omega) dL_law_210 ?_
  refine l_callX (As := [.int (xs (i + 1)), .int (xs (i + 2))]) hC rfl (e1 ▸ tX5_set (t1 := t1) (t2 := t2) hC.2.2.2.2.2.2.2.2.2.1 2147483648 (xs (i + 1)) (xs (i + 2)) μ) (cwV 2 hC.1.2.2.2.2 gL_law_X5_set rfl rfl rfl (by decide +kernel) ⟨Nat.le_of_ble_eq_true rfl, Nat.le_of_ble_eq_true rfl⟩) rfl (Nat.le_of_ble_eq_true rfl) hcs dL_law_211 ?_
  refine l_aload_n hC dL_law_214 rfl 1 rfl ?_
  refine l_aload_n hC dL_law_215 rfl 3 rfl ?_
  refine l_iload_n hC dL_law_216 rfl 0 rfl ?_
  refine l_iconst (v := 1) hC dL_law_217 (by decide) ?_
  refine l_iadd hC dL_law_218 ?_
  refine l_sld hC (i + 1) (by rw [show (1 : Int32) = nI 1 from rfl, nI_add]) (by omega) dL_law_219 ?_
  refine l_aload_n hC dL_law_220 rfl 3 rfl ?_
  refine l_iload_n hC dL_law_221 rfl 0 rfl ?_
  refine l_iconst (v := 2) hC dL_law_222 (by decide) ?_
  refine l_iadd hC dL_law_223 ?_
  refine l_sld hC (i + 2) (by rw [show (2 : Int32) = nI 2 from rfl, nI_add]) (by omega) dL_law_224 ?_
  refine l_callM (As := [.int (xs (i + 1)), .int (xs (i + 2))]) hC rfl (e2 ▸ tX6_set hC.2.2.2.2.2.2.2.2.2.2 2147483648 (xs (i + 1)) (xs (i + 2)) ν) (cwV 2 hC.1.2.2.2.2 gL_law_X6_set rfl rfl rfl (by decide +kernel) ⟨Nat.le_of_ble_eq_true rfl, Nat.le_of_ble_eq_true rfl⟩) rfl (Nat.le_of_ble_eq_true rfl) hcs dL_law_225 ?_
  exact l_icmp_eq (tgt := 862) hC dL_law_228 (by decide) (fun _ => kk μ1 ν1 hR1) (fun h => absurd rfl h)
set_option maxRecDepth 100000 in
theorem lw_c3 {p : Program} {l : Launch} {e : Env} {s : State} {m : MethodId} {b : Nat} {below : List Frame} {meth : Method} {c : Code} {L : Nat} {xs : Nat → Int32} {D : va_G} {adX adM : Nat → Nat} {dAX dAM : Nat → ClassId} {t1 t2 : Nat} {Q : State → Prop} {cells slots : Nat} {μ ν : hb_m} (hC : lC p s m b c L xs D adX adM dAX dAM t1 t2) {i : Nat} (hi : i + 5 ≤ L) (hcs : cells ≤ room_1.cells ∧ slots ≤ room_1.slots) (hR : RR μ ν) (kk : ∀ μ1 ν1, RR μ1 ν1 → lS p l e s m b below meth c D adX adM dAX dAM Q cells slots μ1 ν1 862 [(3, .int (nI i)), (2, .ref (adM 0)), (1, .ref (adX 228)), (0, .ref b)] []) : lS p l e s m b below meth c D adX adM dAX dAM Q cells slots μ ν 233 [(3, .int (nI i)), (2, .ref (adM 0)), (1, .ref (adX 228)), (0, .ref b)] [] := by
  have hL := hC.2.1.2.2
  obtain ⟨r, μ1, ν1, e1, e2, hR1⟩ := O_read (n := 2147483648) (p1 := (xs (i + 1))) (p2 := (xs (i + 2))) hR (Nat.le_refl _)
  refine l_aload_n hC dL_law_233 rfl 2 rfl ?_
  refine l_aload_n hC dL_law_234 rfl 3 rfl ?_
  refine l_iload_n hC dL_law_235 rfl 0 rfl ?_
  refine l_iconst (v := 1) hC dL_law_236 (by decide) ?_
  refine l_iadd hC dL_law_237 ?_
  refine l_sld hC (i + 1) (by rw [show (1 : Int32) = nI 1 from rfl, nI_add]) (by omega) dL_law_238 ?_
  refine l_aload_n hC dL_law_239 rfl 3 rfl ?_
  refine l_iload_n hC dL_law_240 rfl 0 rfl ?_
  refine l_iconst (v := 2) hC dL_law_241 (by decide) ?_
  refine l_iadd hC dL_law_242 ?_
  refine l_sld hC (i + 2) (by rw [show (2 : Int32) = nI 2 from rfl, nI_add]) (by omega) dL_law_243 ?_
  refine l_callX (As := [.int (xs (i + 1)), .int (xs (i + 2))]) hC rfl (e1 ▸ tX5_read (t1 := t1) (t2 := t2) hC.2.2.2.2.2.2.2.2.2.1 2147483648 (xs (i + 1)) (xs (i + 2)) μ) (cwV 2 hC.1.2.2.2.2 gL_law_X5_read rfl rfl rfl (by decide +kernel) ⟨Nat.le_of_ble_eq_true rfl, Nat.le_of_ble_eq_true rfl⟩) rfl (Nat.le_of_ble_eq_true rfl) hcs dL_law_244 ?_
  refine l_aload_n hC dL_law_247 rfl 1 rfl ?_
  refine l_aload_n hC dL_law_248 rfl 3 rfl ?_
  refine l_iload_n hC dL_law_249 rfl 0 rfl ?_
  refine l_iconst (v := 1) hC dL_law_250 (by decide) ?_
  refine l_iadd hC dL_law_251 ?_
  refine l_sld hC (i + 1) (by rw [show (1 : Int32) = nI 1 from rfl, nI_add]) (by omega) dL_law_252 ?_
  refine l_aload_n hC dL_law_253 rfl 3 rfl ?_
  refine l_iload_n hC dL_law_254 rfl 0 rfl ?_
  refine l_iconst (v := 2) hC dL_law_255 (by decide) ?_
  refine l_iadd hC dL_law_256 ?_
  refine l_sld hC (i + 2) (by rw [show (2 : Int32) = nI 2 from rfl, nI_add]) (by omega) dL_law_257 ?_
  refine l_callM (As := [.int (xs (i + 1)), .int (xs (i + 2))]) hC rfl (e2 ▸ tX6_read hC.2.2.2.2.2.2.2.2.2.2 2147483648 (xs (i + 1)) (xs (i + 2)) ν) (cwV 2 hC.1.2.2.2.2 gL_law_X6_read rfl rfl rfl (by decide +kernel) ⟨Nat.le_of_ble_eq_true rfl, Nat.le_of_ble_eq_true rfl⟩) rfl (Nat.le_of_ble_eq_true rfl) hcs dL_law_258 ?_
  exact l_icmp_eq (tgt := 862) hC dL_law_261 (by decide) (fun _ => kk μ1 ν1 hR1) (fun h => absurd rfl h)
set_option maxRecDepth 100000 in
theorem lw_c4 {p : Program} {l : Launch} {e : Env} {s : State} {m : MethodId} {b : Nat} {below : List Frame} {meth : Method} {c : Code} {L : Nat} {xs : Nat → Int32} {D : va_G} {adX adM : Nat → Nat} {dAX dAM : Nat → ClassId} {t1 t2 : Nat} {Q : State → Prop} {cells slots : Nat} {μ ν : hb_m} (hC : lC p s m b c L xs D adX adM dAX dAM t1 t2) {i : Nat} (hi : i + 5 ≤ L) (hcs : cells ≤ room_1.cells ∧ slots ≤ room_1.slots) (hR : RR μ ν) (kk : ∀ μ1 ν1, RR μ1 ν1 → lS p l e s m b below meth c D adX adM dAX dAM Q cells slots μ1 ν1 862 [(3, .int (nI i)), (2, .ref (adM 0)), (1, .ref (adX 228)), (0, .ref b)] []) : lS p l e s m b below meth c D adX adM dAX dAM Q cells slots μ ν 266 [(3, .int (nI i)), (2, .ref (adM 0)), (1, .ref (adX 228)), (0, .ref b)] [] := by
  have hL := hC.2.1.2.2
  by_cases z2 : xs (i + 2) = 0
  · obtain ⟨r, μ1, ν1, e1, e2, hR1⟩ := O_mark (n := 2147483648) (p1 := (xs (i + 1))) (p2 := (0 : Int32)) hR (Or.inl rfl) (Nat.le_refl _)
    refine l_aload_n hC dL_law_266 rfl 2 rfl ?_
    refine l_aload_n hC dL_law_267 rfl 3 rfl ?_
    refine l_iload_n hC dL_law_268 rfl 0 rfl ?_
    refine l_iconst (v := 1) hC dL_law_269 (by decide) ?_
    refine l_iadd hC dL_law_270 ?_
    refine l_sld hC (i + 1) (by rw [show (1 : Int32) = nI 1 from rfl, nI_add]) (by omega) dL_law_271 ?_
    refine l_aload_n hC dL_law_272 rfl 3 rfl ?_
    refine l_iload_n hC dL_law_273 rfl 0 rfl ?_
    refine l_iconst (v := 2) hC dL_law_274 (by decide) ?_
    refine l_iadd hC dL_law_275 ?_
    refine l_sld hC (i + 2) (by rw [show (2 : Int32) = nI 2 from rfl, nI_add]) (by omega) dL_law_276 ?_
    refine l_if_eq (tgt := 284) hC dL_law_277 (by decide) (fun _ => ?_) (fun h => absurd z2 h)
    refine l_iconst (v := 0) hC dL_law_284 (by decide) ?_
    refine l_callX (As := [.int (xs (i + 1)), .int (0 : Int32)]) hC rfl (e1 ▸ tX5_mark (t1 := t1) (t2 := t2) hC.2.2.2.2.2.2.2.2.2.1 2147483648 (xs (i + 1)) (0 : Int32) μ) (cwV 2 hC.1.2.2.2.2 gL_law_X5_mark rfl rfl rfl (by decide +kernel) ⟨Nat.le_of_ble_eq_true rfl, Nat.le_of_ble_eq_true rfl⟩) rfl (Nat.le_of_ble_eq_true rfl) hcs dL_law_285 ?_
    refine l_aload_n hC dL_law_288 rfl 1 rfl ?_
    refine l_aload_n hC dL_law_289 rfl 3 rfl ?_
    refine l_iload_n hC dL_law_290 rfl 0 rfl ?_
    refine l_iconst (v := 1) hC dL_law_291 (by decide) ?_
    refine l_iadd hC dL_law_292 ?_
    refine l_sld hC (i + 1) (by rw [show (1 : Int32) = nI 1 from rfl, nI_add]) (by omega) dL_law_293 ?_
    refine l_aload_n hC dL_law_294 rfl 3 rfl ?_
    refine l_iload_n hC dL_law_295 rfl 0 rfl ?_
    refine l_iconst (v := 2) hC dL_law_296 (by decide) ?_
    refine l_iadd hC dL_law_297 ?_
    refine l_sld hC (i + 2) (by rw [show (2 : Int32) = nI 2 from rfl, nI_add]) (by omega) dL_law_298 ?_
    refine l_if_eq (tgt := 306) hC dL_law_299 (by decide) (fun _ => ?_) (fun h => absurd z2 h)
    refine l_iconst (v := 0) hC dL_law_306 (by decide) ?_
    refine l_callM (As := [.int (xs (i + 1)), .int (0 : Int32)]) hC rfl (e2 ▸ tX6_mark hC.2.2.2.2.2.2.2.2.2.2 2147483648 (xs (i + 1)) (0 : Int32) ν) (cwV 2 hC.1.2.2.2.2 gL_law_X6_mark rfl rfl rfl (by decide +kernel) ⟨Nat.le_of_ble_eq_true rfl, Nat.le_of_ble_eq_true rfl⟩) rfl (Nat.le_of_ble_eq_true rfl) hcs dL_law_307 ?_
    exact l_icmp_eq (tgt := 862) hC dL_law_310 (by decide) (fun _ => kk μ1 ν1 hR1) (fun h => absurd rfl h)
  · obtain ⟨r, μ1, ν1, e1, e2, hR1⟩ := O_mark (n := 2147483648) (p1 := (xs (i + 1))) (p2 := (1 : Int32)) hR (Or.inr rfl) (Nat.le_refl _)
    refine l_aload_n hC dL_law_266 rfl 2 rfl ?_
    refine l_aload_n hC dL_law_267 rfl 3 rfl ?_
    refine l_iload_n hC dL_law_268 rfl 0 rfl ?_
    refine l_iconst (v := 1) hC dL_law_269 (by decide) ?_
    refine l_iadd hC dL_law_270 ?_
    refine l_sld hC (i + 1) (by rw [show (1 : Int32) = nI 1 from rfl, nI_add]) (by omega) dL_law_271 ?_
    refine l_aload_n hC dL_law_272 rfl 3 rfl ?_
    refine l_iload_n hC dL_law_273 rfl 0 rfl ?_
    refine l_iconst (v := 2) hC dL_law_274 (by decide) ?_
    refine l_iadd hC dL_law_275 ?_
    refine l_sld hC (i + 2) (by rw [show (2 : Int32) = nI 2 from rfl, nI_add]) (by omega) dL_law_276 ?_
    refine l_if_eq (tgt := 284) hC dL_law_277 (by decide) (fun h => absurd h z2) (fun _ => ?_)
    refine l_iconst (v := 1) hC dL_law_280 (by decide) ?_
    refine l_goto (tgt := 285) hC dL_law_281 (by decide) ?_
    refine l_callX (As := [.int (xs (i + 1)), .int (1 : Int32)]) hC rfl (e1 ▸ tX5_mark (t1 := t1) (t2 := t2) hC.2.2.2.2.2.2.2.2.2.1 2147483648 (xs (i + 1)) (1 : Int32) μ) (cwV 2 hC.1.2.2.2.2 gL_law_X5_mark rfl rfl rfl (by decide +kernel) ⟨Nat.le_of_ble_eq_true rfl, Nat.le_of_ble_eq_true rfl⟩) rfl (Nat.le_of_ble_eq_true rfl) hcs dL_law_285 ?_
    refine l_aload_n hC dL_law_288 rfl 1 rfl ?_
    refine l_aload_n hC dL_law_289 rfl 3 rfl ?_
    refine l_iload_n hC dL_law_290 rfl 0 rfl ?_
    refine l_iconst (v := 1) hC dL_law_291 (by decide) ?_
    refine l_iadd hC dL_law_292 ?_
    refine l_sld hC (i + 1) (by rw [show (1 : Int32) = nI 1 from rfl, nI_add]) (by omega) dL_law_293 ?_
    refine l_aload_n hC dL_law_294 rfl 3 rfl ?_
    refine l_iload_n hC dL_law_295 rfl 0 rfl ?_
    refine l_iconst (v := 2) hC dL_law_296 (by decide) ?_
    refine l_iadd hC dL_law_297 ?_
    refine l_sld hC (i + 2) (by rw [show (2 : Int32) = nI 2 from rfl, nI_add]) (by omega) dL_law_298 ?_
    refine l_if_eq (tgt := 306) hC dL_law_299 (by decide) (fun h => absurd h z2) (fun _ => ?_)
    refine l_iconst (v := 1) hC dL_law_302 (by decide) ?_
    refine l_goto (tgt := 307) hC dL_law_303 (by decide) ?_
    refine l_callM (As := [.int (xs (i + 1)), .int (1 : Int32)]) hC rfl (e2 ▸ tX6_mark hC.2.2.2.2.2.2.2.2.2.2 2147483648 (xs (i + 1)) (1 : Int32) ν) (cwV 2 hC.1.2.2.2.2 gL_law_X6_mark rfl rfl rfl (by decide +kernel) ⟨Nat.le_of_ble_eq_true rfl, Nat.le_of_ble_eq_true rfl⟩) rfl (Nat.le_of_ble_eq_true rfl) hcs dL_law_307 ?_
    exact l_icmp_eq (tgt := 862) hC dL_law_310 (by decide) (fun _ => kk μ1 ν1 hR1) (fun h => absurd rfl h)
set_option maxRecDepth 100000 in
theorem lw_c5 {p : Program} {l : Launch} {e : Env} {s : State} {m : MethodId} {b : Nat} {below : List Frame} {meth : Method} {c : Code} {L : Nat} {xs : Nat → Int32} {D : va_G} {adX adM : Nat → Nat} {dAX dAM : Nat → ClassId} {t1 t2 : Nat} {Q : State → Prop} {cells slots : Nat} {μ ν : hb_m} (hC : lC p s m b c L xs D adX adM dAX dAM t1 t2) {i : Nat} (hi : i + 5 ≤ L) (hcs : cells ≤ room_1.cells ∧ slots ≤ room_1.slots) (hR : RR μ ν) (kk : ∀ μ1 ν1, RR μ1 ν1 → lS p l e s m b below meth c D adX adM dAX dAM Q cells slots μ1 ν1 862 [(3, .int (nI i)), (2, .ref (adM 0)), (1, .ref (adX 228)), (0, .ref b)] []) : lS p l e s m b below meth c D adX adM dAX dAM Q cells slots μ ν 315 [(3, .int (nI i)), (2, .ref (adM 0)), (1, .ref (adX 228)), (0, .ref b)] [] := by
  have hL := hC.2.1.2.2
  obtain ⟨r, μ1, ν1, e1, e2, hR1⟩ := O_readAll (n := 2147483648) hR (Nat.le_refl _)
  refine l_aload_n hC dL_law_315 rfl 2 rfl ?_
  refine l_callX (As := []) hC rfl (e1 ▸ tX5_readAll (t1 := t1) (t2 := t2) hC.2.2.2.2.2.2.2.2.2.1 2147483648  μ) (cwV 0 hC.1.2.2.2.2 gL_law_X5_readAll rfl rfl rfl (by decide +kernel) ⟨Nat.le_of_ble_eq_true rfl, Nat.le_of_ble_eq_true rfl⟩) rfl (Nat.le_of_ble_eq_true rfl) hcs dL_law_316 ?_
  refine l_aload_n hC dL_law_319 rfl 1 rfl ?_
  refine l_callM (As := []) hC rfl (e2 ▸ tX6_readAll hC.2.2.2.2.2.2.2.2.2.2 2147483648  ν) (cwV 0 hC.1.2.2.2.2 gL_law_X6_readAll rfl rfl rfl (by decide +kernel) ⟨Nat.le_of_ble_eq_true rfl, Nat.le_of_ble_eq_true rfl⟩) rfl (Nat.le_of_ble_eq_true rfl) hcs dL_law_320 ?_
  exact l_icmp_eq (tgt := 862) hC dL_law_323 (by decide) (fun _ => kk μ1 ν1 hR1) (fun h => absurd rfl h)
set_option maxRecDepth 100000 in
theorem lw_c6 {p : Program} {l : Launch} {e : Env} {s : State} {m : MethodId} {b : Nat} {below : List Frame} {meth : Method} {c : Code} {L : Nat} {xs : Nat → Int32} {D : va_G} {adX adM : Nat → Nat} {dAX dAM : Nat → ClassId} {t1 t2 : Nat} {Q : State → Prop} {cells slots : Nat} {μ ν : hb_m} (hC : lC p s m b c L xs D adX adM dAX dAM t1 t2) {i : Nat} (hi : i + 5 ≤ L) (hcs : cells ≤ room_1.cells ∧ slots ≤ room_1.slots) (hR : RR μ ν) (kk : ∀ μ1 ν1, RR μ1 ν1 → lS p l e s m b below meth c D adX adM dAX dAM Q cells slots μ1 ν1 862 [(3, .int (nI i)), (2, .ref (adM 0)), (1, .ref (adX 228)), (0, .ref b)] []) : lS p l e s m b below meth c D adX adM dAX dAM Q cells slots μ ν 328 [(3, .int (nI i)), (2, .ref (adM 0)), (1, .ref (adX 228)), (0, .ref b)] [] := by
  have hL := hC.2.1.2.2
  obtain ⟨r, μ1, ν1, e1, e2, hR1⟩ := O_move (n := 2147483648) (p1 := (xs (i + 1))) (p2 := (xs (i + 2))) hR (Nat.le_refl _)
  refine l_aload_n hC dL_law_328 rfl 2 rfl ?_
  refine l_aload_n hC dL_law_329 rfl 3 rfl ?_
  refine l_iload_n hC dL_law_330 rfl 0 rfl ?_
  refine l_iconst (v := 1) hC dL_law_331 (by decide) ?_
  refine l_iadd hC dL_law_332 ?_
  refine l_sld hC (i + 1) (by rw [show (1 : Int32) = nI 1 from rfl, nI_add]) (by omega) dL_law_333 ?_
  refine l_aload_n hC dL_law_334 rfl 3 rfl ?_
  refine l_iload_n hC dL_law_335 rfl 0 rfl ?_
  refine l_iconst (v := 2) hC dL_law_336 (by decide) ?_
  refine l_iadd hC dL_law_337 ?_
  refine l_sld hC (i + 2) (by rw [show (2 : Int32) = nI 2 from rfl, nI_add]) (by omega) dL_law_338 ?_
  refine l_callX (As := [.int (xs (i + 1)), .int (xs (i + 2))]) hC rfl (e1 ▸ tX5_move (t1 := t1) (t2 := t2) hC.2.2.2.2.2.2.2.2.2.1 2147483648 (xs (i + 1)) (xs (i + 2)) μ) (cwV 2 hC.1.2.2.2.2 gL_law_X5_move rfl rfl rfl (by decide +kernel) ⟨Nat.le_of_ble_eq_true rfl, Nat.le_of_ble_eq_true rfl⟩) rfl (Nat.le_of_ble_eq_true rfl) hcs dL_law_339 ?_
  refine l_aload_n hC dL_law_342 rfl 1 rfl ?_
  refine l_aload_n hC dL_law_343 rfl 3 rfl ?_
  refine l_iload_n hC dL_law_344 rfl 0 rfl ?_
  refine l_iconst (v := 1) hC dL_law_345 (by decide) ?_
  refine l_iadd hC dL_law_346 ?_
  refine l_sld hC (i + 1) (by rw [show (1 : Int32) = nI 1 from rfl, nI_add]) (by omega) dL_law_347 ?_
  refine l_aload_n hC dL_law_348 rfl 3 rfl ?_
  refine l_iload_n hC dL_law_349 rfl 0 rfl ?_
  refine l_iconst (v := 2) hC dL_law_350 (by decide) ?_
  refine l_iadd hC dL_law_351 ?_
  refine l_sld hC (i + 2) (by rw [show (2 : Int32) = nI 2 from rfl, nI_add]) (by omega) dL_law_352 ?_
  refine l_callM (As := [.int (xs (i + 1)), .int (xs (i + 2))]) hC rfl (e2 ▸ tX6_move hC.2.2.2.2.2.2.2.2.2.2 2147483648 (xs (i + 1)) (xs (i + 2)) ν) (cwV 2 hC.1.2.2.2.2 gL_law_X6_move rfl rfl rfl (by decide +kernel) ⟨Nat.le_of_ble_eq_true rfl, Nat.le_of_ble_eq_true rfl⟩) rfl (Nat.le_of_ble_eq_true rfl) hcs dL_law_353 ?_
  exact l_icmp_eq (tgt := 862) hC dL_law_356 (by decide) (fun _ => kk μ1 ν1 hR1) (fun h => absurd rfl h)
set_option maxRecDepth 100000 in
theorem lw_c7 {p : Program} {l : Launch} {e : Env} {s : State} {m : MethodId} {b : Nat} {below : List Frame} {meth : Method} {c : Code} {L : Nat} {xs : Nat → Int32} {D : va_G} {adX adM : Nat → Nat} {dAX dAM : Nat → ClassId} {t1 t2 : Nat} {Q : State → Prop} {cells slots : Nat} {μ ν : hb_m} (hC : lC p s m b c L xs D adX adM dAX dAM t1 t2) {i : Nat} (hi : i + 5 ≤ L) (hcs : cells ≤ room_1.cells ∧ slots ≤ room_1.slots) (hR : RR μ ν) (kk : ∀ μ1 ν1, RR μ1 ν1 → lS p l e s m b below meth c D adX adM dAX dAM Q cells slots μ1 ν1 862 [(3, .int (nI i)), (2, .ref (adM 0)), (1, .ref (adX 228)), (0, .ref b)] []) : lS p l e s m b below meth c D adX adM dAX dAM Q cells slots μ ν 361 [(3, .int (nI i)), (2, .ref (adM 0)), (1, .ref (adX 228)), (0, .ref b)] [] := by
  have hL := hC.2.1.2.2
  obtain ⟨r, μ1, ν1, e1, e2, hR1⟩ := O_between (n := 2147483648) (p1 := (xs (i + 1))) (p2 := (xs (i + 2))) hR (Nat.le_refl _)
  refine l_aload_n hC dL_law_361 rfl 2 rfl ?_
  refine l_aload_n hC dL_law_362 rfl 3 rfl ?_
  refine l_iload_n hC dL_law_363 rfl 0 rfl ?_
  refine l_iconst (v := 1) hC dL_law_364 (by decide) ?_
  refine l_iadd hC dL_law_365 ?_
  refine l_sld hC (i + 1) (by rw [show (1 : Int32) = nI 1 from rfl, nI_add]) (by omega) dL_law_366 ?_
  refine l_aload_n hC dL_law_367 rfl 3 rfl ?_
  refine l_iload_n hC dL_law_368 rfl 0 rfl ?_
  refine l_iconst (v := 2) hC dL_law_369 (by decide) ?_
  refine l_iadd hC dL_law_370 ?_
  refine l_sld hC (i + 2) (by rw [show (2 : Int32) = nI 2 from rfl, nI_add]) (by omega) dL_law_371 ?_
  refine l_callX (As := [.int (xs (i + 1)), .int (xs (i + 2))]) hC rfl (e1 ▸ tX5_between (t1 := t1) (t2 := t2) hC.2.2.2.2.2.2.2.2.2.1 2147483648 (xs (i + 1)) (xs (i + 2)) μ) (cwV 2 hC.1.2.2.2.2 gL_law_X5_between rfl rfl rfl (by decide +kernel) ⟨Nat.le_of_ble_eq_true rfl, Nat.le_of_ble_eq_true rfl⟩) rfl (Nat.le_of_ble_eq_true rfl) hcs dL_law_372 ?_
  refine l_aload_n hC dL_law_375 rfl 1 rfl ?_
  refine l_aload_n hC dL_law_376 rfl 3 rfl ?_
  refine l_iload_n hC dL_law_377 rfl 0 rfl ?_
  refine l_iconst (v := 1) hC dL_law_378 (by decide) ?_
  refine l_iadd hC dL_law_379 ?_
  refine l_sld hC (i + 1) (by rw [show (1 : Int32) = nI 1 from rfl, nI_add]) (by omega) dL_law_380 ?_
  refine l_aload_n hC dL_law_381 rfl 3 rfl ?_
  refine l_iload_n hC dL_law_382 rfl 0 rfl ?_
  refine l_iconst (v := 2) hC dL_law_383 (by decide) ?_
  refine l_iadd hC dL_law_384 ?_
  refine l_sld hC (i + 2) (by rw [show (2 : Int32) = nI 2 from rfl, nI_add]) (by omega) dL_law_385 ?_
  refine l_callM (As := [.int (xs (i + 1)), .int (xs (i + 2))]) hC rfl (e2 ▸ tX6_between hC.2.2.2.2.2.2.2.2.2.2 2147483648 (xs (i + 1)) (xs (i + 2)) ν) (cwV 2 hC.1.2.2.2.2 gL_law_X6_between rfl rfl rfl (by decide +kernel) ⟨Nat.le_of_ble_eq_true rfl, Nat.le_of_ble_eq_true rfl⟩) rfl (Nat.le_of_ble_eq_true rfl) hcs dL_law_386 ?_
  exact l_icmp_eq (tgt := 862) hC dL_law_389 (by decide) (fun _ => kk μ1 ν1 hR1) (fun h => absurd rfl h)
set_option maxRecDepth 100000 in
theorem lw_c8 {p : Program} {l : Launch} {e : Env} {s : State} {m : MethodId} {b : Nat} {below : List Frame} {meth : Method} {c : Code} {L : Nat} {xs : Nat → Int32} {D : va_G} {adX adM : Nat → Nat} {dAX dAM : Nat → ClassId} {t1 t2 : Nat} {Q : State → Prop} {cells slots : Nat} {μ ν : hb_m} (hC : lC p s m b c L xs D adX adM dAX dAM t1 t2) {i : Nat} (hi : i + 5 ≤ L) (hcs : cells ≤ room_1.cells ∧ slots ≤ room_1.slots) (hR : RR μ ν) (kk : ∀ μ1 ν1, RR μ1 ν1 → lS p l e s m b below meth c D adX adM dAX dAM Q cells slots μ1 ν1 862 [(3, .int (nI i)), (2, .ref (adM 0)), (1, .ref (adX 228)), (0, .ref b)] []) : lS p l e s m b below meth c D adX adM dAX dAM Q cells slots μ ν 394 [(3, .int (nI i)), (2, .ref (adM 0)), (1, .ref (adX 228)), (0, .ref b)] [] := by
  have hL := hC.2.1.2.2
  obtain ⟨r, μ1, ν1, e1, e2, hR1⟩ := O_close (n := 2147483648) hR (Nat.le_refl _)
  refine l_aload_n hC dL_law_394 rfl 2 rfl ?_
  refine l_callX (As := []) hC rfl (e1 ▸ tX5_close (t1 := t1) (t2 := t2) hC.2.2.2.2.2.2.2.2.2.1 2147483648  μ) (cwV 0 hC.1.2.2.2.2 gL_law_X5_close rfl rfl rfl (by decide +kernel) ⟨Nat.le_of_ble_eq_true rfl, Nat.le_of_ble_eq_true rfl⟩) rfl (Nat.le_of_ble_eq_true rfl) hcs dL_law_395 ?_
  refine l_aload_n hC dL_law_398 rfl 1 rfl ?_
  refine l_callM (As := []) hC rfl (e2 ▸ tX6_close hC.2.2.2.2.2.2.2.2.2.2 2147483648  ν) (cwV 0 hC.1.2.2.2.2 gL_law_X6_close rfl rfl rfl (by decide +kernel) ⟨Nat.le_of_ble_eq_true rfl, Nat.le_of_ble_eq_true rfl⟩) rfl (Nat.le_of_ble_eq_true rfl) hcs dL_law_399 ?_
  exact l_icmp_eq (tgt := 862) hC dL_law_402 (by decide) (fun _ => kk μ1 ν1 hR1) (fun h => absurd rfl h)
set_option maxRecDepth 100000 in
theorem lw_c9 {p : Program} {l : Launch} {e : Env} {s : State} {m : MethodId} {b : Nat} {below : List Frame} {meth : Method} {c : Code} {L : Nat} {xs : Nat → Int32} {D : va_G} {adX adM : Nat → Nat} {dAX dAM : Nat → ClassId} {t1 t2 : Nat} {Q : State → Prop} {cells slots : Nat} {μ ν : hb_m} (hC : lC p s m b c L xs D adX adM dAX dAM t1 t2) {i : Nat} (hi : i + 5 ≤ L) (hcs : cells ≤ room_1.cells ∧ slots ≤ room_1.slots) (hR : RR μ ν) (kk : ∀ μ1 ν1, RR μ1 ν1 → lS p l e s m b below meth c D adX adM dAX dAM Q cells slots μ1 ν1 862 [(3, .int (nI i)), (2, .ref (adM 0)), (1, .ref (adX 228)), (0, .ref b)] []) : lS p l e s m b below meth c D adX adM dAX dAM Q cells slots μ ν 407 [(3, .int (nI i)), (2, .ref (adM 0)), (1, .ref (adX 228)), (0, .ref b)] [] := by
  have hL := hC.2.1.2.2
  obtain ⟨r, μ1, ν1, e1, e2, hR1⟩ := O_correct (n := 2147483648) (p1 := (xs (i + 1))) (p2 := (xs (i + 2))) (p3 := (xs (i + 3))) hR (Nat.le_refl _)
  refine l_aload_n hC dL_law_407 rfl 2 rfl ?_
  refine l_aload_n hC dL_law_408 rfl 3 rfl ?_
  refine l_iload_n hC dL_law_409 rfl 0 rfl ?_
  refine l_iconst (v := 1) hC dL_law_410 (by decide) ?_
  refine l_iadd hC dL_law_411 ?_
  refine l_sld hC (i + 1) (by rw [show (1 : Int32) = nI 1 from rfl, nI_add]) (by omega) dL_law_412 ?_
  refine l_aload_n hC dL_law_413 rfl 3 rfl ?_
  refine l_iload_n hC dL_law_414 rfl 0 rfl ?_
  refine l_iconst (v := 2) hC dL_law_415 (by decide) ?_
  refine l_iadd hC dL_law_416 ?_
  refine l_sld hC (i + 2) (by rw [show (2 : Int32) = nI 2 from rfl, nI_add]) (by omega) dL_law_417 ?_
  refine l_aload_n hC dL_law_418 rfl 3 rfl ?_
  refine l_iload_n hC dL_law_419 rfl 0 rfl ?_
  refine l_iconst (v := 3) hC dL_law_420 (by decide) ?_
  refine l_iadd hC dL_law_421 ?_
  refine l_sld hC (i + 3) (by rw [show (3 : Int32) = nI 3 from rfl, nI_add]) (by omega) dL_law_422 ?_
  refine l_callX (As := [.int (xs (i + 1)), .int (xs (i + 2)), .int (xs (i + 3))]) hC rfl (e1 ▸ tX5_correct (t1 := t1) (t2 := t2) hC.2.2.2.2.2.2.2.2.2.1 2147483648 (xs (i + 1)) (xs (i + 2)) (xs (i + 3)) μ) (cwV 3 hC.1.2.2.2.2 gL_law_X5_correct rfl rfl rfl (by decide +kernel) ⟨Nat.le_of_ble_eq_true rfl, Nat.le_of_ble_eq_true rfl⟩) rfl (Nat.le_of_ble_eq_true rfl) hcs dL_law_423 ?_
  refine l_aload_n hC dL_law_426 rfl 1 rfl ?_
  refine l_aload_n hC dL_law_427 rfl 3 rfl ?_
  refine l_iload_n hC dL_law_428 rfl 0 rfl ?_
  refine l_iconst (v := 1) hC dL_law_429 (by decide) ?_
  refine l_iadd hC dL_law_430 ?_
  refine l_sld hC (i + 1) (by rw [show (1 : Int32) = nI 1 from rfl, nI_add]) (by omega) dL_law_431 ?_
  refine l_aload_n hC dL_law_432 rfl 3 rfl ?_
  refine l_iload_n hC dL_law_433 rfl 0 rfl ?_
  refine l_iconst (v := 2) hC dL_law_434 (by decide) ?_
  refine l_iadd hC dL_law_435 ?_
  refine l_sld hC (i + 2) (by rw [show (2 : Int32) = nI 2 from rfl, nI_add]) (by omega) dL_law_436 ?_
  refine l_aload_n hC dL_law_437 rfl 3 rfl ?_
  refine l_iload_n hC dL_law_438 rfl 0 rfl ?_
  refine l_iconst (v := 3) hC dL_law_439 (by decide) ?_
  refine l_iadd hC dL_law_440 ?_
  refine l_sld hC (i + 3) (by rw [show (3 : Int32) = nI 3 from rfl, nI_add]) (by omega) dL_law_441 ?_
  refine l_callM (As := [.int (xs (i + 1)), .int (xs (i + 2)), .int (xs (i + 3))]) hC rfl (e2 ▸ tX6_correct hC.2.2.2.2.2.2.2.2.2.2 2147483648 (xs (i + 1)) (xs (i + 2)) (xs (i + 3)) ν) (cwV 3 hC.1.2.2.2.2 gL_law_X6_correct rfl rfl rfl (by decide +kernel) ⟨Nat.le_of_ble_eq_true rfl, Nat.le_of_ble_eq_true rfl⟩) rfl (Nat.le_of_ble_eq_true rfl) hcs dL_law_442 ?_
  exact l_icmp_eq (tgt := 862) hC dL_law_445 (by decide) (fun _ => kk μ1 ν1 hR1) (fun h => absurd rfl h)
set_option maxRecDepth 100000 in
theorem lw_c10 {p : Program} {l : Launch} {e : Env} {s : State} {m : MethodId} {b : Nat} {below : List Frame} {meth : Method} {c : Code} {L : Nat} {xs : Nat → Int32} {D : va_G} {adX adM : Nat → Nat} {dAX dAM : Nat → ClassId} {t1 t2 : Nat} {Q : State → Prop} {cells slots : Nat} {μ ν : hb_m} (hC : lC p s m b c L xs D adX adM dAX dAM t1 t2) {i : Nat} (hi : i + 5 ≤ L) (hcs : cells ≤ room_1.cells ∧ slots ≤ room_1.slots) (hR : RR μ ν) (kk : ∀ μ1 ν1, RR μ1 ν1 → lS p l e s m b below meth c D adX adM dAX dAM Q cells slots μ1 ν1 862 [(3, .int (nI i)), (2, .ref (adM 0)), (1, .ref (adX 228)), (0, .ref b)] []) : lS p l e s m b below meth c D adX adM dAX dAM Q cells slots μ ν 450 [(3, .int (nI i)), (2, .ref (adM 0)), (1, .ref (adX 228)), (0, .ref b)] [] := by
  have hL := hC.2.1.2.2
  obtain ⟨r, μ1, ν1, e1, e2, hR1⟩ := O_type (n := 2147483648) (p := (((xs (i + 1)).toUInt32 % 65536).toInt32)) hR
  refine l_aload_n hC dL_law_450 rfl 2 rfl ?_
  refine l_aload_n hC dL_law_451 rfl 3 rfl ?_
  refine l_iload_n hC dL_law_452 rfl 0 rfl ?_
  refine l_iconst (v := 1) hC dL_law_453 (by decide) ?_
  refine l_iadd hC dL_law_454 ?_
  refine l_sld hC (i + 1) (by rw [show (1 : Int32) = nI 1 from rfl, nI_add]) (by omega) dL_law_455 ?_
  refine l_i2c hC dL_law_456 ?_
  refine l_callX (As := [.int (((xs (i + 1)).toUInt32 % 65536).toInt32)]) hC rfl (e1 ▸ tX5_type (t1 := t1) (t2 := t2) hC.2.2.2.2.2.2.2.2.2.1 2147483648 (((xs (i + 1)).toUInt32 % 65536).toInt32) μ) (cwV 1 hC.1.2.2.2.2 gL_law_X5_type rfl rfl rfl (by decide +kernel) ⟨Nat.le_of_ble_eq_true rfl, Nat.le_of_ble_eq_true rfl⟩) rfl (Nat.le_of_ble_eq_true rfl) hcs dL_law_457 ?_
  refine l_aload_n hC dL_law_460 rfl 1 rfl ?_
  refine l_aload_n hC dL_law_461 rfl 3 rfl ?_
  refine l_iload_n hC dL_law_462 rfl 0 rfl ?_
  refine l_iconst (v := 1) hC dL_law_463 (by decide) ?_
  refine l_iadd hC dL_law_464 ?_
  refine l_sld hC (i + 1) (by rw [show (1 : Int32) = nI 1 from rfl, nI_add]) (by omega) dL_law_465 ?_
  refine l_i2c hC dL_law_466 ?_
  refine l_callM (As := [.int (((xs (i + 1)).toUInt32 % 65536).toInt32)]) hC rfl (e2 ▸ tX6_type hC.2.2.2.2.2.2.2.2.2.2 2147483648 (((xs (i + 1)).toUInt32 % 65536).toInt32) ν) (cwV 1 hC.1.2.2.2.2 gL_law_X6_type rfl rfl rfl (by decide +kernel) ⟨Nat.le_of_ble_eq_true rfl, Nat.le_of_ble_eq_true rfl⟩) rfl (Nat.le_of_ble_eq_true rfl) hcs dL_law_467 ?_
  exact l_icmp_eq (tgt := 862) hC dL_law_470 (by decide) (fun _ => kk μ1 ν1 hR1) (fun h => absurd rfl h)
set_option maxRecDepth 100000 in
theorem lw_c11 {p : Program} {l : Launch} {e : Env} {s : State} {m : MethodId} {b : Nat} {below : List Frame} {meth : Method} {c : Code} {L : Nat} {xs : Nat → Int32} {D : va_G} {adX adM : Nat → Nat} {dAX dAM : Nat → ClassId} {t1 t2 : Nat} {Q : State → Prop} {cells slots : Nat} {μ ν : hb_m} (hC : lC p s m b c L xs D adX adM dAX dAM t1 t2) {i : Nat} (hi : i + 5 ≤ L) (hcs : cells ≤ room_1.cells ∧ slots ≤ room_1.slots) (hR : RR μ ν) (kk : ∀ μ1 ν1, RR μ1 ν1 → lS p l e s m b below meth c D adX adM dAX dAM Q cells slots μ1 ν1 862 [(3, .int (nI i)), (2, .ref (adM 0)), (1, .ref (adX 228)), (0, .ref b)] []) : lS p l e s m b below meth c D adX adM dAX dAM Q cells slots μ ν 475 [(3, .int (nI i)), (2, .ref (adM 0)), (1, .ref (adX 228)), (0, .ref b)] [] := by
  have hL := hC.2.1.2.2
  obtain ⟨r, μ1, ν1, e1, e2, hR1⟩ := O_clear (n := 2147483648) hR
  refine l_aload_n hC dL_law_475 rfl 2 rfl ?_
  refine l_callX (As := []) hC rfl (e1 ▸ tX5_clearText (t1 := t1) (t2 := t2) hC.2.2.2.2.2.2.2.2.2.1 2147483648  μ) (cwV 0 hC.1.2.2.2.2 gL_law_X5_clearText rfl rfl rfl (by decide +kernel) ⟨Nat.le_of_ble_eq_true rfl, Nat.le_of_ble_eq_true rfl⟩) rfl (Nat.le_of_ble_eq_true rfl) hcs dL_law_476 ?_
  refine l_aload_n hC dL_law_479 rfl 1 rfl ?_
  refine l_callM (As := []) hC rfl (e2 ▸ tX6_clearText hC.2.2.2.2.2.2.2.2.2.2 2147483648  ν) (cwV 0 hC.1.2.2.2.2 gL_law_X6_clearText rfl rfl rfl (by decide +kernel) ⟨Nat.le_of_ble_eq_true rfl, Nat.le_of_ble_eq_true rfl⟩) rfl (Nat.le_of_ble_eq_true rfl) hcs dL_law_480 ?_
  exact l_icmp_eq (tgt := 862) hC dL_law_483 (by decide) (fun _ => kk μ1 ν1 hR1) (fun h => absurd rfl h)
set_option maxRecDepth 100000 in
theorem lw_c12 {p : Program} {l : Launch} {e : Env} {s : State} {m : MethodId} {b : Nat} {below : List Frame} {meth : Method} {c : Code} {L : Nat} {xs : Nat → Int32} {D : va_G} {adX adM : Nat → Nat} {dAX dAM : Nat → ClassId} {t1 t2 : Nat} {Q : State → Prop} {cells slots : Nat} {μ ν : hb_m} (hC : lC p s m b c L xs D adX adM dAX dAM t1 t2) {i : Nat} (hi : i + 5 ≤ L) (hcs : cells ≤ room_1.cells ∧ slots ≤ room_1.slots) (hR : RR μ ν) (kk : ∀ μ1 ν1, RR μ1 ν1 → lS p l e s m b below meth c D adX adM dAX dAM Q cells slots μ1 ν1 862 [(3, .int (nI i)), (2, .ref (adM 0)), (1, .ref (adX 228)), (0, .ref b)] []) : lS p l e s m b below meth c D adX adM dAX dAM Q cells slots μ ν 488 [(3, .int (nI i)), (2, .ref (adM 0)), (1, .ref (adX 228)), (0, .ref b)] [] := by
  have hL := hC.2.1.2.2
  obtain ⟨r, μ1, ν1, e1, e2, hR1⟩ := O_undo (n := 2147483648) hR (Nat.le_refl _)
  refine l_aload_n hC dL_law_488 rfl 2 rfl ?_
  refine l_callX (As := []) hC rfl (e1 ▸ tX5_undo (t1 := t1) (t2 := t2) hC.2.2.2.2.2.2.2.2.2.1 2147483648  μ) (cwV 0 hC.1.2.2.2.2 gL_law_X5_undo rfl rfl rfl (by decide +kernel) ⟨Nat.le_of_ble_eq_true rfl, Nat.le_of_ble_eq_true rfl⟩) rfl (Nat.le_of_ble_eq_true rfl) hcs dL_law_489 ?_
  refine l_aload_n hC dL_law_492 rfl 1 rfl ?_
  refine l_callM (As := []) hC rfl (e2 ▸ tX6_undo hC.2.2.2.2.2.2.2.2.2.2 2147483648  ν) (cwV 0 hC.1.2.2.2.2 gL_law_X6_undo rfl rfl rfl (by decide +kernel) ⟨Nat.le_of_ble_eq_true rfl, Nat.le_of_ble_eq_true rfl⟩) rfl (Nat.le_of_ble_eq_true rfl) hcs dL_law_493 ?_
  exact l_icmp_eq (tgt := 862) hC dL_law_496 (by decide) (fun _ => kk μ1 ν1 hR1) (fun h => absurd rfl h)
set_option maxRecDepth 100000 in
theorem lw_c13 {p : Program} {l : Launch} {e : Env} {s : State} {m : MethodId} {b : Nat} {below : List Frame} {meth : Method} {c : Code} {L : Nat} {xs : Nat → Int32} {D : va_G} {adX adM : Nat → Nat} {dAX dAM : Nat → ClassId} {t1 t2 : Nat} {Q : State → Prop} {cells slots : Nat} {μ ν : hb_m} (hC : lC p s m b c L xs D adX adM dAX dAM t1 t2) {i : Nat} (hi : i + 5 ≤ L) (hcs : cells ≤ room_1.cells ∧ slots ≤ room_1.slots) (hR : RR μ ν) (kk : ∀ μ1 ν1, RR μ1 ν1 → lS p l e s m b below meth c D adX adM dAX dAM Q cells slots μ1 ν1 862 [(3, .int (nI i)), (2, .ref (adM 0)), (1, .ref (adX 228)), (0, .ref b)] []) : lS p l e s m b below meth c D adX adM dAX dAM Q cells slots μ ν 501 [(3, .int (nI i)), (2, .ref (adM 0)), (1, .ref (adX 228)), (0, .ref b)] [] := by
  have hL := hC.2.1.2.2
  obtain ⟨r, μ1, ν1, e1, e2, hR1⟩ := O_keep (n := 2147483648) hR (Nat.le_refl _)
  refine l_aload_n hC dL_law_501 rfl 2 rfl ?_
  refine l_callX (As := []) hC rfl (e1 ▸ tX5_keep (t1 := t1) (t2 := t2) hC.2.2.2.2.2.2.2.2.2.1 2147483648  μ) (cwV 0 hC.1.2.2.2.2 gL_law_X5_keep rfl rfl rfl (by decide +kernel) ⟨Nat.le_of_ble_eq_true rfl, Nat.le_of_ble_eq_true rfl⟩) rfl (Nat.le_of_ble_eq_true rfl) hcs dL_law_502 ?_
  refine l_aload_n hC dL_law_505 rfl 1 rfl ?_
  refine l_callM (As := []) hC rfl (e2 ▸ tX6_keep hC.2.2.2.2.2.2.2.2.2.2 2147483648  ν) (cwV 0 hC.1.2.2.2.2 gL_law_X6_keep rfl rfl rfl (by decide +kernel) ⟨Nat.le_of_ble_eq_true rfl, Nat.le_of_ble_eq_true rfl⟩) rfl (Nat.le_of_ble_eq_true rfl) hcs dL_law_506 ?_
  exact l_icmp_eq (tgt := 862) hC dL_law_509 (by decide) (fun _ => kk μ1 ν1 hR1) (fun h => absurd rfl h)
set_option maxRecDepth 100000 in
theorem lw_c14 {p : Program} {l : Launch} {e : Env} {s : State} {m : MethodId} {b : Nat} {below : List Frame} {meth : Method} {c : Code} {L : Nat} {xs : Nat → Int32} {D : va_G} {adX adM : Nat → Nat} {dAX dAM : Nat → ClassId} {t1 t2 : Nat} {Q : State → Prop} {cells slots : Nat} {μ ν : hb_m} (hC : lC p s m b c L xs D adX adM dAX dAM t1 t2) {i : Nat} (hi : i + 5 ≤ L) (hcs : cells ≤ room_1.cells ∧ slots ≤ room_1.slots) (hR : RR μ ν) (kk : ∀ μ1 ν1, RR μ1 ν1 → lS p l e s m b below meth c D adX adM dAX dAM Q cells slots μ1 ν1 862 [(3, .int (nI i)), (2, .ref (adM 0)), (1, .ref (adX 228)), (0, .ref b)] []) : lS p l e s m b below meth c D adX adM dAX dAM Q cells slots μ ν 514 [(3, .int (nI i)), (2, .ref (adM 0)), (1, .ref (adX 228)), (0, .ref b)] [] := by
  have hL := hC.2.1.2.2
  obtain ⟨r, μ1, ν1, e1, e2, hR1⟩ := O_restore (n := 2147483648) hR (Nat.le_refl _)
  refine l_aload_n hC dL_law_514 rfl 2 rfl ?_
  refine l_callX (As := []) hC rfl (e1 ▸ tX5_restore (t1 := t1) (t2 := t2) hC.2.2.2.2.2.2.2.2.2.1 2147483648  μ) (cwV 0 hC.1.2.2.2.2 gL_law_X5_restore rfl rfl rfl (by decide +kernel) ⟨Nat.le_of_ble_eq_true rfl, Nat.le_of_ble_eq_true rfl⟩) rfl (Nat.le_of_ble_eq_true rfl) hcs dL_law_515 ?_
  refine l_aload_n hC dL_law_518 rfl 1 rfl ?_
  refine l_callM (As := []) hC rfl (e2 ▸ tX6_restore hC.2.2.2.2.2.2.2.2.2.2 2147483648  ν) (cwV 0 hC.1.2.2.2.2 gL_law_X6_restore rfl rfl rfl (by decide +kernel) ⟨Nat.le_of_ble_eq_true rfl, Nat.le_of_ble_eq_true rfl⟩) rfl (Nat.le_of_ble_eq_true rfl) hcs dL_law_519 ?_
  exact l_icmp_eq (tgt := 862) hC dL_law_522 (by decide) (fun _ => kk μ1 ν1 hR1) (fun h => absurd rfl h)
set_option maxRecDepth 100000 in
theorem lw_c15 {p : Program} {l : Launch} {e : Env} {s : State} {m : MethodId} {b : Nat} {below : List Frame} {meth : Method} {c : Code} {L : Nat} {xs : Nat → Int32} {D : va_G} {adX adM : Nat → Nat} {dAX dAM : Nat → ClassId} {t1 t2 : Nat} {Q : State → Prop} {cells slots : Nat} {μ ν : hb_m} (hC : lC p s m b c L xs D adX adM dAX dAM t1 t2) {i : Nat} (hi : i + 5 ≤ L) (hcs : cells ≤ room_1.cells ∧ slots ≤ room_1.slots) (hR : RR μ ν) (kk : ∀ μ1 ν1, RR μ1 ν1 → lS p l e s m b below meth c D adX adM dAX dAM Q cells slots μ1 ν1 862 [(3, .int (nI i)), (2, .ref (adM 0)), (1, .ref (adX 228)), (0, .ref b)] []) : lS p l e s m b below meth c D adX adM dAX dAM Q cells slots μ ν 527 [(3, .int (nI i)), (2, .ref (adM 0)), (1, .ref (adX 228)), (0, .ref b)] [] := by
  have hL := hC.2.1.2.2
  obtain ⟨r, μ1, ν1, e1, e2, hR1⟩ := O_flat (n := 2147483648) (p1 := (xs (i + 1))) (p2 := (xs (i + 2))) hR (Nat.le_refl _)
  refine l_aload_n hC dL_law_527 rfl 2 rfl ?_
  refine l_aload_n hC dL_law_528 rfl 3 rfl ?_
  refine l_iload_n hC dL_law_529 rfl 0 rfl ?_
  refine l_iconst (v := 1) hC dL_law_530 (by decide) ?_
  refine l_iadd hC dL_law_531 ?_
  refine l_sld hC (i + 1) (by rw [show (1 : Int32) = nI 1 from rfl, nI_add]) (by omega) dL_law_532 ?_
  refine l_aload_n hC dL_law_533 rfl 3 rfl ?_
  refine l_iload_n hC dL_law_534 rfl 0 rfl ?_
  refine l_iconst (v := 2) hC dL_law_535 (by decide) ?_
  refine l_iadd hC dL_law_536 ?_
  refine l_sld hC (i + 2) (by rw [show (2 : Int32) = nI 2 from rfl, nI_add]) (by omega) dL_law_537 ?_
  refine l_callX (As := [.int (xs (i + 1)), .int (xs (i + 2))]) hC rfl (e1 ▸ tX5_flat (t1 := t1) (t2 := t2) hC.2.2.2.2.2.2.2.2.2.1 2147483648 (xs (i + 1)) (xs (i + 2)) μ) (cwV 2 hC.1.2.2.2.2 gL_law_X5_flat rfl rfl rfl (by decide +kernel) ⟨Nat.le_of_ble_eq_true rfl, Nat.le_of_ble_eq_true rfl⟩) rfl (Nat.le_of_ble_eq_true rfl) hcs dL_law_538 ?_
  refine l_aload_n hC dL_law_541 rfl 1 rfl ?_
  refine l_aload_n hC dL_law_542 rfl 3 rfl ?_
  refine l_iload_n hC dL_law_543 rfl 0 rfl ?_
  refine l_iconst (v := 1) hC dL_law_544 (by decide) ?_
  refine l_iadd hC dL_law_545 ?_
  refine l_sld hC (i + 1) (by rw [show (1 : Int32) = nI 1 from rfl, nI_add]) (by omega) dL_law_546 ?_
  refine l_aload_n hC dL_law_547 rfl 3 rfl ?_
  refine l_iload_n hC dL_law_548 rfl 0 rfl ?_
  refine l_iconst (v := 2) hC dL_law_549 (by decide) ?_
  refine l_iadd hC dL_law_550 ?_
  refine l_sld hC (i + 2) (by rw [show (2 : Int32) = nI 2 from rfl, nI_add]) (by omega) dL_law_551 ?_
  refine l_callM (As := [.int (xs (i + 1)), .int (xs (i + 2))]) hC rfl (e2 ▸ tX6_flat hC.2.2.2.2.2.2.2.2.2.2 2147483648 (xs (i + 1)) (xs (i + 2)) ν) (cwV 2 hC.1.2.2.2.2 gL_law_X6_flat rfl rfl rfl (by decide +kernel) ⟨Nat.le_of_ble_eq_true rfl, Nat.le_of_ble_eq_true rfl⟩) rfl (Nat.le_of_ble_eq_true rfl) hcs dL_law_552 ?_
  exact l_icmp_eq (tgt := 862) hC dL_law_555 (by decide) (fun _ => kk μ1 ν1 hR1) (fun h => absurd rfl h)
set_option maxRecDepth 100000 in
theorem lw_c16 {p : Program} {l : Launch} {e : Env} {s : State} {m : MethodId} {b : Nat} {below : List Frame} {meth : Method} {c : Code} {L : Nat} {xs : Nat → Int32} {D : va_G} {adX adM : Nat → Nat} {dAX dAM : Nat → ClassId} {t1 t2 : Nat} {Q : State → Prop} {cells slots : Nat} {μ ν : hb_m} (hC : lC p s m b c L xs D adX adM dAX dAM t1 t2) {i : Nat} (hi : i + 5 ≤ L) (hcs : cells ≤ room_1.cells ∧ slots ≤ room_1.slots) (hR : RR μ ν) (kk : ∀ μ1 ν1, RR μ1 ν1 → lS p l e s m b below meth c D adX adM dAX dAM Q cells slots μ1 ν1 862 [(3, .int (nI i)), (2, .ref (adM 0)), (1, .ref (adX 228)), (0, .ref b)] []) : lS p l e s m b below meth c D adX adM dAX dAM Q cells slots μ ν 560 [(3, .int (nI i)), (2, .ref (adM 0)), (1, .ref (adX 228)), (0, .ref b)] [] := by
  have hL := hC.2.1.2.2
  obtain ⟨r, μ1, ν1, e1, e2, hR1⟩ := O_device (n := 2147483648) (p1 := (xs (i + 1))) (p2 := (xs (i + 2))) hR (Nat.le_refl _)
  refine l_aload_n hC dL_law_560 rfl 2 rfl ?_
  refine l_aload_n hC dL_law_561 rfl 3 rfl ?_
  refine l_iload_n hC dL_law_562 rfl 0 rfl ?_
  refine l_iconst (v := 1) hC dL_law_563 (by decide) ?_
  refine l_iadd hC dL_law_564 ?_
  refine l_sld hC (i + 1) (by rw [show (1 : Int32) = nI 1 from rfl, nI_add]) (by omega) dL_law_565 ?_
  refine l_aload_n hC dL_law_566 rfl 3 rfl ?_
  refine l_iload_n hC dL_law_567 rfl 0 rfl ?_
  refine l_iconst (v := 2) hC dL_law_568 (by decide) ?_
  refine l_iadd hC dL_law_569 ?_
  refine l_sld hC (i + 2) (by rw [show (2 : Int32) = nI 2 from rfl, nI_add]) (by omega) dL_law_570 ?_
  refine l_callX (As := [.int (xs (i + 1)), .int (xs (i + 2))]) hC rfl (e1 ▸ tX5_device (t1 := t1) (t2 := t2) hC.2.2.2.2.2.2.2.2.2.1 2147483648 (xs (i + 1)) (xs (i + 2)) μ) (cwV 2 hC.1.2.2.2.2 gL_law_X5_device rfl rfl rfl (by decide +kernel) ⟨Nat.le_of_ble_eq_true rfl, Nat.le_of_ble_eq_true rfl⟩) rfl (Nat.le_of_ble_eq_true rfl) hcs dL_law_571 ?_
  refine l_aload_n hC dL_law_574 rfl 1 rfl ?_
  refine l_aload_n hC dL_law_575 rfl 3 rfl ?_
  refine l_iload_n hC dL_law_576 rfl 0 rfl ?_
  refine l_iconst (v := 1) hC dL_law_577 (by decide) ?_
  refine l_iadd hC dL_law_578 ?_
  refine l_sld hC (i + 1) (by rw [show (1 : Int32) = nI 1 from rfl, nI_add]) (by omega) dL_law_579 ?_
  refine l_aload_n hC dL_law_580 rfl 3 rfl ?_
  refine l_iload_n hC dL_law_581 rfl 0 rfl ?_
  refine l_iconst (v := 2) hC dL_law_582 (by decide) ?_
  refine l_iadd hC dL_law_583 ?_
  refine l_sld hC (i + 2) (by rw [show (2 : Int32) = nI 2 from rfl, nI_add]) (by omega) dL_law_584 ?_
  refine l_callM (As := [.int (xs (i + 1)), .int (xs (i + 2))]) hC rfl (e2 ▸ tX6_device hC.2.2.2.2.2.2.2.2.2.2 2147483648 (xs (i + 1)) (xs (i + 2)) ν) (cwV 2 hC.1.2.2.2.2 gL_law_X6_device rfl rfl rfl (by decide +kernel) ⟨Nat.le_of_ble_eq_true rfl, Nat.le_of_ble_eq_true rfl⟩) rfl (Nat.le_of_ble_eq_true rfl) hcs dL_law_585 ?_
  exact l_icmp_eq (tgt := 862) hC dL_law_588 (by decide) (fun _ => kk μ1 ν1 hR1) (fun h => absurd rfl h)
set_option maxRecDepth 100000 in
theorem lw_c17 {p : Program} {l : Launch} {e : Env} {s : State} {m : MethodId} {b : Nat} {below : List Frame} {meth : Method} {c : Code} {L : Nat} {xs : Nat → Int32} {D : va_G} {adX adM : Nat → Nat} {dAX dAM : Nat → ClassId} {t1 t2 : Nat} {Q : State → Prop} {cells slots : Nat} {μ ν : hb_m} (hC : lC p s m b c L xs D adX adM dAX dAM t1 t2) {i : Nat} (hi : i + 5 ≤ L) (hcs : cells ≤ room_1.cells ∧ slots ≤ room_1.slots) (hR : RR μ ν) (kk : ∀ μ1 ν1, RR μ1 ν1 → lS p l e s m b below meth c D adX adM dAX dAM Q cells slots μ1 ν1 862 [(3, .int (nI i)), (2, .ref (adM 0)), (1, .ref (adX 228)), (0, .ref b)] []) : lS p l e s m b below meth c D adX adM dAX dAM Q cells slots μ ν 593 [(3, .int (nI i)), (2, .ref (adM 0)), (1, .ref (adX 228)), (0, .ref b)] [] := by
  have hL := hC.2.1.2.2
  by_cases z2 : xs (i + 2) = 0
  · obtain ⟨r, μ1, ν1, e1, e2, hR1⟩ := O_draft (n := 2147483648) (p1 := (xs (i + 1))) (p2 := (0 : Int32)) hR (Nat.le_refl _)
    refine l_aload_n hC dL_law_593 rfl 2 rfl ?_
    refine l_aload_n hC dL_law_594 rfl 3 rfl ?_
    refine l_iload_n hC dL_law_595 rfl 0 rfl ?_
    refine l_iconst (v := 1) hC dL_law_596 (by decide) ?_
    refine l_iadd hC dL_law_597 ?_
    refine l_sld hC (i + 1) (by rw [show (1 : Int32) = nI 1 from rfl, nI_add]) (by omega) dL_law_598 ?_
    refine l_aload_n hC dL_law_599 rfl 3 rfl ?_
    refine l_iload_n hC dL_law_600 rfl 0 rfl ?_
    refine l_iconst (v := 2) hC dL_law_601 (by decide) ?_
    refine l_iadd hC dL_law_602 ?_
    refine l_sld hC (i + 2) (by rw [show (2 : Int32) = nI 2 from rfl, nI_add]) (by omega) dL_law_603 ?_
    refine l_if_eq (tgt := 611) hC dL_law_604 (by decide) (fun _ => ?_) (fun h => absurd z2 h)
    refine l_iconst (v := 0) hC dL_law_611 (by decide) ?_
    refine l_callX (As := [.int (xs (i + 1)), .int (0 : Int32)]) hC rfl (e1 ▸ tX5_draft (t1 := t1) (t2 := t2) hC.2.2.2.2.2.2.2.2.2.1 2147483648 (xs (i + 1)) (0 : Int32) μ) (cwV 2 hC.1.2.2.2.2 gL_law_X5_draft rfl rfl rfl (by decide +kernel) ⟨Nat.le_of_ble_eq_true rfl, Nat.le_of_ble_eq_true rfl⟩) rfl (Nat.le_of_ble_eq_true rfl) hcs dL_law_612 ?_
    refine l_aload_n hC dL_law_615 rfl 1 rfl ?_
    refine l_aload_n hC dL_law_616 rfl 3 rfl ?_
    refine l_iload_n hC dL_law_617 rfl 0 rfl ?_
    refine l_iconst (v := 1) hC dL_law_618 (by decide) ?_
    refine l_iadd hC dL_law_619 ?_
    refine l_sld hC (i + 1) (by rw [show (1 : Int32) = nI 1 from rfl, nI_add]) (by omega) dL_law_620 ?_
    refine l_aload_n hC dL_law_621 rfl 3 rfl ?_
    refine l_iload_n hC dL_law_622 rfl 0 rfl ?_
    refine l_iconst (v := 2) hC dL_law_623 (by decide) ?_
    refine l_iadd hC dL_law_624 ?_
    refine l_sld hC (i + 2) (by rw [show (2 : Int32) = nI 2 from rfl, nI_add]) (by omega) dL_law_625 ?_
    refine l_if_eq (tgt := 633) hC dL_law_626 (by decide) (fun _ => ?_) (fun h => absurd z2 h)
    refine l_iconst (v := 0) hC dL_law_633 (by decide) ?_
    refine l_callM (As := [.int (xs (i + 1)), .int (0 : Int32)]) hC rfl (e2 ▸ tX6_draft hC.2.2.2.2.2.2.2.2.2.2 2147483648 (xs (i + 1)) (0 : Int32) ν) (cwV 2 hC.1.2.2.2.2 gL_law_X6_draft rfl rfl rfl (by decide +kernel) ⟨Nat.le_of_ble_eq_true rfl, Nat.le_of_ble_eq_true rfl⟩) rfl (Nat.le_of_ble_eq_true rfl) hcs dL_law_634 ?_
    exact l_icmp_eq (tgt := 862) hC dL_law_637 (by decide) (fun _ => kk μ1 ν1 hR1) (fun h => absurd rfl h)
  · obtain ⟨r, μ1, ν1, e1, e2, hR1⟩ := O_draft (n := 2147483648) (p1 := (xs (i + 1))) (p2 := (1 : Int32)) hR (Nat.le_refl _)
    refine l_aload_n hC dL_law_593 rfl 2 rfl ?_
    refine l_aload_n hC dL_law_594 rfl 3 rfl ?_
    refine l_iload_n hC dL_law_595 rfl 0 rfl ?_
    refine l_iconst (v := 1) hC dL_law_596 (by decide) ?_
    refine l_iadd hC dL_law_597 ?_
    refine l_sld hC (i + 1) (by rw [show (1 : Int32) = nI 1 from rfl, nI_add]) (by omega) dL_law_598 ?_
    refine l_aload_n hC dL_law_599 rfl 3 rfl ?_
    refine l_iload_n hC dL_law_600 rfl 0 rfl ?_
    refine l_iconst (v := 2) hC dL_law_601 (by decide) ?_
    refine l_iadd hC dL_law_602 ?_
    refine l_sld hC (i + 2) (by rw [show (2 : Int32) = nI 2 from rfl, nI_add]) (by omega) dL_law_603 ?_
    refine l_if_eq (tgt := 611) hC dL_law_604 (by decide) (fun h => absurd h z2) (fun _ => ?_)
    refine l_iconst (v := 1) hC dL_law_607 (by decide) ?_
    refine l_goto (tgt := 612) hC dL_law_608 (by decide) ?_
    refine l_callX (As := [.int (xs (i + 1)), .int (1 : Int32)]) hC rfl (e1 ▸ tX5_draft (t1 := t1) (t2 := t2) hC.2.2.2.2.2.2.2.2.2.1 2147483648 (xs (i + 1)) (1 : Int32) μ) (cwV 2 hC.1.2.2.2.2 gL_law_X5_draft rfl rfl rfl (by decide +kernel) ⟨Nat.le_of_ble_eq_true rfl, Nat.le_of_ble_eq_true rfl⟩) rfl (Nat.le_of_ble_eq_true rfl) hcs dL_law_612 ?_
    refine l_aload_n hC dL_law_615 rfl 1 rfl ?_
    refine l_aload_n hC dL_law_616 rfl 3 rfl ?_
    refine l_iload_n hC dL_law_617 rfl 0 rfl ?_
    refine l_iconst (v := 1) hC dL_law_618 (by decide) ?_
    refine l_iadd hC dL_law_619 ?_
    refine l_sld hC (i + 1) (by rw [show (1 : Int32) = nI 1 from rfl, nI_add]) (by omega) dL_law_620 ?_
    refine l_aload_n hC dL_law_621 rfl 3 rfl ?_
    refine l_iload_n hC dL_law_622 rfl 0 rfl ?_
    refine l_iconst (v := 2) hC dL_law_623 (by decide) ?_
    refine l_iadd hC dL_law_624 ?_
    refine l_sld hC (i + 2) (by rw [show (2 : Int32) = nI 2 from rfl, nI_add]) (by omega) dL_law_625 ?_
    refine l_if_eq (tgt := 633) hC dL_law_626 (by decide) (fun h => absurd h z2) (fun _ => ?_)
    refine l_iconst (v := 1) hC dL_law_629 (by decide) ?_
    refine l_goto (tgt := 634) hC dL_law_630 (by decide) ?_
    refine l_callM (As := [.int (xs (i + 1)), .int (1 : Int32)]) hC rfl (e2 ▸ tX6_draft hC.2.2.2.2.2.2.2.2.2.2 2147483648 (xs (i + 1)) (1 : Int32) ν) (cwV 2 hC.1.2.2.2.2 gL_law_X6_draft rfl rfl rfl (by decide +kernel) ⟨Nat.le_of_ble_eq_true rfl, Nat.le_of_ble_eq_true rfl⟩) rfl (Nat.le_of_ble_eq_true rfl) hcs dL_law_634 ?_
    exact l_icmp_eq (tgt := 862) hC dL_law_637 (by decide) (fun _ => kk μ1 ν1 hR1) (fun h => absurd rfl h)
set_option maxRecDepth 100000 in
theorem lw_c18 {p : Program} {l : Launch} {e : Env} {s : State} {m : MethodId} {b : Nat} {below : List Frame} {meth : Method} {c : Code} {L : Nat} {xs : Nat → Int32} {D : va_G} {adX adM : Nat → Nat} {dAX dAM : Nat → ClassId} {t1 t2 : Nat} {Q : State → Prop} {cells slots : Nat} {μ ν : hb_m} (hC : lC p s m b c L xs D adX adM dAX dAM t1 t2) {i : Nat} (hi : i + 5 ≤ L) (hcs : cells ≤ room_1.cells ∧ slots ≤ room_1.slots) (hR : RR μ ν) (kk : ∀ μ1 ν1, RR μ1 ν1 → lS p l e s m b below meth c D adX adM dAX dAM Q cells slots μ1 ν1 862 [(3, .int (nI i)), (2, .ref (adM 0)), (1, .ref (adX 228)), (0, .ref b)] []) : lS p l e s m b below meth c D adX adM dAX dAM Q cells slots μ ν 642 [(3, .int (nI i)), (2, .ref (adM 0)), (1, .ref (adX 228)), (0, .ref b)] [] := by
  have hL := hC.2.1.2.2
  by_cases z3 : xs (i + 3) = 0
  · by_cases z4 : xs (i + 4) = 0
    · obtain ⟨r, μ1, ν1, e1, e2, hR1⟩ := O_bill (n := 2147483648) (p1 := (xs (i + 1))) (p2 := (xs (i + 2))) (p3 := (0 : Int32)) (p4 := (0 : Int32)) hR
      refine l_aload_n hC dL_law_642 rfl 2 rfl ?_
      refine l_aload_n hC dL_law_643 rfl 3 rfl ?_
      refine l_iload_n hC dL_law_644 rfl 0 rfl ?_
      refine l_iconst (v := 1) hC dL_law_645 (by decide) ?_
      refine l_iadd hC dL_law_646 ?_
      refine l_sld hC (i + 1) (by rw [show (1 : Int32) = nI 1 from rfl, nI_add]) (by omega) dL_law_647 ?_
      refine l_aload_n hC dL_law_648 rfl 3 rfl ?_
      refine l_iload_n hC dL_law_649 rfl 0 rfl ?_
      refine l_iconst (v := 2) hC dL_law_650 (by decide) ?_
      refine l_iadd hC dL_law_651 ?_
      refine l_sld hC (i + 2) (by rw [show (2 : Int32) = nI 2 from rfl, nI_add]) (by omega) dL_law_652 ?_
      refine l_aload_n hC dL_law_653 rfl 3 rfl ?_
      refine l_iload_n hC dL_law_654 rfl 0 rfl ?_
      refine l_iconst (v := 3) hC dL_law_655 (by decide) ?_
      refine l_iadd hC dL_law_656 ?_
      refine l_sld hC (i + 3) (by rw [show (3 : Int32) = nI 3 from rfl, nI_add]) (by omega) dL_law_657 ?_
      refine l_if_eq (tgt := 665) hC dL_law_658 (by decide) (fun _ => ?_) (fun h => absurd z3 h)
      refine l_iconst (v := 0) hC dL_law_665 (by decide) ?_
      refine l_aload_n hC dL_law_666 rfl 3 rfl ?_
      refine l_iload_n hC dL_law_667 rfl 0 rfl ?_
      refine l_iconst (v := 4) hC dL_law_668 (by decide) ?_
      refine l_iadd hC dL_law_669 ?_
      refine l_sld hC (i + 4) (by rw [show (4 : Int32) = nI 4 from rfl, nI_add]) (by omega) dL_law_670 ?_
      refine l_if_eq (tgt := 678) hC dL_law_671 (by decide) (fun _ => ?_) (fun h => absurd z4 h)
      refine l_iconst (v := 0) hC dL_law_678 (by decide) ?_
      refine l_callX (As := [.int (xs (i + 1)), .int (xs (i + 2)), .int (0 : Int32), .int (0 : Int32)]) hC rfl (e1 ▸ tX5_bill (t1 := t1) (t2 := t2) hC.2.2.2.2.2.2.2.2.2.1 2147483648 (xs (i + 1)) (xs (i + 2)) (0 : Int32) (0 : Int32) μ) (cwV 4 hC.1.2.2.2.2 gL_law_X5_bill rfl rfl rfl (by decide +kernel) ⟨Nat.le_of_ble_eq_true rfl, Nat.le_of_ble_eq_true rfl⟩) rfl (Nat.le_of_ble_eq_true rfl) hcs dL_law_679 ?_
      refine l_aload_n hC dL_law_682 rfl 1 rfl ?_
      refine l_aload_n hC dL_law_683 rfl 3 rfl ?_
      refine l_iload_n hC dL_law_684 rfl 0 rfl ?_
      refine l_iconst (v := 1) hC dL_law_685 (by decide) ?_
      refine l_iadd hC dL_law_686 ?_
      refine l_sld hC (i + 1) (by rw [show (1 : Int32) = nI 1 from rfl, nI_add]) (by omega) dL_law_687 ?_
      refine l_aload_n hC dL_law_688 rfl 3 rfl ?_
      refine l_iload_n hC dL_law_689 rfl 0 rfl ?_
      refine l_iconst (v := 2) hC dL_law_690 (by decide) ?_
      refine l_iadd hC dL_law_691 ?_
      refine l_sld hC (i + 2) (by rw [show (2 : Int32) = nI 2 from rfl, nI_add]) (by omega) dL_law_692 ?_
      refine l_aload_n hC dL_law_693 rfl 3 rfl ?_
      refine l_iload_n hC dL_law_694 rfl 0 rfl ?_
      refine l_iconst (v := 3) hC dL_law_695 (by decide) ?_
      refine l_iadd hC dL_law_696 ?_
      refine l_sld hC (i + 3) (by rw [show (3 : Int32) = nI 3 from rfl, nI_add]) (by omega) dL_law_697 ?_
      refine l_if_eq (tgt := 705) hC dL_law_698 (by decide) (fun _ => ?_) (fun h => absurd z3 h)
      refine l_iconst (v := 0) hC dL_law_705 (by decide) ?_
      refine l_aload_n hC dL_law_706 rfl 3 rfl ?_
      refine l_iload_n hC dL_law_707 rfl 0 rfl ?_
      refine l_iconst (v := 4) hC dL_law_708 (by decide) ?_
      refine l_iadd hC dL_law_709 ?_
      refine l_sld hC (i + 4) (by rw [show (4 : Int32) = nI 4 from rfl, nI_add]) (by omega) dL_law_710 ?_
      refine l_if_eq (tgt := 718) hC dL_law_711 (by decide) (fun _ => ?_) (fun h => absurd z4 h)
      refine l_iconst (v := 0) hC dL_law_718 (by decide) ?_
      refine l_callM (As := [.int (xs (i + 1)), .int (xs (i + 2)), .int (0 : Int32), .int (0 : Int32)]) hC rfl (e2 ▸ tX6_bill hC.2.2.2.2.2.2.2.2.2.2 2147483648 (xs (i + 1)) (xs (i + 2)) (0 : Int32) (0 : Int32) ν) (cwV 4 hC.1.2.2.2.2 gL_law_X6_bill rfl rfl rfl (by decide +kernel) ⟨Nat.le_of_ble_eq_true rfl, Nat.le_of_ble_eq_true rfl⟩) rfl (Nat.le_of_ble_eq_true rfl) hcs dL_law_719 ?_
      exact l_icmp_eq (tgt := 862) hC dL_law_722 (by decide) (fun _ => kk μ1 ν1 hR1) (fun h => absurd rfl h)
    · obtain ⟨r, μ1, ν1, e1, e2, hR1⟩ := O_bill (n := 2147483648) (p1 := (xs (i + 1))) (p2 := (xs (i + 2))) (p3 := (0 : Int32)) (p4 := (1 : Int32)) hR
      refine l_aload_n hC dL_law_642 rfl 2 rfl ?_
      refine l_aload_n hC dL_law_643 rfl 3 rfl ?_
      refine l_iload_n hC dL_law_644 rfl 0 rfl ?_
      refine l_iconst (v := 1) hC dL_law_645 (by decide) ?_
      refine l_iadd hC dL_law_646 ?_
      refine l_sld hC (i + 1) (by rw [show (1 : Int32) = nI 1 from rfl, nI_add]) (by omega) dL_law_647 ?_
      refine l_aload_n hC dL_law_648 rfl 3 rfl ?_
      refine l_iload_n hC dL_law_649 rfl 0 rfl ?_
      refine l_iconst (v := 2) hC dL_law_650 (by decide) ?_
      refine l_iadd hC dL_law_651 ?_
      refine l_sld hC (i + 2) (by rw [show (2 : Int32) = nI 2 from rfl, nI_add]) (by omega) dL_law_652 ?_
      refine l_aload_n hC dL_law_653 rfl 3 rfl ?_
      refine l_iload_n hC dL_law_654 rfl 0 rfl ?_
      refine l_iconst (v := 3) hC dL_law_655 (by decide) ?_
      refine l_iadd hC dL_law_656 ?_
      refine l_sld hC (i + 3) (by rw [show (3 : Int32) = nI 3 from rfl, nI_add]) (by omega) dL_law_657 ?_
      refine l_if_eq (tgt := 665) hC dL_law_658 (by decide) (fun _ => ?_) (fun h => absurd z3 h)
      refine l_iconst (v := 0) hC dL_law_665 (by decide) ?_
      refine l_aload_n hC dL_law_666 rfl 3 rfl ?_
      refine l_iload_n hC dL_law_667 rfl 0 rfl ?_
      refine l_iconst (v := 4) hC dL_law_668 (by decide) ?_
      refine l_iadd hC dL_law_669 ?_
      refine l_sld hC (i + 4) (by rw [show (4 : Int32) = nI 4 from rfl, nI_add]) (by omega) dL_law_670 ?_
      refine l_if_eq (tgt := 678) hC dL_law_671 (by decide) (fun h => absurd h z4) (fun _ => ?_)
      refine l_iconst (v := 1) hC dL_law_674 (by decide) ?_
      refine l_goto (tgt := 679) hC dL_law_675 (by decide) ?_
      refine l_callX (As := [.int (xs (i + 1)), .int (xs (i + 2)), .int (0 : Int32), .int (1 : Int32)]) hC rfl (e1 ▸ tX5_bill (t1 := t1) (t2 := t2) hC.2.2.2.2.2.2.2.2.2.1 2147483648 (xs (i + 1)) (xs (i + 2)) (0 : Int32) (1 : Int32) μ) (cwV 4 hC.1.2.2.2.2 gL_law_X5_bill rfl rfl rfl (by decide +kernel) ⟨Nat.le_of_ble_eq_true rfl, Nat.le_of_ble_eq_true rfl⟩) rfl (Nat.le_of_ble_eq_true rfl) hcs dL_law_679 ?_
      refine l_aload_n hC dL_law_682 rfl 1 rfl ?_
      refine l_aload_n hC dL_law_683 rfl 3 rfl ?_
      refine l_iload_n hC dL_law_684 rfl 0 rfl ?_
      refine l_iconst (v := 1) hC dL_law_685 (by decide) ?_
      refine l_iadd hC dL_law_686 ?_
      refine l_sld hC (i + 1) (by rw [show (1 : Int32) = nI 1 from rfl, nI_add]) (by omega) dL_law_687 ?_
      refine l_aload_n hC dL_law_688 rfl 3 rfl ?_
      refine l_iload_n hC dL_law_689 rfl 0 rfl ?_
      refine l_iconst (v := 2) hC dL_law_690 (by decide) ?_
      refine l_iadd hC dL_law_691 ?_
      refine l_sld hC (i + 2) (by rw [show (2 : Int32) = nI 2 from rfl, nI_add]) (by omega) dL_law_692 ?_
      refine l_aload_n hC dL_law_693 rfl 3 rfl ?_
      refine l_iload_n hC dL_law_694 rfl 0 rfl ?_
      refine l_iconst (v := 3) hC dL_law_695 (by decide) ?_
      refine l_iadd hC dL_law_696 ?_
      refine l_sld hC (i + 3) (by rw [show (3 : Int32) = nI 3 from rfl, nI_add]) (by omega) dL_law_697 ?_
      refine l_if_eq (tgt := 705) hC dL_law_698 (by decide) (fun _ => ?_) (fun h => absurd z3 h)
      refine l_iconst (v := 0) hC dL_law_705 (by decide) ?_
      refine l_aload_n hC dL_law_706 rfl 3 rfl ?_
      refine l_iload_n hC dL_law_707 rfl 0 rfl ?_
      refine l_iconst (v := 4) hC dL_law_708 (by decide) ?_
      refine l_iadd hC dL_law_709 ?_
      refine l_sld hC (i + 4) (by rw [show (4 : Int32) = nI 4 from rfl, nI_add]) (by omega) dL_law_710 ?_
      refine l_if_eq (tgt := 718) hC dL_law_711 (by decide) (fun h => absurd h z4) (fun _ => ?_)
      refine l_iconst (v := 1) hC dL_law_714 (by decide) ?_
      refine l_goto (tgt := 719) hC dL_law_715 (by decide) ?_
      refine l_callM (As := [.int (xs (i + 1)), .int (xs (i + 2)), .int (0 : Int32), .int (1 : Int32)]) hC rfl (e2 ▸ tX6_bill hC.2.2.2.2.2.2.2.2.2.2 2147483648 (xs (i + 1)) (xs (i + 2)) (0 : Int32) (1 : Int32) ν) (cwV 4 hC.1.2.2.2.2 gL_law_X6_bill rfl rfl rfl (by decide +kernel) ⟨Nat.le_of_ble_eq_true rfl, Nat.le_of_ble_eq_true rfl⟩) rfl (Nat.le_of_ble_eq_true rfl) hcs dL_law_719 ?_
      exact l_icmp_eq (tgt := 862) hC dL_law_722 (by decide) (fun _ => kk μ1 ν1 hR1) (fun h => absurd rfl h)
  · by_cases z4 : xs (i + 4) = 0
    · obtain ⟨r, μ1, ν1, e1, e2, hR1⟩ := O_bill (n := 2147483648) (p1 := (xs (i + 1))) (p2 := (xs (i + 2))) (p3 := (1 : Int32)) (p4 := (0 : Int32)) hR
      refine l_aload_n hC dL_law_642 rfl 2 rfl ?_
      refine l_aload_n hC dL_law_643 rfl 3 rfl ?_
      refine l_iload_n hC dL_law_644 rfl 0 rfl ?_
      refine l_iconst (v := 1) hC dL_law_645 (by decide) ?_
      refine l_iadd hC dL_law_646 ?_
      refine l_sld hC (i + 1) (by rw [show (1 : Int32) = nI 1 from rfl, nI_add]) (by omega) dL_law_647 ?_
      refine l_aload_n hC dL_law_648 rfl 3 rfl ?_
      refine l_iload_n hC dL_law_649 rfl 0 rfl ?_
      refine l_iconst (v := 2) hC dL_law_650 (by decide) ?_
      refine l_iadd hC dL_law_651 ?_
      refine l_sld hC (i + 2) (by rw [show (2 : Int32) = nI 2 from rfl, nI_add]) (by omega) dL_law_652 ?_
      refine l_aload_n hC dL_law_653 rfl 3 rfl ?_
      refine l_iload_n hC dL_law_654 rfl 0 rfl ?_
      refine l_iconst (v := 3) hC dL_law_655 (by decide) ?_
      refine l_iadd hC dL_law_656 ?_
      refine l_sld hC (i + 3) (by rw [show (3 : Int32) = nI 3 from rfl, nI_add]) (by omega) dL_law_657 ?_
      refine l_if_eq (tgt := 665) hC dL_law_658 (by decide) (fun h => absurd h z3) (fun _ => ?_)
      refine l_iconst (v := 1) hC dL_law_661 (by decide) ?_
      refine l_goto (tgt := 666) hC dL_law_662 (by decide) ?_
      refine l_aload_n hC dL_law_666 rfl 3 rfl ?_
      refine l_iload_n hC dL_law_667 rfl 0 rfl ?_
      refine l_iconst (v := 4) hC dL_law_668 (by decide) ?_
      refine l_iadd hC dL_law_669 ?_
      refine l_sld hC (i + 4) (by rw [show (4 : Int32) = nI 4 from rfl, nI_add]) (by omega) dL_law_670 ?_
      refine l_if_eq (tgt := 678) hC dL_law_671 (by decide) (fun _ => ?_) (fun h => absurd z4 h)
      refine l_iconst (v := 0) hC dL_law_678 (by decide) ?_
      refine l_callX (As := [.int (xs (i + 1)), .int (xs (i + 2)), .int (1 : Int32), .int (0 : Int32)]) hC rfl (e1 ▸ tX5_bill (t1 := t1) (t2 := t2) hC.2.2.2.2.2.2.2.2.2.1 2147483648 (xs (i + 1)) (xs (i + 2)) (1 : Int32) (0 : Int32) μ) (cwV 4 hC.1.2.2.2.2 gL_law_X5_bill rfl rfl rfl (by decide +kernel) ⟨Nat.le_of_ble_eq_true rfl, Nat.le_of_ble_eq_true rfl⟩) rfl (Nat.le_of_ble_eq_true rfl) hcs dL_law_679 ?_
      refine l_aload_n hC dL_law_682 rfl 1 rfl ?_
      refine l_aload_n hC dL_law_683 rfl 3 rfl ?_
      refine l_iload_n hC dL_law_684 rfl 0 rfl ?_
      refine l_iconst (v := 1) hC dL_law_685 (by decide) ?_
      refine l_iadd hC dL_law_686 ?_
      refine l_sld hC (i + 1) (by rw [show (1 : Int32) = nI 1 from rfl, nI_add]) (by omega) dL_law_687 ?_
      refine l_aload_n hC dL_law_688 rfl 3 rfl ?_
      refine l_iload_n hC dL_law_689 rfl 0 rfl ?_
      refine l_iconst (v := 2) hC dL_law_690 (by decide) ?_
      refine l_iadd hC dL_law_691 ?_
      refine l_sld hC (i + 2) (by rw [show (2 : Int32) = nI 2 from rfl, nI_add]) (by omega) dL_law_692 ?_
      refine l_aload_n hC dL_law_693 rfl 3 rfl ?_
      refine l_iload_n hC dL_law_694 rfl 0 rfl ?_
      refine l_iconst (v := 3) hC dL_law_695 (by decide) ?_
      refine l_iadd hC dL_law_696 ?_
      refine l_sld hC (i + 3) (by rw [show (3 : Int32) = nI 3 from rfl, nI_add]) (by omega) dL_law_697 ?_
      refine l_if_eq (tgt := 705) hC dL_law_698 (by decide) (fun h => absurd h z3) (fun _ => ?_)
      refine l_iconst (v := 1) hC dL_law_701 (by decide) ?_
      refine l_goto (tgt := 706) hC dL_law_702 (by decide) ?_
      refine l_aload_n hC dL_law_706 rfl 3 rfl ?_
      refine l_iload_n hC dL_law_707 rfl 0 rfl ?_
      refine l_iconst (v := 4) hC dL_law_708 (by decide) ?_
      refine l_iadd hC dL_law_709 ?_
      refine l_sld hC (i + 4) (by rw [show (4 : Int32) = nI 4 from rfl, nI_add]) (by omega) dL_law_710 ?_
      refine l_if_eq (tgt := 718) hC dL_law_711 (by decide) (fun _ => ?_) (fun h => absurd z4 h)
      refine l_iconst (v := 0) hC dL_law_718 (by decide) ?_
      refine l_callM (As := [.int (xs (i + 1)), .int (xs (i + 2)), .int (1 : Int32), .int (0 : Int32)]) hC rfl (e2 ▸ tX6_bill hC.2.2.2.2.2.2.2.2.2.2 2147483648 (xs (i + 1)) (xs (i + 2)) (1 : Int32) (0 : Int32) ν) (cwV 4 hC.1.2.2.2.2 gL_law_X6_bill rfl rfl rfl (by decide +kernel) ⟨Nat.le_of_ble_eq_true rfl, Nat.le_of_ble_eq_true rfl⟩) rfl (Nat.le_of_ble_eq_true rfl) hcs dL_law_719 ?_
      exact l_icmp_eq (tgt := 862) hC dL_law_722 (by decide) (fun _ => kk μ1 ν1 hR1) (fun h => absurd rfl h)
    · obtain ⟨r, μ1, ν1, e1, e2, hR1⟩ := O_bill (n := 2147483648) (p1 := (xs (i + 1))) (p2 := (xs (i + 2))) (p3 := (1 : Int32)) (p4 := (1 : Int32)) hR
      refine l_aload_n hC dL_law_642 rfl 2 rfl ?_
      refine l_aload_n hC dL_law_643 rfl 3 rfl ?_
      refine l_iload_n hC dL_law_644 rfl 0 rfl ?_
      refine l_iconst (v := 1) hC dL_law_645 (by decide) ?_
      refine l_iadd hC dL_law_646 ?_
      refine l_sld hC (i + 1) (by rw [show (1 : Int32) = nI 1 from rfl, nI_add]) (by omega) dL_law_647 ?_
      refine l_aload_n hC dL_law_648 rfl 3 rfl ?_
      refine l_iload_n hC dL_law_649 rfl 0 rfl ?_
      refine l_iconst (v := 2) hC dL_law_650 (by decide) ?_
      refine l_iadd hC dL_law_651 ?_
      refine l_sld hC (i + 2) (by rw [show (2 : Int32) = nI 2 from rfl, nI_add]) (by omega) dL_law_652 ?_
      refine l_aload_n hC dL_law_653 rfl 3 rfl ?_
      refine l_iload_n hC dL_law_654 rfl 0 rfl ?_
      refine l_iconst (v := 3) hC dL_law_655 (by decide) ?_
      refine l_iadd hC dL_law_656 ?_
      refine l_sld hC (i + 3) (by rw [show (3 : Int32) = nI 3 from rfl, nI_add]) (by omega) dL_law_657 ?_
      refine l_if_eq (tgt := 665) hC dL_law_658 (by decide) (fun h => absurd h z3) (fun _ => ?_)
      refine l_iconst (v := 1) hC dL_law_661 (by decide) ?_
      refine l_goto (tgt := 666) hC dL_law_662 (by decide) ?_
      refine l_aload_n hC dL_law_666 rfl 3 rfl ?_
      refine l_iload_n hC dL_law_667 rfl 0 rfl ?_
      refine l_iconst (v := 4) hC dL_law_668 (by decide) ?_
      refine l_iadd hC dL_law_669 ?_
      refine l_sld hC (i + 4) (by rw [show (4 : Int32) = nI 4 from rfl, nI_add]) (by omega) dL_law_670 ?_
      refine l_if_eq (tgt := 678) hC dL_law_671 (by decide) (fun h => absurd h z4) (fun _ => ?_)
      refine l_iconst (v := 1) hC dL_law_674 (by decide) ?_
      refine l_goto (tgt := 679) hC dL_law_675 (by decide) ?_
      refine l_callX (As := [.int (xs (i + 1)), .int (xs (i + 2)), .int (1 : Int32), .int (1 : Int32)]) hC rfl (e1 ▸ tX5_bill (t1 := t1) (t2 := t2) hC.2.2.2.2.2.2.2.2.2.1 2147483648 (xs (i + 1)) (xs (i + 2)) (1 : Int32) (1 : Int32) μ) (cwV 4 hC.1.2.2.2.2 gL_law_X5_bill rfl rfl rfl (by decide +kernel) ⟨Nat.le_of_ble_eq_true rfl, Nat.le_of_ble_eq_true rfl⟩) rfl (Nat.le_of_ble_eq_true rfl) hcs dL_law_679 ?_
      refine l_aload_n hC dL_law_682 rfl 1 rfl ?_
      refine l_aload_n hC dL_law_683 rfl 3 rfl ?_
      refine l_iload_n hC dL_law_684 rfl 0 rfl ?_
      refine l_iconst (v := 1) hC dL_law_685 (by decide) ?_
      refine l_iadd hC dL_law_686 ?_
      refine l_sld hC (i + 1) (by rw [show (1 : Int32) = nI 1 from rfl, nI_add]) (by omega) dL_law_687 ?_
      refine l_aload_n hC dL_law_688 rfl 3 rfl ?_
      refine l_iload_n hC dL_law_689 rfl 0 rfl ?_
      refine l_iconst (v := 2) hC dL_law_690 (by decide) ?_
      refine l_iadd hC dL_law_691 ?_
      refine l_sld hC (i + 2) (by rw [show (2 : Int32) = nI 2 from rfl, nI_add]) (by omega) dL_law_692 ?_
      refine l_aload_n hC dL_law_693 rfl 3 rfl ?_
      refine l_iload_n hC dL_law_694 rfl 0 rfl ?_
      refine l_iconst (v := 3) hC dL_law_695 (by decide) ?_
      refine l_iadd hC dL_law_696 ?_
      refine l_sld hC (i + 3) (by rw [show (3 : Int32) = nI 3 from rfl, nI_add]) (by omega) dL_law_697 ?_
      refine l_if_eq (tgt := 705) hC dL_law_698 (by decide) (fun h => absurd h z3) (fun _ => ?_)
      refine l_iconst (v := 1) hC dL_law_701 (by decide) ?_
      refine l_goto (tgt := 706) hC dL_law_702 (by decide) ?_
      refine l_aload_n hC dL_law_706 rfl 3 rfl ?_
      refine l_iload_n hC dL_law_707 rfl 0 rfl ?_
      refine l_iconst (v := 4) hC dL_law_708 (by decide) ?_
      refine l_iadd hC dL_law_709 ?_
      refine l_sld hC (i + 4) (by rw [show (4 : Int32) = nI 4 from rfl, nI_add]) (by omega) dL_law_710 ?_
      refine l_if_eq (tgt := 718) hC dL_law_711 (by decide) (fun h => absurd h z4) (fun _ => ?_)
      refine l_iconst (v := 1) hC dL_law_714 (by decide) ?_
      refine l_goto (tgt := 719) hC dL_law_715 (by decide) ?_
      refine l_callM (As := [.int (xs (i + 1)), .int (xs (i + 2)), .int (1 : Int32), .int (1 : Int32)]) hC rfl (e2 ▸ tX6_bill hC.2.2.2.2.2.2.2.2.2.2 2147483648 (xs (i + 1)) (xs (i + 2)) (1 : Int32) (1 : Int32) ν) (cwV 4 hC.1.2.2.2.2 gL_law_X6_bill rfl rfl rfl (by decide +kernel) ⟨Nat.le_of_ble_eq_true rfl, Nat.le_of_ble_eq_true rfl⟩) rfl (Nat.le_of_ble_eq_true rfl) hcs dL_law_719 ?_
      exact l_icmp_eq (tgt := 862) hC dL_law_722 (by decide) (fun _ => kk μ1 ν1 hR1) (fun h => absurd rfl h)
set_option maxRecDepth 100000 in
theorem lw_c19 {p : Program} {l : Launch} {e : Env} {s : State} {m : MethodId} {b : Nat} {below : List Frame} {meth : Method} {c : Code} {L : Nat} {xs : Nat → Int32} {D : va_G} {adX adM : Nat → Nat} {dAX dAM : Nat → ClassId} {t1 t2 : Nat} {Q : State → Prop} {cells slots : Nat} {μ ν : hb_m} (hC : lC p s m b c L xs D adX adM dAX dAM t1 t2) {i : Nat} (hi : i + 5 ≤ L) (hcs : cells ≤ room_1.cells ∧ slots ≤ room_1.slots) (hR : RR μ ν) (kk : ∀ μ1 ν1, RR μ1 ν1 → lS p l e s m b below meth c D adX adM dAX dAM Q cells slots μ1 ν1 862 [(3, .int (nI i)), (2, .ref (adM 0)), (1, .ref (adX 228)), (0, .ref b)] []) : lS p l e s m b below meth c D adX adM dAX dAM Q cells slots μ ν 727 [(3, .int (nI i)), (2, .ref (adM 0)), (1, .ref (adX 228)), (0, .ref b)] [] := by
  have hL := hC.2.1.2.2
  obtain ⟨r, μ1, ν1, e1, e2, hR1⟩ := O_units (n := 2147483648) (p1 := (xs (i + 1))) (p2 := (xs (i + 2))) hR
  refine l_aload_n hC dL_law_727 rfl 2 rfl ?_
  refine l_aload_n hC dL_law_728 rfl 3 rfl ?_
  refine l_iload_n hC dL_law_729 rfl 0 rfl ?_
  refine l_iconst (v := 1) hC dL_law_730 (by decide) ?_
  refine l_iadd hC dL_law_731 ?_
  refine l_sld hC (i + 1) (by rw [show (1 : Int32) = nI 1 from rfl, nI_add]) (by omega) dL_law_732 ?_
  refine l_aload_n hC dL_law_733 rfl 3 rfl ?_
  refine l_iload_n hC dL_law_734 rfl 0 rfl ?_
  refine l_iconst (v := 2) hC dL_law_735 (by decide) ?_
  refine l_iadd hC dL_law_736 ?_
  refine l_sld hC (i + 2) (by rw [show (2 : Int32) = nI 2 from rfl, nI_add]) (by omega) dL_law_737 ?_
  refine l_callX (As := [.int (xs (i + 1)), .int (xs (i + 2))]) hC rfl (e1 ▸ tX5_units (t1 := t1) (t2 := t2) hC.2.2.2.2.2.2.2.2.2.1 2147483648 (xs (i + 1)) (xs (i + 2)) μ) (cwV 2 hC.1.2.2.2.2 gL_law_X5_units rfl rfl rfl (by decide +kernel) ⟨Nat.le_of_ble_eq_true rfl, Nat.le_of_ble_eq_true rfl⟩) rfl (Nat.le_of_ble_eq_true rfl) hcs dL_law_738 ?_
  refine l_aload_n hC dL_law_741 rfl 1 rfl ?_
  refine l_aload_n hC dL_law_742 rfl 3 rfl ?_
  refine l_iload_n hC dL_law_743 rfl 0 rfl ?_
  refine l_iconst (v := 1) hC dL_law_744 (by decide) ?_
  refine l_iadd hC dL_law_745 ?_
  refine l_sld hC (i + 1) (by rw [show (1 : Int32) = nI 1 from rfl, nI_add]) (by omega) dL_law_746 ?_
  refine l_aload_n hC dL_law_747 rfl 3 rfl ?_
  refine l_iload_n hC dL_law_748 rfl 0 rfl ?_
  refine l_iconst (v := 2) hC dL_law_749 (by decide) ?_
  refine l_iadd hC dL_law_750 ?_
  refine l_sld hC (i + 2) (by rw [show (2 : Int32) = nI 2 from rfl, nI_add]) (by omega) dL_law_751 ?_
  refine l_callM (As := [.int (xs (i + 1)), .int (xs (i + 2))]) hC rfl (e2 ▸ tX6_units hC.2.2.2.2.2.2.2.2.2.2 2147483648 (xs (i + 1)) (xs (i + 2)) ν) (cwV 2 hC.1.2.2.2.2 gL_law_X6_units rfl rfl rfl (by decide +kernel) ⟨Nat.le_of_ble_eq_true rfl, Nat.le_of_ble_eq_true rfl⟩) rfl (Nat.le_of_ble_eq_true rfl) hcs dL_law_752 ?_
  exact l_icmp_eq (tgt := 862) hC dL_law_755 (by decide) (fun _ => kk μ1 ν1 hR1) (fun h => absurd rfl h)
set_option maxRecDepth 100000 in
theorem lw_c20 {p : Program} {l : Launch} {e : Env} {s : State} {m : MethodId} {b : Nat} {below : List Frame} {meth : Method} {c : Code} {L : Nat} {xs : Nat → Int32} {D : va_G} {adX adM : Nat → Nat} {dAX dAM : Nat → ClassId} {t1 t2 : Nat} {Q : State → Prop} {cells slots : Nat} {μ ν : hb_m} (hC : lC p s m b c L xs D adX adM dAX dAM t1 t2) {i : Nat} (hi : i + 5 ≤ L) (hcs : cells ≤ room_1.cells ∧ slots ≤ room_1.slots) (hR : RR μ ν) (kk : ∀ μ1 ν1, RR μ1 ν1 → lS p l e s m b below meth c D adX adM dAX dAM Q cells slots μ1 ν1 862 [(3, .int (nI i)), (2, .ref (adM 0)), (1, .ref (adX 228)), (0, .ref b)] []) : lS p l e s m b below meth c D adX adM dAX dAM Q cells slots μ ν 760 [(3, .int (nI i)), (2, .ref (adM 0)), (1, .ref (adX 228)), (0, .ref b)] [] := by
  have hL := hC.2.1.2.2
  obtain ⟨r, μ1, ν1, e1, e2, hR1⟩ := O_greatest (n := 2147483648) (p := (xs (i + 1))) hR (Nat.le_refl _)
  refine l_aload_n hC dL_law_760 rfl 2 rfl ?_
  refine l_aload_n hC dL_law_761 rfl 3 rfl ?_
  refine l_iload_n hC dL_law_762 rfl 0 rfl ?_
  refine l_iconst (v := 1) hC dL_law_763 (by decide) ?_
  refine l_iadd hC dL_law_764 ?_
  refine l_sld hC (i + 1) (by rw [show (1 : Int32) = nI 1 from rfl, nI_add]) (by omega) dL_law_765 ?_
  refine l_callX (As := [.int (xs (i + 1))]) hC rfl (e1 ▸ tX5_greatest (t1 := t1) (t2 := t2) hC.2.2.2.2.2.2.2.2.2.1 2147483648 (xs (i + 1)) μ) (cwV 1 hC.1.2.2.2.2 gL_law_X5_greatest rfl rfl rfl (by decide +kernel) ⟨Nat.le_of_ble_eq_true rfl, Nat.le_of_ble_eq_true rfl⟩) rfl (Nat.le_of_ble_eq_true rfl) hcs dL_law_766 ?_
  refine l_aload_n hC dL_law_769 rfl 1 rfl ?_
  refine l_aload_n hC dL_law_770 rfl 3 rfl ?_
  refine l_iload_n hC dL_law_771 rfl 0 rfl ?_
  refine l_iconst (v := 1) hC dL_law_772 (by decide) ?_
  refine l_iadd hC dL_law_773 ?_
  refine l_sld hC (i + 1) (by rw [show (1 : Int32) = nI 1 from rfl, nI_add]) (by omega) dL_law_774 ?_
  refine l_callM (As := [.int (xs (i + 1))]) hC rfl (e2 ▸ tX6_greatest hC.2.2.2.2.2.2.2.2.2.2 2147483648 (xs (i + 1)) ν) (cwV 1 hC.1.2.2.2.2 gL_law_X6_greatest rfl rfl rfl (by decide +kernel) ⟨Nat.le_of_ble_eq_true rfl, Nat.le_of_ble_eq_true rfl⟩) rfl (Nat.le_of_ble_eq_true rfl) hcs dL_law_775 ?_
  exact l_icmp_eq (tgt := 862) hC dL_law_778 (by decide) (fun _ => kk μ1 ν1 hR1) (fun h => absurd rfl h)
set_option maxRecDepth 100000 in
theorem lw_c21 {p : Program} {l : Launch} {e : Env} {s : State} {m : MethodId} {b : Nat} {below : List Frame} {meth : Method} {c : Code} {L : Nat} {xs : Nat → Int32} {D : va_G} {adX adM : Nat → Nat} {dAX dAM : Nat → ClassId} {t1 t2 : Nat} {Q : State → Prop} {cells slots : Nat} {μ ν : hb_m} (hC : lC p s m b c L xs D adX adM dAX dAM t1 t2) {i : Nat} (hi : i + 5 ≤ L) (hcs : cells ≤ room_1.cells ∧ slots ≤ room_1.slots) (hR : RR μ ν) (kk : ∀ μ1 ν1, RR μ1 ν1 → lS p l e s m b below meth c D adX adM dAX dAM Q cells slots μ1 ν1 862 [(3, .int (nI i)), (2, .ref (adM 0)), (1, .ref (adX 228)), (0, .ref b)] []) : lS p l e s m b below meth c D adX adM dAX dAM Q cells slots μ ν 783 [(3, .int (nI i)), (2, .ref (adM 0)), (1, .ref (adX 228)), (0, .ref b)] [] := by
  have hL := hC.2.1.2.2
  obtain ⟨r, μ1, ν1, e1, e2, hR1⟩ := O_billIf (n := 2147483648) (p1 := (xs (i + 1))) (p2 := (xs (i + 2))) hR (Nat.le_refl _)
  refine l_aload_n hC dL_law_783 rfl 2 rfl ?_
  refine l_aload_n hC dL_law_784 rfl 3 rfl ?_
  refine l_iload_n hC dL_law_785 rfl 0 rfl ?_
  refine l_iconst (v := 1) hC dL_law_786 (by decide) ?_
  refine l_iadd hC dL_law_787 ?_
  refine l_sld hC (i + 1) (by rw [show (1 : Int32) = nI 1 from rfl, nI_add]) (by omega) dL_law_788 ?_
  refine l_aload_n hC dL_law_789 rfl 3 rfl ?_
  refine l_iload_n hC dL_law_790 rfl 0 rfl ?_
  refine l_iconst (v := 2) hC dL_law_791 (by decide) ?_
  refine l_iadd hC dL_law_792 ?_
  refine l_sld hC (i + 2) (by rw [show (2 : Int32) = nI 2 from rfl, nI_add]) (by omega) dL_law_793 ?_
  refine l_callX (As := [.int (xs (i + 1)), .int (xs (i + 2))]) hC rfl (e1 ▸ tX5_billIf (t1 := t1) (t2 := t2) hC.2.2.2.2.2.2.2.2.2.1 2147483648 (xs (i + 1)) (xs (i + 2)) μ) (cwV 2 hC.1.2.2.2.2 gL_law_X5_billIf rfl rfl rfl (by decide +kernel) ⟨Nat.le_of_ble_eq_true rfl, Nat.le_of_ble_eq_true rfl⟩) rfl (Nat.le_of_ble_eq_true rfl) hcs dL_law_794 ?_
  refine l_aload_n hC dL_law_797 rfl 1 rfl ?_
  refine l_aload_n hC dL_law_798 rfl 3 rfl ?_
  refine l_iload_n hC dL_law_799 rfl 0 rfl ?_
  refine l_iconst (v := 1) hC dL_law_800 (by decide) ?_
  refine l_iadd hC dL_law_801 ?_
  refine l_sld hC (i + 1) (by rw [show (1 : Int32) = nI 1 from rfl, nI_add]) (by omega) dL_law_802 ?_
  refine l_aload_n hC dL_law_803 rfl 3 rfl ?_
  refine l_iload_n hC dL_law_804 rfl 0 rfl ?_
  refine l_iconst (v := 2) hC dL_law_805 (by decide) ?_
  refine l_iadd hC dL_law_806 ?_
  refine l_sld hC (i + 2) (by rw [show (2 : Int32) = nI 2 from rfl, nI_add]) (by omega) dL_law_807 ?_
  refine l_callM (As := [.int (xs (i + 1)), .int (xs (i + 2))]) hC rfl (e2 ▸ tX6_billIf hC.2.2.2.2.2.2.2.2.2.2 2147483648 (xs (i + 1)) (xs (i + 2)) ν) (cwV 2 hC.1.2.2.2.2 gL_law_X6_billIf rfl rfl rfl (by decide +kernel) ⟨Nat.le_of_ble_eq_true rfl, Nat.le_of_ble_eq_true rfl⟩) rfl (Nat.le_of_ble_eq_true rfl) hcs dL_law_808 ?_
  exact l_icmp_eq (tgt := 862) hC dL_law_811 (by decide) (fun _ => kk μ1 ν1 hR1) (fun h => absurd rfl h)
set_option maxRecDepth 100000 in
theorem lw_c22 {p : Program} {l : Launch} {e : Env} {s : State} {m : MethodId} {b : Nat} {below : List Frame} {meth : Method} {c : Code} {L : Nat} {xs : Nat → Int32} {D : va_G} {adX adM : Nat → Nat} {dAX dAM : Nat → ClassId} {t1 t2 : Nat} {Q : State → Prop} {cells slots : Nat} {μ ν : hb_m} (hC : lC p s m b c L xs D adX adM dAX dAM t1 t2) {i : Nat} (hi : i + 5 ≤ L) (hcs : cells ≤ room_1.cells ∧ slots ≤ room_1.slots) (hR : RR μ ν) (kk : ∀ μ1 ν1, RR μ1 ν1 → lS p l e s m b below meth c D adX adM dAX dAM Q cells slots μ1 ν1 862 [(3, .int (nI i)), (2, .ref (adM 0)), (1, .ref (adX 228)), (0, .ref b)] []) : lS p l e s m b below meth c D adX adM dAX dAM Q cells slots μ ν 816 [(3, .int (nI i)), (2, .ref (adM 0)), (1, .ref (adX 228)), (0, .ref b)] [] := by
  have hL := hC.2.1.2.2
  obtain ⟨r, μ1, ν1, e1, e2, hR1⟩ := O_bestShare (n := 2147483648) (p1 := (xs (i + 1))) hR (Nat.le_refl _)
  refine l_aload_n hC dL_law_816 rfl 2 rfl ?_
  refine l_aload_n hC dL_law_817 rfl 3 rfl ?_
  refine l_iload_n hC dL_law_818 rfl 0 rfl ?_
  refine l_iconst (v := 1) hC dL_law_819 (by decide) ?_
  refine l_iadd hC dL_law_820 ?_
  refine l_sld hC (i + 1) (by rw [show (1 : Int32) = nI 1 from rfl, nI_add]) (by omega) dL_law_821 ?_
  refine l_callX (As := [.int (xs (i + 1))]) hC rfl (e1 ▸ tX5_bestShare (t1 := t1) (t2 := t2) hC.2.2.2.2.2.2.2.2.2.1 2147483648 (xs (i + 1)) μ) (cwV 1 hC.1.2.2.2.2 gL_law_X5_bestShare rfl rfl rfl (by decide +kernel) ⟨Nat.le_of_ble_eq_true rfl, Nat.le_of_ble_eq_true rfl⟩) rfl (Nat.le_of_ble_eq_true rfl) hcs dL_law_822 ?_
  refine l_aload_n hC dL_law_825 rfl 1 rfl ?_
  refine l_aload_n hC dL_law_826 rfl 3 rfl ?_
  refine l_iload_n hC dL_law_827 rfl 0 rfl ?_
  refine l_iconst (v := 1) hC dL_law_828 (by decide) ?_
  refine l_iadd hC dL_law_829 ?_
  refine l_sld hC (i + 1) (by rw [show (1 : Int32) = nI 1 from rfl, nI_add]) (by omega) dL_law_830 ?_
  refine l_callM (As := [.int (xs (i + 1))]) hC rfl (e2 ▸ tX6_bestShare hC.2.2.2.2.2.2.2.2.2.2 2147483648 (xs (i + 1)) ν) (cwV 1 hC.1.2.2.2.2 gL_law_X6_bestShare rfl rfl rfl (by decide +kernel) ⟨Nat.le_of_ble_eq_true rfl, Nat.le_of_ble_eq_true rfl⟩) rfl (Nat.le_of_ble_eq_true rfl) hcs dL_law_831 ?_
  exact l_icmp_eq (tgt := 862) hC dL_law_834 (by decide) (fun _ => kk μ1 ν1 hR1) (fun h => absurd rfl h)
set_option maxRecDepth 100000 in
theorem lw_c23 {p : Program} {l : Launch} {e : Env} {s : State} {m : MethodId} {b : Nat} {below : List Frame} {meth : Method} {c : Code} {L : Nat} {xs : Nat → Int32} {D : va_G} {adX adM : Nat → Nat} {dAX dAM : Nat → ClassId} {t1 t2 : Nat} {Q : State → Prop} {cells slots : Nat} {μ ν : hb_m} (hC : lC p s m b c L xs D adX adM dAX dAM t1 t2) {i : Nat} (hi : i + 5 ≤ L) (hcs : cells ≤ room_1.cells ∧ slots ≤ room_1.slots) (hR : RR μ ν) (kk : ∀ μ1 ν1, RR μ1 ν1 → lS p l e s m b below meth c D adX adM dAX dAM Q cells slots μ1 ν1 862 [(3, .int (nI i)), (2, .ref (adM 0)), (1, .ref (adX 228)), (0, .ref b)] []) : lS p l e s m b below meth c D adX adM dAX dAM Q cells slots μ ν 839 [(3, .int (nI i)), (2, .ref (adM 0)), (1, .ref (adX 228)), (0, .ref b)] [] := by
  have hL := hC.2.1.2.2
  obtain ⟨r, μ1, ν1, e1, e2, hR1⟩ := O_count (n := 2147483648) (p := (xs (i + 1))) hR (Nat.le_refl _)
  refine l_aload_n hC dL_law_839 rfl 2 rfl ?_
  refine l_aload_n hC dL_law_840 rfl 3 rfl ?_
  refine l_iload_n hC dL_law_841 rfl 0 rfl ?_
  refine l_iconst (v := 1) hC dL_law_842 (by decide) ?_
  refine l_iadd hC dL_law_843 ?_
  refine l_sld hC (i + 1) (by rw [show (1 : Int32) = nI 1 from rfl, nI_add]) (by omega) dL_law_844 ?_
  refine l_callX (As := [.int (xs (i + 1))]) hC rfl (e1 ▸ tX5_count (t1 := t1) (t2 := t2) hC.2.2.2.2.2.2.2.2.2.1 2147483648 (xs (i + 1)) μ) (cwV 1 hC.1.2.2.2.2 gL_law_X5_count rfl rfl rfl (by decide +kernel) ⟨Nat.le_of_ble_eq_true rfl, Nat.le_of_ble_eq_true rfl⟩) rfl (Nat.le_of_ble_eq_true rfl) hcs dL_law_845 ?_
  refine l_aload_n hC dL_law_848 rfl 1 rfl ?_
  refine l_aload_n hC dL_law_849 rfl 3 rfl ?_
  refine l_iload_n hC dL_law_850 rfl 0 rfl ?_
  refine l_iconst (v := 1) hC dL_law_851 (by decide) ?_
  refine l_iadd hC dL_law_852 ?_
  refine l_sld hC (i + 1) (by rw [show (1 : Int32) = nI 1 from rfl, nI_add]) (by omega) dL_law_853 ?_
  refine l_callM (As := [.int (xs (i + 1))]) hC rfl (e2 ▸ tX6_count hC.2.2.2.2.2.2.2.2.2.2 2147483648 (xs (i + 1)) ν) (cwV 1 hC.1.2.2.2.2 gL_law_X6_count rfl rfl rfl (by decide +kernel) ⟨Nat.le_of_ble_eq_true rfl, Nat.le_of_ble_eq_true rfl⟩) rfl (Nat.le_of_ble_eq_true rfl) hcs dL_law_854 ?_
  exact l_icmp_eq (tgt := 862) hC dL_law_857 (by decide) (fun _ => kk μ1 ν1 hR1) (fun h => absurd rfl h)

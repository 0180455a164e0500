section CASES58
theorem nI_ad (n k : Nat) : nI n + nI k = nI (n + k) := (Int32.ofNat_add n k).symm
section
variable {p : Program} {l : Launch} {e : Env} {s : State} {m : MethodId} {below : List Frame} {meth : Method} {c : Code} {D : va_G} {cy : Nat → ClassId} {de b L : Nat} {xs : Nat → Int32} {w : Wd} {x mo ou j kc ns : Nat} {ad : Nat → Nat} {T : Int32} {Q : State → Prop}
set_option maxHeartbeats 1000000 in
set_option maxRecDepth 100000 in
theorem case_station (C : Cx p l room_1 s m #[.ref b] meth c D cy s.heap.size code "RainIndexLaw" 7 ret 11 446 601024 7293034 de) (hN : NCS s) (hX : va_X b L xs s s.heap) (hb : b < s.heap.size) (hL : L ≤ 3072) (hj : 6 * j + 6 ≤ L) (hi : IV w de x mo ou ad T j) (hkc : kc + 40 ≤ 601024) (hns : ns + 2000 ≤ 7293034)
    (next : ∀ (w' : Wd) (T' : Int32), IV w' de x mo ou ad T' (j + 1) → G p l e room_1 s m #[.ref b] below meth c D cy s.heap.size 7 w' (kc + 40) (ns + 2000) 1745 [(0, .ref b), (1, .ref x), (2, .ref mo), (3, .ref ou), (4, .int (nI (6 * j)))] [] Q) : G p l e room_1 s m #[.ref b] below meth c D cy s.heap.size 7 w kc ns 148 [(0, .ref b), (1, .ref x), (2, .ref mo), (3, .ref ou), (4, .int (nI (6 * j)))] [] Q := by
  obtain ⟨P, hc, hp⟩ := step_station de hi (show j < 512 by omega) (xs (6 * j + 1)) (xs (6 * j + 2))
  refine g_aload_n C dL_148 rfl ?_
  refine g_aload_n C dL_149 rfl ?_
  refine g_iload C dL_150 rfl ?_
  refine g_iconst C 1 dL_152 (by rfl) ?_
  refine g_iadd C dL_153 ?_
  refine g_sld C hX hb (6 * j + 1) (nI_ad (6 * j) 1) (by omega) (by omega) dL_154 ?_
  refine g_aload_n C dL_155 rfl ?_
  refine g_iload C dL_156 rfl ?_
  refine g_iconst C 2 dL_158 (by rfl) ?_
  refine g_iadd C dL_159 ?_
  refine g_sld C hX hb (6 * j + 2) (nI_ad (6 * j) 2) (by omega) (by omega) dL_160 ?_
  refine g_aload_n C dL_161 rfl ?_
  refine g_callH C mt_L_station [.ref x, .int (xs (6 * j + 1)), .int (xs (6 * j + 2)), .ref ou] hc hN k_177 rfl rfl (Nat.le_of_ble_eq_true rfl) (by decide) (by decide) (by omega) (by omega) dL_162 (fun r2 w2 hq => ?_)
  obtain ⟨k, rfl, hm2, P2, hc2, hp2⟩ := hp r2 w2 hq
  refine g_istore C dL_165 (by decide) ?_
  refine g_aload_n C dL_167 rfl ?_
  refine g_aload_n C dL_168 rfl ?_
  refine g_iload C dL_169 rfl ?_
  refine g_iconst C 1 dL_171 (by rfl) ?_
  refine g_iadd C dL_172 ?_
  refine g_sld C hX hb (6 * j + 1) (nI_ad (6 * j) 1) (by omega) (by omega) dL_173 ?_
  refine g_aload_n C dL_174 rfl ?_
  refine g_iload C dL_175 rfl ?_
  refine g_iconst C 2 dL_177 (by rfl) ?_
  refine g_iadd C dL_178 ?_
  refine g_sld C hX hb (6 * j + 2) (nI_ad (6 * j) 2) (by omega) (by omega) dL_179 ?_
  refine g_callV C cls_11 12 mt_X10_station [.int (xs (6 * j + 1)), .int (xs (6 * j + 2))] hc2 hm2 (by decide) k_1010 rfl rfl (Nat.le_of_ble_eq_true rfl) (by decide) (by decide) (by omega) (by omega) dL_180 (fun r3 w3 hq3 => ?_)
  obtain ⟨v, rfl, hi3, hJ⟩ := hp2 r3 w3 hq3
  refine g_istore C dL_183 (by decide) ?_
  refine g_aload_n C dL_185 rfl ?_
  refine g_callV C cls_11 12 mt_X10_thrown [] (iv_thrown de hi3) hi3.1.1 (by decide) k_1006 rfl rfl (Nat.le_of_ble_eq_true rfl) (by decide) (by decide) (by omega) (by omega) dL_186 (fun r4 w4 hq4 => ?_)
  obtain ⟨rfl, rfl⟩ := hq4
  refine g_iload C dL_189 rfl ?_
  refine g_icmp_eq C 196 dL_191 (by decide) (fun _ => ?_) (fun h => absurd rfl h)
  refine g_iload C dL_196 rfl ?_
  refine g_if_ne C 213 dL_198 (by decide) (fun _ => ?_) (fun h => ?_)
  · exact g_goto C 1745 dL_213 (by decide) (g_lv2 [(0, .ref b), (1, .ref x), (2, .ref mo), (3, .ref ou), (4, .int (nI (6 * j)))] rfl (g_wid (kc + 40) (ns + 2000) (by omega) (by omega) (next _ _ hi3)))
  · have h0 : k = 0 := h
    refine g_aload_n C dL_201 rfl ?_
    refine g_iconst C 0 dL_202 (by rfl) ?_
    refine g_lald C 2994 hi3.2.1 rfl (show vp_in (nI 0) _ by rw [hi3.2.2.1]; exact nI_vp (by omega) (by omega)) dL_203 ?_
    rw [show (0 : Int32).toNatClampNeg = 0 by decide, hJ h0]
    refine g_iload C dL_204 rfl ?_
    refine g_i2l C dL_206 ?_
    refine g_lcmp C dL_207 ?_
    rw [lg_cmp_self]
    refine g_if_eq C 213 dL_208 (by decide) (fun _ => ?_) (fun h => absurd rfl h)
    exact g_goto C 1745 dL_213 (by decide) (g_lv2 [(0, .ref b), (1, .ref x), (2, .ref mo), (3, .ref ou), (4, .int (nI (6 * j)))] rfl (g_wid (kc + 40) (ns + 2000) (by omega) (by omega) (next _ _ hi3)))
set_option maxHeartbeats 1000000 in
set_option maxRecDepth 100000 in
theorem case_rain (C : Cx p l room_1 s m #[.ref b] meth c D cy s.heap.size code "RainIndexLaw" 7 ret 11 446 601024 7293034 de) (hN : NCS s) (hX : va_X b L xs s s.heap) (hb : b < s.heap.size) (hL : L ≤ 3072) (hj : 6 * j + 6 ≤ L) (hi : IV w de x mo ou ad T j) (hkc : kc + 40 ≤ 601024) (hns : ns + 2000 ≤ 7293034)
    (next : ∀ (w' : Wd) (T' : Int32), IV w' de x mo ou ad T' (j + 1) → G p l e room_1 s m #[.ref b] below meth c D cy s.heap.size 7 w' (kc + 40) (ns + 2000) 1745 [(0, .ref b), (1, .ref x), (2, .ref mo), (3, .ref ou), (4, .int (nI (6 * j)))] [] Q) : G p l e room_1 s m #[.ref b] below meth c D cy s.heap.size 7 w kc ns 216 [(0, .ref b), (1, .ref x), (2, .ref mo), (3, .ref ou), (4, .int (nI (6 * j)))] [] Q := by
  obtain ⟨P, hc, hp⟩ := step_rain de hi (show j < 512 by omega) (xs (6 * j + 1)) (xs (6 * j + 2)) (xs (6 * j + 3))
  refine g_aload_n C dL_216 rfl ?_
  refine g_aload_n C dL_217 rfl ?_
  refine g_iload C dL_218 rfl ?_
  refine g_iconst C 1 dL_220 (by rfl) ?_
  refine g_iadd C dL_221 ?_
  refine g_sld C hX hb (6 * j + 1) (nI_ad (6 * j) 1) (by omega) (by omega) dL_222 ?_
  refine g_aload_n C dL_223 rfl ?_
  refine g_iload C dL_224 rfl ?_
  refine g_iconst C 2 dL_226 (by rfl) ?_
  refine g_iadd C dL_227 ?_
  refine g_sld C hX hb (6 * j + 2) (nI_ad (6 * j) 2) (by omega) (by omega) dL_228 ?_
  refine g_aload_n C dL_229 rfl ?_
  refine g_iload C dL_230 rfl ?_
  refine g_iconst C 3 dL_232 (by rfl) ?_
  refine g_iadd C dL_233 ?_
  refine g_sld C hX hb (6 * j + 3) (nI_ad (6 * j) 3) (by omega) (by omega) dL_234 ?_
  refine g_aload_n C dL_235 rfl ?_
  refine g_callH C mt_L_rain [.ref x, .int (xs (6 * j + 1)), .int (xs (6 * j + 2)), .int (xs (6 * j + 3)), .ref ou] hc hN k_371 rfl rfl (Nat.le_of_ble_eq_true rfl) (by decide) (by decide) (by omega) (by omega) dL_236 (fun r2 w2 hq => ?_)
  obtain ⟨k, rfl, hm2, P2, hc2, hp2⟩ := hp r2 w2 hq
  refine g_istore C dL_239 (by decide) ?_
  refine g_aload_n C dL_241 rfl ?_
  refine g_aload_n C dL_242 rfl ?_
  refine g_iload C dL_243 rfl ?_
  refine g_iconst C 1 dL_245 (by rfl) ?_
  refine g_iadd C dL_246 ?_
  refine g_sld C hX hb (6 * j + 1) (nI_ad (6 * j) 1) (by omega) (by omega) dL_247 ?_
  refine g_aload_n C dL_248 rfl ?_
  refine g_iload C dL_249 rfl ?_
  refine g_iconst C 2 dL_251 (by rfl) ?_
  refine g_iadd C dL_252 ?_
  refine g_sld C hX hb (6 * j + 2) (nI_ad (6 * j) 2) (by omega) (by omega) dL_253 ?_
  refine g_aload_n C dL_254 rfl ?_
  refine g_iload C dL_255 rfl ?_
  refine g_iconst C 3 dL_257 (by rfl) ?_
  refine g_iadd C dL_258 ?_
  refine g_sld C hX hb (6 * j + 3) (nI_ad (6 * j) 3) (by omega) (by omega) dL_259 ?_
  refine g_callV C cls_11 12 mt_X10_rain [.int (xs (6 * j + 1)), .int (xs (6 * j + 2)), .int (xs (6 * j + 3))] hc2 hm2 (by decide) k_1021 rfl rfl (Nat.le_of_ble_eq_true rfl) (by decide) (by decide) (by omega) (by omega) dL_260 (fun r3 w3 hq3 => ?_)
  obtain ⟨v, rfl, hi3, hJ⟩ := hp2 r3 w3 hq3
  refine g_istore C dL_263 (by decide) ?_
  refine g_aload_n C dL_265 rfl ?_
  refine g_callV C cls_11 12 mt_X10_thrown [] (iv_thrown de hi3) hi3.1.1 (by decide) k_1006 rfl rfl (Nat.le_of_ble_eq_true rfl) (by decide) (by decide) (by omega) (by omega) dL_266 (fun r4 w4 hq4 => ?_)
  obtain ⟨rfl, rfl⟩ := hq4
  refine g_iload C dL_269 rfl ?_
  refine g_icmp_eq C 276 dL_271 (by decide) (fun _ => ?_) (fun h => absurd rfl h)
  refine g_iload C dL_276 rfl ?_
  refine g_if_ne C 293 dL_278 (by decide) (fun _ => ?_) (fun h => ?_)
  · exact g_goto C 1745 dL_293 (by decide) (g_lv2 [(0, .ref b), (1, .ref x), (2, .ref mo), (3, .ref ou), (4, .int (nI (6 * j)))] rfl (g_wid (kc + 40) (ns + 2000) (by omega) (by omega) (next _ _ hi3)))
  · have h0 : k = 0 := h
    refine g_aload_n C dL_281 rfl ?_
    refine g_iconst C 0 dL_282 (by rfl) ?_
    refine g_lald C 2994 hi3.2.1 rfl (show vp_in (nI 0) _ by rw [hi3.2.2.1]; exact nI_vp (by omega) (by omega)) dL_283 ?_
    rw [show (0 : Int32).toNatClampNeg = 0 by decide, hJ h0]
    refine g_iload C dL_284 rfl ?_
    refine g_i2l C dL_286 ?_
    refine g_lcmp C dL_287 ?_
    rw [lg_cmp_self]
    refine g_if_eq C 293 dL_288 (by decide) (fun _ => ?_) (fun h => absurd rfl h)
    exact g_goto C 1745 dL_293 (by decide) (g_lv2 [(0, .ref b), (1, .ref x), (2, .ref mo), (3, .ref ou), (4, .int (nI (6 * j)))] rfl (g_wid (kc + 40) (ns + 2000) (by omega) (by omega) (next _ _ hi3)))
set_option maxHeartbeats 1000000 in
set_option maxRecDepth 100000 in
theorem case_pass (C : Cx p l room_1 s m #[.ref b] meth c D cy s.heap.size code "RainIndexLaw" 7 ret 11 446 601024 7293034 de) (hN : NCS s) (hX : va_X b L xs s s.heap) (hb : b < s.heap.size) (hL : L ≤ 3072) (hj : 6 * j + 6 ≤ L) (hi : IV w de x mo ou ad T j) (hkc : kc + 40 ≤ 601024) (hns : ns + 2000 ≤ 7293034)
    (next : ∀ (w' : Wd) (T' : Int32), IV w' de x mo ou ad T' (j + 1) → G p l e room_1 s m #[.ref b] below meth c D cy s.heap.size 7 w' (kc + 40) (ns + 2000) 1745 [(0, .ref b), (1, .ref x), (2, .ref mo), (3, .ref ou), (4, .int (nI (6 * j)))] [] Q) : G p l e room_1 s m #[.ref b] below meth c D cy s.heap.size 7 w kc ns 296 [(0, .ref b), (1, .ref x), (2, .ref mo), (3, .ref ou), (4, .int (nI (6 * j)))] [] Q := by
  obtain ⟨P, hc, hp⟩ := step_pass de hi (show j < 512 by omega) (xs (6 * j + 1))
  refine g_aload_n C dL_296 rfl ?_
  refine g_aload_n C dL_297 rfl ?_
  refine g_iload C dL_298 rfl ?_
  refine g_iconst C 1 dL_300 (by rfl) ?_
  refine g_iadd C dL_301 ?_
  refine g_sld C hX hb (6 * j + 1) (nI_ad (6 * j) 1) (by omega) (by omega) dL_302 ?_
  refine g_aload_n C dL_303 rfl ?_
  refine g_callH C mt_L_pass [.ref x, .int (xs (6 * j + 1)), .ref ou] hc hN k_448 rfl rfl (Nat.le_of_ble_eq_true rfl) (by decide) (by decide) (by omega) (by omega) dL_304 (fun r2 w2 hq => ?_)
  obtain ⟨k, rfl, hm2, P2, hc2, hp2⟩ := hp r2 w2 hq
  refine g_istore C dL_307 (by decide) ?_
  refine g_aload_n C dL_309 rfl ?_
  refine g_aload_n C dL_310 rfl ?_
  refine g_iload C dL_311 rfl ?_
  refine g_iconst C 1 dL_313 (by rfl) ?_
  refine g_iadd C dL_314 ?_
  refine g_sld C hX hb (6 * j + 1) (nI_ad (6 * j) 1) (by omega) (by omega) dL_315 ?_
  refine g_callV C cls_11 12 mt_X10_pass [.int (xs (6 * j + 1))] hc2 hm2 (by decide) k_1029 rfl rfl (Nat.le_of_ble_eq_true rfl) (by decide) (by decide) (by omega) (by omega) dL_316 (fun r3 w3 hq3 => ?_)
  obtain ⟨v, rfl, hi3, hJ⟩ := hp2 r3 w3 hq3
  refine g_istore C dL_319 (by decide) ?_
  refine g_aload_n C dL_321 rfl ?_
  refine g_callV C cls_11 12 mt_X10_thrown [] (iv_thrown de hi3) hi3.1.1 (by decide) k_1006 rfl rfl (Nat.le_of_ble_eq_true rfl) (by decide) (by decide) (by omega) (by omega) dL_322 (fun r4 w4 hq4 => ?_)
  obtain ⟨rfl, rfl⟩ := hq4
  refine g_iload C dL_325 rfl ?_
  refine g_icmp_eq C 332 dL_327 (by decide) (fun _ => ?_) (fun h => absurd rfl h)
  refine g_iload C dL_332 rfl ?_
  refine g_if_ne C 349 dL_334 (by decide) (fun _ => ?_) (fun h => ?_)
  · exact g_goto C 1745 dL_349 (by decide) (g_lv2 [(0, .ref b), (1, .ref x), (2, .ref mo), (3, .ref ou), (4, .int (nI (6 * j)))] rfl (g_wid (kc + 40) (ns + 2000) (by omega) (by omega) (next _ _ hi3)))
  · have h0 : k = 0 := h
    refine g_aload_n C dL_337 rfl ?_
    refine g_iconst C 0 dL_338 (by rfl) ?_
    refine g_lald C 2994 hi3.2.1 rfl (show vp_in (nI 0) _ by rw [hi3.2.2.1]; exact nI_vp (by omega) (by omega)) dL_339 ?_
    rw [show (0 : Int32).toNatClampNeg = 0 by decide, hJ h0]
    refine g_iload C dL_340 rfl ?_
    refine g_i2l C dL_342 ?_
    refine g_lcmp C dL_343 ?_
    rw [lg_cmp_self]
    refine g_if_eq C 349 dL_344 (by decide) (fun _ => ?_) (fun h => absurd rfl h)
    exact g_goto C 1745 dL_349 (by decide) (g_lv2 [(0, .ref b), (1, .ref x), (2, .ref mo), (3, .ref ou), (4, .int (nI (6 * j)))] rfl (g_wid (kc + 40) (ns + 2000) (by omega) (by omega) (next _ _ hi3)))
set_option maxHeartbeats 1000000 in
set_option maxRecDepth 100000 in
theorem case_phase (C : Cx p l room_1 s m #[.ref b] meth c D cy s.heap.size code "RainIndexLaw" 7 ret 11 446 601024 7293034 de) (hN : NCS s) (hX : va_X b L xs s s.heap) (hb : b < s.heap.size) (hL : L ≤ 3072) (hj : 6 * j + 6 ≤ L) (hi : IV w de x mo ou ad T j) (hkc : kc + 40 ≤ 601024) (hns : ns + 2000 ≤ 7293034)
    (next : ∀ (w' : Wd) (T' : Int32), IV w' de x mo ou ad T' (j + 1) → G p l e room_1 s m #[.ref b] below meth c D cy s.heap.size 7 w' (kc + 40) (ns + 2000) 1745 [(0, .ref b), (1, .ref x), (2, .ref mo), (3, .ref ou), (4, .int (nI (6 * j)))] [] Q) : G p l e room_1 s m #[.ref b] below meth c D cy s.heap.size 7 w kc ns 352 [(0, .ref b), (1, .ref x), (2, .ref mo), (3, .ref ou), (4, .int (nI (6 * j)))] [] Q := by
  obtain ⟨dB, hB⟩ : ∃ dB : Bool, dB = !decide (xs (6 * j + 2) = 0) := ⟨_, rfl⟩
  obtain ⟨P, hc, hp⟩ := step_phase de hi (show j < 512 by omega) (xs (6 * j + 1)) dB (xs (6 * j + 3)) (xs (6 * j + 4)) (xs (6 * j + 5))
  refine g_aload_n C dL_352 rfl ?_
  refine g_aload_n C dL_353 rfl ?_
  refine g_iload C dL_354 rfl ?_
  refine g_iconst C 1 dL_356 (by rfl) ?_
  refine g_iadd C dL_357 ?_
  refine g_sld C hX hb (6 * j + 1) (nI_ad (6 * j) 1) (by omega) (by omega) dL_358 ?_
  refine g_cutS (pc' := 373) (.int (bI dB)) ?_ (fun j9 => ?_)
  rotate_left
  · refine g_aload_n C dL_359 rfl ?_
    refine g_iload C dL_360 rfl ?_
    refine g_iconst C 2 dL_362 (by rfl) ?_
    refine g_iadd C dL_363 ?_
    refine g_sld C hX hb (6 * j + 2) (nI_ad (6 * j) 2) (by omega) (by omega) dL_364 ?_
    refine g_if_eq C 372 dL_365 (by decide) (fun h => ?_) (fun h => ?_)
    · refine g_iconst C 0 dL_372 (by rfl) ?_
      exact g_eq rfl (congrArg (fun v => Value.int v :: _) (show (0 : Int32) = bI dB by rw [hB, decide_eq_true h]; rfl)) rfl j9
    · refine g_iconst C 1 dL_368 (by rfl) ?_
      refine g_goto C 373 dL_369 (by decide) ?_
      exact g_eq rfl (congrArg (fun v => Value.int v :: _) (show (1 : Int32) = bI dB by rw [hB, decide_eq_false h]; rfl)) rfl j9
  refine g_aload_n C dL_373 rfl ?_
  refine g_iload C dL_374 rfl ?_
  refine g_iconst C 3 dL_376 (by rfl) ?_
  refine g_iadd C dL_377 ?_
  refine g_sld C hX hb (6 * j + 3) (nI_ad (6 * j) 3) (by omega) (by omega) dL_378 ?_
  refine g_aload_n C dL_379 rfl ?_
  refine g_iload C dL_380 rfl ?_
  refine g_iconst C 4 dL_382 (by rfl) ?_
  refine g_iadd C dL_383 ?_
  refine g_sld C hX hb (6 * j + 4) (nI_ad (6 * j) 4) (by omega) (by omega) dL_384 ?_
  refine g_aload_n C dL_385 rfl ?_
  refine g_iload C dL_386 rfl ?_
  refine g_iconst C 5 dL_388 (by rfl) ?_
  refine g_iadd C dL_389 ?_
  refine g_sld C hX hb (6 * j + 5) (nI_ad (6 * j) 5) (by omega) (by omega) dL_390 ?_
  refine g_aload_n C dL_391 rfl ?_
  refine g_callH C mt_L_phase [.ref x, .int (xs (6 * j + 1)), .int (bI dB), .int (xs (6 * j + 3)), .int (xs (6 * j + 4)), .int (xs (6 * j + 5)), .ref ou] hc hN k_457 rfl rfl (Nat.le_of_ble_eq_true rfl) (by decide) (by decide) (by omega) (by omega) dL_392 (fun r2 w2 hq => ?_)
  obtain ⟨k, rfl, hm2, P2, hc2, hp2⟩ := hp r2 w2 hq
  refine g_istore C dL_395 (by decide) ?_
  refine g_aload_n C dL_397 rfl ?_
  refine g_aload_n C dL_398 rfl ?_
  refine g_iload C dL_399 rfl ?_
  refine g_iconst C 1 dL_401 (by rfl) ?_
  refine g_iadd C dL_402 ?_
  refine g_sld C hX hb (6 * j + 1) (nI_ad (6 * j) 1) (by omega) (by omega) dL_403 ?_
  refine g_cutS (pc' := 418) (.int (bI dB)) ?_ (fun j9 => ?_)
  rotate_left
  · refine g_aload_n C dL_404 rfl ?_
    refine g_iload C dL_405 rfl ?_
    refine g_iconst C 2 dL_407 (by rfl) ?_
    refine g_iadd C dL_408 ?_
    refine g_sld C hX hb (6 * j + 2) (nI_ad (6 * j) 2) (by omega) (by omega) dL_409 ?_
    refine g_if_eq C 417 dL_410 (by decide) (fun h => ?_) (fun h => ?_)
    · refine g_iconst C 0 dL_417 (by rfl) ?_
      exact g_eq rfl (congrArg (fun v => Value.int v :: _) (show (0 : Int32) = bI dB by rw [hB, decide_eq_true h]; rfl)) rfl j9
    · refine g_iconst C 1 dL_413 (by rfl) ?_
      refine g_goto C 418 dL_414 (by decide) ?_
      exact g_eq rfl (congrArg (fun v => Value.int v :: _) (show (1 : Int32) = bI dB by rw [hB, decide_eq_false h]; rfl)) rfl j9
  refine g_aload_n C dL_418 rfl ?_
  refine g_iload C dL_419 rfl ?_
  refine g_iconst C 3 dL_421 (by rfl) ?_
  refine g_iadd C dL_422 ?_
  refine g_sld C hX hb (6 * j + 3) (nI_ad (6 * j) 3) (by omega) (by omega) dL_423 ?_
  refine g_aload_n C dL_424 rfl ?_
  refine g_iload C dL_425 rfl ?_
  refine g_iconst C 4 dL_427 (by rfl) ?_
  refine g_iadd C dL_428 ?_
  refine g_sld C hX hb (6 * j + 4) (nI_ad (6 * j) 4) (by omega) (by omega) dL_429 ?_
  refine g_aload_n C dL_430 rfl ?_
  refine g_iload C dL_431 rfl ?_
  refine g_iconst C 5 dL_433 (by rfl) ?_
  refine g_iadd C dL_434 ?_
  refine g_sld C hX hb (6 * j + 5) (nI_ad (6 * j) 5) (by omega) (by omega) dL_435 ?_
  refine g_callV C cls_11 12 mt_X10_phase [.int (xs (6 * j + 1)), .int (bI dB), .int (xs (6 * j + 3)), .int (xs (6 * j + 4)), .int (xs (6 * j + 5))] hc2 hm2 (by decide) k_1068 rfl rfl (Nat.le_of_ble_eq_true rfl) (by decide) (by decide) (by omega) (by omega) dL_436 (fun r3 w3 hq3 => ?_)
  obtain ⟨v, rfl, hi3, hJ⟩ := hp2 r3 w3 hq3
  refine g_istore C dL_439 (by decide) ?_
  refine g_aload_n C dL_441 rfl ?_
  refine g_callV C cls_11 12 mt_X10_thrown [] (iv_thrown de hi3) hi3.1.1 (by decide) k_1006 rfl rfl (Nat.le_of_ble_eq_true rfl) (by decide) (by decide) (by omega) (by omega) dL_442 (fun r4 w4 hq4 => ?_)
  obtain ⟨rfl, rfl⟩ := hq4
  refine g_iload C dL_445 rfl ?_
  refine g_icmp_eq C 452 dL_447 (by decide) (fun _ => ?_) (fun h => absurd rfl h)
  refine g_iload C dL_452 rfl ?_
  refine g_if_ne C 469 dL_454 (by decide) (fun _ => ?_) (fun h => ?_)
  · exact g_goto C 1745 dL_469 (by decide) (g_lv2 [(0, .ref b), (1, .ref x), (2, .ref mo), (3, .ref ou), (4, .int (nI (6 * j)))] rfl (g_wid (kc + 40) (ns + 2000) (by omega) (by omega) (next _ _ hi3)))
  · have h0 : k = 0 := h
    refine g_aload_n C dL_457 rfl ?_
    refine g_iconst C 0 dL_458 (by rfl) ?_
    refine g_lald C 2994 hi3.2.1 rfl (show vp_in (nI 0) _ by rw [hi3.2.2.1]; exact nI_vp (by omega) (by omega)) dL_459 ?_
    rw [show (0 : Int32).toNatClampNeg = 0 by decide, hJ h0]
    refine g_iload C dL_460 rfl ?_
    refine g_i2l C dL_462 ?_
    refine g_lcmp C dL_463 ?_
    rw [lg_cmp_self]
    refine g_if_eq C 469 dL_464 (by decide) (fun _ => ?_) (fun h => absurd rfl h)
    exact g_goto C 1745 dL_469 (by decide) (g_lv2 [(0, .ref b), (1, .ref x), (2, .ref mo), (3, .ref ou), (4, .int (nI (6 * j)))] rfl (g_wid (kc + 40) (ns + 2000) (by omega) (by omega) (next _ _ hi3)))
set_option maxHeartbeats 1000000 in
set_option maxRecDepth 100000 in
theorem case_product (C : Cx p l room_1 s m #[.ref b] meth c D cy s.heap.size code "RainIndexLaw" 7 ret 11 446 601024 7293034 de) (hN : NCS s) (hX : va_X b L xs s s.heap) (hb : b < s.heap.size) (hL : L ≤ 3072) (hj : 6 * j + 6 ≤ L) (hi : IV w de x mo ou ad T j) (hkc : kc + 40 ≤ 601024) (hns : ns + 2000 ≤ 7293034)
    (next : ∀ (w' : Wd) (T' : Int32), IV w' de x mo ou ad T' (j + 1) → G p l e room_1 s m #[.ref b] below meth c D cy s.heap.size 7 w' (kc + 40) (ns + 2000) 1745 [(0, .ref b), (1, .ref x), (2, .ref mo), (3, .ref ou), (4, .int (nI (6 * j)))] [] Q) : G p l e room_1 s m #[.ref b] below meth c D cy s.heap.size 7 w kc ns 472 [(0, .ref b), (1, .ref x), (2, .ref mo), (3, .ref ou), (4, .int (nI (6 * j)))] [] Q := by
  obtain ⟨P, hc, hp⟩ := step_product de hi (show j < 512 by omega) (xs (6 * j + 1))
  refine g_aload_n C dL_472 rfl ?_
  refine g_aload_n C dL_473 rfl ?_
  refine g_iload C dL_474 rfl ?_
  refine g_iconst C 1 dL_476 (by rfl) ?_
  refine g_iadd C dL_477 ?_
  refine g_sld C hX hb (6 * j + 1) (nI_ad (6 * j) 1) (by omega) (by omega) dL_478 ?_
  refine g_aload_n C dL_479 rfl ?_
  refine g_callH C mt_L_product [.ref x, .int (xs (6 * j + 1)), .ref ou] hc hN k_490 rfl rfl (Nat.le_of_ble_eq_true rfl) (by decide) (by decide) (by omega) (by omega) dL_480 (fun r2 w2 hq => ?_)
  obtain ⟨k, rfl, hm2, P2, hc2, hp2⟩ := hp r2 w2 hq
  refine g_istore C dL_483 (by decide) ?_
  refine g_aload_n C dL_485 rfl ?_
  refine g_aload_n C dL_486 rfl ?_
  refine g_iload C dL_487 rfl ?_
  refine g_iconst C 1 dL_489 (by rfl) ?_
  refine g_iadd C dL_490 ?_
  refine g_sld C hX hb (6 * j + 1) (nI_ad (6 * j) 1) (by omega) (by omega) dL_491 ?_
  refine g_callV C cls_11 12 mt_X10_product [.int (xs (6 * j + 1))] hc2 hm2 (by decide) k_1072 rfl rfl (Nat.le_of_ble_eq_true rfl) (by decide) (by decide) (by omega) (by omega) dL_492 (fun r3 w3 hq3 => ?_)
  obtain ⟨v, rfl, hi3, hJ⟩ := hp2 r3 w3 hq3
  refine g_istore C dL_495 (by decide) ?_
  refine g_aload_n C dL_497 rfl ?_
  refine g_callV C cls_11 12 mt_X10_thrown [] (iv_thrown de hi3) hi3.1.1 (by decide) k_1006 rfl rfl (Nat.le_of_ble_eq_true rfl) (by decide) (by decide) (by omega) (by omega) dL_498 (fun r4 w4 hq4 => ?_)
  obtain ⟨rfl, rfl⟩ := hq4
  refine g_iload C dL_501 rfl ?_
  refine g_icmp_eq C 508 dL_503 (by decide) (fun _ => ?_) (fun h => absurd rfl h)
  refine g_iload C dL_508 rfl ?_
  refine g_if_ne C 525 dL_510 (by decide) (fun _ => ?_) (fun h => ?_)
  · exact g_goto C 1745 dL_525 (by decide) (g_lv2 [(0, .ref b), (1, .ref x), (2, .ref mo), (3, .ref ou), (4, .int (nI (6 * j)))] rfl (g_wid (kc + 40) (ns + 2000) (by omega) (by omega) (next _ _ hi3)))
  · have h0 : k = 0 := h
    refine g_aload_n C dL_513 rfl ?_
    refine g_iconst C 0 dL_514 (by rfl) ?_
    refine g_lald C 2994 hi3.2.1 rfl (show vp_in (nI 0) _ by rw [hi3.2.2.1]; exact nI_vp (by omega) (by omega)) dL_515 ?_
    rw [show (0 : Int32).toNatClampNeg = 0 by decide, hJ h0]
    refine g_iload C dL_516 rfl ?_
    refine g_i2l C dL_518 ?_
    refine g_lcmp C dL_519 ?_
    rw [lg_cmp_self]
    refine g_if_eq C 525 dL_520 (by decide) (fun _ => ?_) (fun h => absurd rfl h)
    exact g_goto C 1745 dL_525 (by decide) (g_lv2 [(0, .ref b), (1, .ref x), (2, .ref mo), (3, .ref ou), (4, .int (nI (6 * j)))] rfl (g_wid (kc + 40) (ns + 2000) (by omega) (by omega) (next _ _ hi3)))
set_option maxHeartbeats 1000000 in
set_option maxRecDepth 100000 in
theorem case_farm (C : Cx p l room_1 s m #[.ref b] meth c D cy s.heap.size code "RainIndexLaw" 7 ret 11 446 601024 7293034 de) (hN : NCS s) (hX : va_X b L xs s s.heap) (hb : b < s.heap.size) (hL : L ≤ 3072) (hj : 6 * j + 6 ≤ L) (hi : IV w de x mo ou ad T j) (hkc : kc + 40 ≤ 601024) (hns : ns + 2000 ≤ 7293034)
    (next : ∀ (w' : Wd) (T' : Int32), IV w' de x mo ou ad T' (j + 1) → G p l e room_1 s m #[.ref b] below meth c D cy s.heap.size 7 w' (kc + 40) (ns + 2000) 1745 [(0, .ref b), (1, .ref x), (2, .ref mo), (3, .ref ou), (4, .int (nI (6 * j)))] [] Q) : G p l e room_1 s m #[.ref b] below meth c D cy s.heap.size 7 w kc ns 528 [(0, .ref b), (1, .ref x), (2, .ref mo), (3, .ref ou), (4, .int (nI (6 * j)))] [] Q := by
  obtain ⟨P, hc, hp⟩ := step_farm de hi (show j < 512 by omega) (xs (6 * j + 1)) (xs (6 * j + 2))
  refine g_aload_n C dL_528 rfl ?_
  refine g_aload_n C dL_529 rfl ?_
  refine g_iload C dL_530 rfl ?_
  refine g_iconst C 1 dL_532 (by rfl) ?_
  refine g_iadd C dL_533 ?_
  refine g_sld C hX hb (6 * j + 1) (nI_ad (6 * j) 1) (by omega) (by omega) dL_534 ?_
  refine g_aload_n C dL_535 rfl ?_
  refine g_iload C dL_536 rfl ?_
  refine g_iconst C 2 dL_538 (by rfl) ?_
  refine g_iadd C dL_539 ?_
  refine g_sld C hX hb (6 * j + 2) (nI_ad (6 * j) 2) (by omega) (by omega) dL_540 ?_
  refine g_aload_n C dL_541 rfl ?_
  refine g_callH C mt_L_farm [.ref x, .int (xs (6 * j + 1)), .int (xs (6 * j + 2)), .ref ou] hc hN k_506 rfl rfl (Nat.le_of_ble_eq_true rfl) (by decide) (by decide) (by omega) (by omega) dL_542 (fun r2 w2 hq => ?_)
  obtain ⟨k, rfl, hm2, P2, hc2, hp2⟩ := hp r2 w2 hq
  refine g_istore C dL_545 (by decide) ?_
  refine g_aload_n C dL_547 rfl ?_
  refine g_aload_n C dL_548 rfl ?_
  refine g_iload C dL_549 rfl ?_
  refine g_iconst C 1 dL_551 (by rfl) ?_
  refine g_iadd C dL_552 ?_
  refine g_sld C hX hb (6 * j + 1) (nI_ad (6 * j) 1) (by omega) (by omega) dL_553 ?_
  refine g_aload_n C dL_554 rfl ?_
  refine g_iload C dL_555 rfl ?_
  refine g_iconst C 2 dL_557 (by rfl) ?_
  refine g_iadd C dL_558 ?_
  refine g_sld C hX hb (6 * j + 2) (nI_ad (6 * j) 2) (by omega) (by omega) dL_559 ?_
  refine g_callV C cls_11 12 mt_X10_farm [.int (xs (6 * j + 1)), .int (xs (6 * j + 2))] hc2 hm2 (by decide) k_1115 rfl rfl (Nat.le_of_ble_eq_true rfl) (by decide) (by decide) (by omega) (by omega) dL_560 (fun r3 w3 hq3 => ?_)
  obtain ⟨v, rfl, hi3, hJ⟩ := hp2 r3 w3 hq3
  refine g_istore C dL_563 (by decide) ?_
  refine g_aload_n C dL_565 rfl ?_
  refine g_callV C cls_11 12 mt_X10_thrown [] (iv_thrown de hi3) hi3.1.1 (by decide) k_1006 rfl rfl (Nat.le_of_ble_eq_true rfl) (by decide) (by decide) (by omega) (by omega) dL_566 (fun r4 w4 hq4 => ?_)
  obtain ⟨rfl, rfl⟩ := hq4
  refine g_iload C dL_569 rfl ?_
  refine g_icmp_eq C 576 dL_571 (by decide) (fun _ => ?_) (fun h => absurd rfl h)
  refine g_iload C dL_576 rfl ?_
  refine g_if_ne C 593 dL_578 (by decide) (fun _ => ?_) (fun h => ?_)
  · exact g_goto C 1745 dL_593 (by decide) (g_lv2 [(0, .ref b), (1, .ref x), (2, .ref mo), (3, .ref ou), (4, .int (nI (6 * j)))] rfl (g_wid (kc + 40) (ns + 2000) (by omega) (by omega) (next _ _ hi3)))
  · have h0 : k = 0 := h
    refine g_aload_n C dL_581 rfl ?_
    refine g_iconst C 0 dL_582 (by rfl) ?_
    refine g_lald C 2994 hi3.2.1 rfl (show vp_in (nI 0) _ by rw [hi3.2.2.1]; exact nI_vp (by omega) (by omega)) dL_583 ?_
    rw [show (0 : Int32).toNatClampNeg = 0 by decide, hJ h0]
    refine g_iload C dL_584 rfl ?_
    refine g_i2l C dL_586 ?_
    refine g_lcmp C dL_587 ?_
    rw [lg_cmp_self]
    refine g_if_eq C 593 dL_588 (by decide) (fun _ => ?_) (fun h => absurd rfl h)
    exact g_goto C 1745 dL_593 (by decide) (g_lv2 [(0, .ref b), (1, .ref x), (2, .ref mo), (3, .ref ou), (4, .int (nI (6 * j)))] rfl (g_wid (kc + 40) (ns + 2000) (by omega) (by omega) (next _ _ hi3)))
set_option maxHeartbeats 1000000 in
set_option maxRecDepth 100000 in
theorem case_lend (C : Cx p l room_1 s m #[.ref b] meth c D cy s.heap.size code "RainIndexLaw" 7 ret 11 446 601024 7293034 de) (hN : NCS s) (hX : va_X b L xs s s.heap) (hb : b < s.heap.size) (hL : L ≤ 3072) (hj : 6 * j + 6 ≤ L) (hi : IV w de x mo ou ad T j) (hkc : kc + 40 ≤ 601024) (hns : ns + 2000 ≤ 7293034)
    (next : ∀ (w' : Wd) (T' : Int32), IV w' de x mo ou ad T' (j + 1) → G p l e room_1 s m #[.ref b] below meth c D cy s.heap.size 7 w' (kc + 40) (ns + 2000) 1745 [(0, .ref b), (1, .ref x), (2, .ref mo), (3, .ref ou), (4, .int (nI (6 * j)))] [] Q) : G p l e room_1 s m #[.ref b] below meth c D cy s.heap.size 7 w kc ns 596 [(0, .ref b), (1, .ref x), (2, .ref mo), (3, .ref ou), (4, .int (nI (6 * j)))] [] Q := by
  obtain ⟨P, hc, hp⟩ := step_lend de hi (show j < 512 by omega) (xs (6 * j + 1)) (xs (6 * j + 2))
  refine g_aload_n C dL_596 rfl ?_
  refine g_aload_n C dL_597 rfl ?_
  refine g_iload C dL_598 rfl ?_
  refine g_iconst C 1 dL_600 (by rfl) ?_
  refine g_iadd C dL_601 ?_
  refine g_sld C hX hb (6 * j + 1) (nI_ad (6 * j) 1) (by omega) (by omega) dL_602 ?_
  refine g_aload_n C dL_603 rfl ?_
  refine g_iload C dL_604 rfl ?_
  refine g_iconst C 2 dL_606 (by rfl) ?_
  refine g_iadd C dL_607 ?_
  refine g_sld C hX hb (6 * j + 2) (nI_ad (6 * j) 2) (by omega) (by omega) dL_608 ?_
  refine g_aload_n C dL_609 rfl ?_
  refine g_callH C mt_L_lend [.ref x, .int (xs (6 * j + 1)), .int (xs (6 * j + 2)), .ref ou] hc hN k_562 rfl rfl (Nat.le_of_ble_eq_true rfl) (by decide) (by decide) (by omega) (by omega) dL_610 (fun r2 w2 hq => ?_)
  obtain ⟨k, rfl, hm2, P2, hc2, hp2⟩ := hp r2 w2 hq
  refine g_istore C dL_613 (by decide) ?_
  refine g_aload_n C dL_615 rfl ?_
  refine g_aload_n C dL_616 rfl ?_
  refine g_iload C dL_617 rfl ?_
  refine g_iconst C 1 dL_619 (by rfl) ?_
  refine g_iadd C dL_620 ?_
  refine g_sld C hX hb (6 * j + 1) (nI_ad (6 * j) 1) (by omega) (by omega) dL_621 ?_
  refine g_aload_n C dL_622 rfl ?_
  refine g_iload C dL_623 rfl ?_
  refine g_iconst C 2 dL_625 (by rfl) ?_
  refine g_iadd C dL_626 ?_
  refine g_sld C hX hb (6 * j + 2) (nI_ad (6 * j) 2) (by omega) (by omega) dL_627 ?_
  refine g_callV C cls_11 12 mt_X10_lend [.int (xs (6 * j + 1)), .int (xs (6 * j + 2))] hc2 hm2 (by decide) k_1119 rfl rfl (Nat.le_of_ble_eq_true rfl) (by decide) (by decide) (by omega) (by omega) dL_628 (fun r3 w3 hq3 => ?_)
  obtain ⟨v, rfl, hi3, hJ⟩ := hp2 r3 w3 hq3
  refine g_istore C dL_631 (by decide) ?_
  refine g_aload_n C dL_633 rfl ?_
  refine g_callV C cls_11 12 mt_X10_thrown [] (iv_thrown de hi3) hi3.1.1 (by decide) k_1006 rfl rfl (Nat.le_of_ble_eq_true rfl) (by decide) (by decide) (by omega) (by omega) dL_634 (fun r4 w4 hq4 => ?_)
  obtain ⟨rfl, rfl⟩ := hq4
  refine g_iload C dL_637 rfl ?_
  refine g_icmp_eq C 644 dL_639 (by decide) (fun _ => ?_) (fun h => absurd rfl h)
  refine g_iload C dL_644 rfl ?_
  refine g_if_ne C 661 dL_646 (by decide) (fun _ => ?_) (fun h => ?_)
  · exact g_goto C 1745 dL_661 (by decide) (g_lv2 [(0, .ref b), (1, .ref x), (2, .ref mo), (3, .ref ou), (4, .int (nI (6 * j)))] rfl (g_wid (kc + 40) (ns + 2000) (by omega) (by omega) (next _ _ hi3)))
  · have h0 : k = 0 := h
    refine g_aload_n C dL_649 rfl ?_
    refine g_iconst C 0 dL_650 (by rfl) ?_
    refine g_lald C 2994 hi3.2.1 rfl (show vp_in (nI 0) _ by rw [hi3.2.2.1]; exact nI_vp (by omega) (by omega)) dL_651 ?_
    rw [show (0 : Int32).toNatClampNeg = 0 by decide, hJ h0]
    refine g_iload C dL_652 rfl ?_
    refine g_i2l C dL_654 ?_
    refine g_lcmp C dL_655 ?_
    rw [lg_cmp_self]
    refine g_if_eq C 661 dL_656 (by decide) (fun _ => ?_) (fun h => absurd rfl h)
    exact g_goto C 1745 dL_661 (by decide) (g_lv2 [(0, .ref b), (1, .ref x), (2, .ref mo), (3, .ref ou), (4, .int (nI (6 * j)))] rfl (g_wid (kc + 40) (ns + 2000) (by omega) (by omega) (next _ _ hi3)))
set_option maxHeartbeats 1000000 in
set_option maxRecDepth 100000 in
theorem case_loading (C : Cx p l room_1 s m #[.ref b] meth c D cy s.heap.size code "RainIndexLaw" 7 ret 11 446 601024 7293034 de) (hN : NCS s) (hX : va_X b L xs s s.heap) (hb : b < s.heap.size) (hL : L ≤ 3072) (hj : 6 * j + 6 ≤ L) (hi : IV w de x mo ou ad T j) (hkc : kc + 40 ≤ 601024) (hns : ns + 2000 ≤ 7293034)
    (next : ∀ (w' : Wd) (T' : Int32), IV w' de x mo ou ad T' (j + 1) → G p l e room_1 s m #[.ref b] below meth c D cy s.heap.size 7 w' (kc + 40) (ns + 2000) 1745 [(0, .ref b), (1, .ref x), (2, .ref mo), (3, .ref ou), (4, .int (nI (6 * j)))] [] Q) : G p l e room_1 s m #[.ref b] below meth c D cy s.heap.size 7 w kc ns 664 [(0, .ref b), (1, .ref x), (2, .ref mo), (3, .ref ou), (4, .int (nI (6 * j)))] [] Q := by
  obtain ⟨P, hc, hp⟩ := step_loading de hi (show j < 512 by omega) (xs (6 * j + 1))
  refine g_aload_n C dL_664 rfl ?_
  refine g_aload_n C dL_665 rfl ?_
  refine g_iload C dL_666 rfl ?_
  refine g_iconst C 1 dL_668 (by rfl) ?_
  refine g_iadd C dL_669 ?_
  refine g_sld C hX hb (6 * j + 1) (nI_ad (6 * j) 1) (by omega) (by omega) dL_670 ?_
  refine g_aload_n C dL_671 rfl ?_
  refine g_callH C mt_L_loading [.ref x, .int (xs (6 * j + 1)), .ref ou] hc hN k_577 rfl rfl (Nat.le_of_ble_eq_true rfl) (by decide) (by decide) (by omega) (by omega) dL_672 (fun r2 w2 hq => ?_)
  obtain ⟨k, rfl, hm2, P2, hc2, hp2⟩ := hp r2 w2 hq
  refine g_istore C dL_675 (by decide) ?_
  refine g_aload_n C dL_677 rfl ?_
  refine g_aload_n C dL_678 rfl ?_
  refine g_iload C dL_679 rfl ?_
  refine g_iconst C 1 dL_681 (by rfl) ?_
  refine g_iadd C dL_682 ?_
  refine g_sld C hX hb (6 * j + 1) (nI_ad (6 * j) 1) (by omega) (by omega) dL_683 ?_
  refine g_callV C cls_11 12 mt_X10_loading [.int (xs (6 * j + 1))] hc2 hm2 (by decide) k_1128 rfl rfl (Nat.le_of_ble_eq_true rfl) (by decide) (by decide) (by omega) (by omega) dL_684 (fun r3 w3 hq3 => ?_)
  obtain ⟨v, rfl, hi3, hJ⟩ := hp2 r3 w3 hq3
  refine g_istore C dL_687 (by decide) ?_
  refine g_aload_n C dL_689 rfl ?_
  refine g_callV C cls_11 12 mt_X10_thrown [] (iv_thrown de hi3) hi3.1.1 (by decide) k_1006 rfl rfl (Nat.le_of_ble_eq_true rfl) (by decide) (by decide) (by omega) (by omega) dL_690 (fun r4 w4 hq4 => ?_)
  obtain ⟨rfl, rfl⟩ := hq4
  refine g_iload C dL_693 rfl ?_
  refine g_icmp_eq C 700 dL_695 (by decide) (fun _ => ?_) (fun h => absurd rfl h)
  refine g_iload C dL_700 rfl ?_
  refine g_if_ne C 717 dL_702 (by decide) (fun _ => ?_) (fun h => ?_)
  · exact g_goto C 1745 dL_717 (by decide) (g_lv2 [(0, .ref b), (1, .ref x), (2, .ref mo), (3, .ref ou), (4, .int (nI (6 * j)))] rfl (g_wid (kc + 40) (ns + 2000) (by omega) (by omega) (next _ _ hi3)))
  · have h0 : k = 0 := h
    refine g_aload_n C dL_705 rfl ?_
    refine g_iconst C 0 dL_706 (by rfl) ?_
    refine g_lald C 2994 hi3.2.1 rfl (show vp_in (nI 0) _ by rw [hi3.2.2.1]; exact nI_vp (by omega) (by omega)) dL_707 ?_
    rw [show (0 : Int32).toNatClampNeg = 0 by decide, hJ h0]
    refine g_iload C dL_708 rfl ?_
    refine g_i2l C dL_710 ?_
    refine g_lcmp C dL_711 ?_
    rw [lg_cmp_self]
    refine g_if_eq C 717 dL_712 (by decide) (fun _ => ?_) (fun h => absurd rfl h)
    exact g_goto C 1745 dL_717 (by decide) (g_lv2 [(0, .ref b), (1, .ref x), (2, .ref mo), (3, .ref ou), (4, .int (nI (6 * j)))] rfl (g_wid (kc + 40) (ns + 2000) (by omega) (by omega) (next _ _ hi3)))
set_option maxHeartbeats 1000000 in
set_option maxRecDepth 100000 in
theorem case_layer (C : Cx p l room_1 s m #[.ref b] meth c D cy s.heap.size code "RainIndexLaw" 7 ret 11 446 601024 7293034 de) (hN : NCS s) (hX : va_X b L xs s s.heap) (hb : b < s.heap.size) (hL : L ≤ 3072) (hj : 6 * j + 6 ≤ L) (hi : IV w de x mo ou ad T j) (hkc : kc + 40 ≤ 601024) (hns : ns + 2000 ≤ 7293034)
    (next : ∀ (w' : Wd) (T' : Int32), IV w' de x mo ou ad T' (j + 1) → G p l e room_1 s m #[.ref b] below meth c D cy s.heap.size 7 w' (kc + 40) (ns + 2000) 1745 [(0, .ref b), (1, .ref x), (2, .ref mo), (3, .ref ou), (4, .int (nI (6 * j)))] [] Q) : G p l e room_1 s m #[.ref b] below meth c D cy s.heap.size 7 w kc ns 720 [(0, .ref b), (1, .ref x), (2, .ref mo), (3, .ref ou), (4, .int (nI (6 * j)))] [] Q := by
  obtain ⟨P, hc, hp⟩ := step_layer de hi (show j < 512 by omega) (xs (6 * j + 1)) (xs (6 * j + 2))
  refine g_aload_n C dL_720 rfl ?_
  refine g_aload_n C dL_721 rfl ?_
  refine g_iload C dL_722 rfl ?_
  refine g_iconst C 1 dL_724 (by rfl) ?_
  refine g_iadd C dL_725 ?_
  refine g_sld C hX hb (6 * j + 1) (nI_ad (6 * j) 1) (by omega) (by omega) dL_726 ?_
  refine g_aload_n C dL_727 rfl ?_
  refine g_iload C dL_728 rfl ?_
  refine g_iconst C 2 dL_730 (by rfl) ?_
  refine g_iadd C dL_731 ?_
  refine g_sld C hX hb (6 * j + 2) (nI_ad (6 * j) 2) (by omega) (by omega) dL_732 ?_
  refine g_aload_n C dL_733 rfl ?_
  refine g_callH C mt_L_layer [.ref x, .int (xs (6 * j + 1)), .int (xs (6 * j + 2)), .ref ou] hc hN k_585 rfl rfl (Nat.le_of_ble_eq_true rfl) (by decide) (by decide) (by omega) (by omega) dL_734 (fun r2 w2 hq => ?_)
  obtain ⟨k, rfl, hm2, P2, hc2, hp2⟩ := hp r2 w2 hq
  refine g_istore C dL_737 (by decide) ?_
  refine g_aload_n C dL_739 rfl ?_
  refine g_aload_n C dL_740 rfl ?_
  refine g_iload C dL_741 rfl ?_
  refine g_iconst C 1 dL_743 (by rfl) ?_
  refine g_iadd C dL_744 ?_
  refine g_sld C hX hb (6 * j + 1) (nI_ad (6 * j) 1) (by omega) (by omega) dL_745 ?_
  refine g_aload_n C dL_746 rfl ?_
  refine g_iload C dL_747 rfl ?_
  refine g_iconst C 2 dL_749 (by rfl) ?_
  refine g_iadd C dL_750 ?_
  refine g_sld C hX hb (6 * j + 2) (nI_ad (6 * j) 2) (by omega) (by omega) dL_751 ?_
  refine g_callV C cls_11 12 mt_X10_layer [.int (xs (6 * j + 1)), .int (xs (6 * j + 2))] hc2 hm2 (by decide) k_1132 rfl rfl (Nat.le_of_ble_eq_true rfl) (by decide) (by decide) (by omega) (by omega) dL_752 (fun r3 w3 hq3 => ?_)
  obtain ⟨v, rfl, hi3, hJ⟩ := hp2 r3 w3 hq3
  refine g_istore C dL_755 (by decide) ?_
  refine g_aload_n C dL_757 rfl ?_
  refine g_callV C cls_11 12 mt_X10_thrown [] (iv_thrown de hi3) hi3.1.1 (by decide) k_1006 rfl rfl (Nat.le_of_ble_eq_true rfl) (by decide) (by decide) (by omega) (by omega) dL_758 (fun r4 w4 hq4 => ?_)
  obtain ⟨rfl, rfl⟩ := hq4
  refine g_iload C dL_761 rfl ?_
  refine g_icmp_eq C 768 dL_763 (by decide) (fun _ => ?_) (fun h => absurd rfl h)
  refine g_iload C dL_768 rfl ?_
  refine g_if_ne C 785 dL_770 (by decide) (fun _ => ?_) (fun h => ?_)
  · exact g_goto C 1745 dL_785 (by decide) (g_lv2 [(0, .ref b), (1, .ref x), (2, .ref mo), (3, .ref ou), (4, .int (nI (6 * j)))] rfl (g_wid (kc + 40) (ns + 2000) (by omega) (by omega) (next _ _ hi3)))
  · have h0 : k = 0 := h
    refine g_aload_n C dL_773 rfl ?_
    refine g_iconst C 0 dL_774 (by rfl) ?_
    refine g_lald C 2994 hi3.2.1 rfl (show vp_in (nI 0) _ by rw [hi3.2.2.1]; exact nI_vp (by omega) (by omega)) dL_775 ?_
    rw [show (0 : Int32).toNatClampNeg = 0 by decide, hJ h0]
    refine g_iload C dL_776 rfl ?_
    refine g_i2l C dL_778 ?_
    refine g_lcmp C dL_779 ?_
    rw [lg_cmp_self]
    refine g_if_eq C 785 dL_780 (by decide) (fun _ => ?_) (fun h => absurd rfl h)
    exact g_goto C 1745 dL_785 (by decide) (g_lv2 [(0, .ref b), (1, .ref x), (2, .ref mo), (3, .ref ou), (4, .int (nI (6 * j)))] rfl (g_wid (kc + 40) (ns + 2000) (by omega) (by omega) (next _ _ hi3)))
set_option maxHeartbeats 1000000 in
set_option maxRecDepth 100000 in
theorem case_sell (C : Cx p l room_1 s m #[.ref b] meth c D cy s.heap.size code "RainIndexLaw" 7 ret 11 446 601024 7293034 de) (hN : NCS s) (hX : va_X b L xs s s.heap) (hb : b < s.heap.size) (hL : L ≤ 3072) (hj : 6 * j + 6 ≤ L) (hi : IV w de x mo ou ad T j) (hkc : kc + 40 ≤ 601024) (hns : ns + 2000 ≤ 7293034)
    (next : ∀ (w' : Wd) (T' : Int32), IV w' de x mo ou ad T' (j + 1) → G p l e room_1 s m #[.ref b] below meth c D cy s.heap.size 7 w' (kc + 40) (ns + 2000) 1745 [(0, .ref b), (1, .ref x), (2, .ref mo), (3, .ref ou), (4, .int (nI (6 * j)))] [] Q) : G p l e room_1 s m #[.ref b] below meth c D cy s.heap.size 7 w kc ns 788 [(0, .ref b), (1, .ref x), (2, .ref mo), (3, .ref ou), (4, .int (nI (6 * j)))] [] Q := by
  obtain ⟨P, hc, hp⟩ := step_sell de hi (show j < 512 by omega) (xs (6 * j + 1)) (xs (6 * j + 2)) (xs (6 * j + 3)) (xs (6 * j + 4))
  refine g_aload_n C dL_788 rfl ?_
  refine g_aload_n C dL_789 rfl ?_
  refine g_iload C dL_790 rfl ?_
  refine g_iconst C 1 dL_792 (by rfl) ?_
  refine g_iadd C dL_793 ?_
  refine g_sld C hX hb (6 * j + 1) (nI_ad (6 * j) 1) (by omega) (by omega) dL_794 ?_
  refine g_aload_n C dL_795 rfl ?_
  refine g_iload C dL_796 rfl ?_
  refine g_iconst C 2 dL_798 (by rfl) ?_
  refine g_iadd C dL_799 ?_
  refine g_sld C hX hb (6 * j + 2) (nI_ad (6 * j) 2) (by omega) (by omega) dL_800 ?_
  refine g_aload_n C dL_801 rfl ?_
  refine g_iload C dL_802 rfl ?_
  refine g_iconst C 3 dL_804 (by rfl) ?_
  refine g_iadd C dL_805 ?_
  refine g_sld C hX hb (6 * j + 3) (nI_ad (6 * j) 3) (by omega) (by omega) dL_806 ?_
  refine g_aload_n C dL_807 rfl ?_
  refine g_iload C dL_808 rfl ?_
  refine g_iconst C 4 dL_810 (by rfl) ?_
  refine g_iadd C dL_811 ?_
  refine g_sld C hX hb (6 * j + 4) (nI_ad (6 * j) 4) (by omega) (by omega) dL_812 ?_
  refine g_aload_n C dL_813 rfl ?_
  refine g_callH C mt_L_sell [.ref x, .int (xs (6 * j + 1)), .int (xs (6 * j + 2)), .int (xs (6 * j + 3)), .int (xs (6 * j + 4)), .ref ou] hc hN k_593 rfl rfl (Nat.le_of_ble_eq_true rfl) (by decide) (by decide) (by omega) (by omega) dL_814 (fun r2 w2 hq => ?_)
  obtain ⟨k, rfl, hm2, P2, hc2, hp2⟩ := hp r2 w2 hq
  refine g_istore C dL_817 (by decide) ?_
  refine g_aload_n C dL_819 rfl ?_
  refine g_aload_n C dL_820 rfl ?_
  refine g_iload C dL_821 rfl ?_
  refine g_iconst C 1 dL_823 (by rfl) ?_
  refine g_iadd C dL_824 ?_
  refine g_sld C hX hb (6 * j + 1) (nI_ad (6 * j) 1) (by omega) (by omega) dL_825 ?_
  refine g_aload_n C dL_826 rfl ?_
  refine g_iload C dL_827 rfl ?_
  refine g_iconst C 2 dL_829 (by rfl) ?_
  refine g_iadd C dL_830 ?_
  refine g_sld C hX hb (6 * j + 2) (nI_ad (6 * j) 2) (by omega) (by omega) dL_831 ?_
  refine g_aload_n C dL_832 rfl ?_
  refine g_iload C dL_833 rfl ?_
  refine g_iconst C 3 dL_835 (by rfl) ?_
  refine g_iadd C dL_836 ?_
  refine g_sld C hX hb (6 * j + 3) (nI_ad (6 * j) 3) (by omega) (by omega) dL_837 ?_
  refine g_aload_n C dL_838 rfl ?_
  refine g_iload C dL_839 rfl ?_
  refine g_iconst C 4 dL_841 (by rfl) ?_
  refine g_iadd C dL_842 ?_
  refine g_sld C hX hb (6 * j + 4) (nI_ad (6 * j) 4) (by omega) (by omega) dL_843 ?_
  refine g_callV C cls_11 12 mt_X10_sell [.int (xs (6 * j + 1)), .int (xs (6 * j + 2)), .int (xs (6 * j + 3)), .int (xs (6 * j + 4))] hc2 hm2 (by decide) k_1136 rfl rfl (Nat.le_of_ble_eq_true rfl) (by decide) (by decide) (by omega) (by omega) dL_844 (fun r3 w3 hq3 => ?_)
  obtain ⟨v, rfl, hi3, hJ⟩ := hp2 r3 w3 hq3
  refine g_istore C dL_847 (by decide) ?_
  refine g_aload_n C dL_849 rfl ?_
  refine g_callV C cls_11 12 mt_X10_thrown [] (iv_thrown de hi3) hi3.1.1 (by decide) k_1006 rfl rfl (Nat.le_of_ble_eq_true rfl) (by decide) (by decide) (by omega) (by omega) dL_850 (fun r4 w4 hq4 => ?_)
  obtain ⟨rfl, rfl⟩ := hq4
  refine g_iload C dL_853 rfl ?_
  refine g_icmp_eq C 860 dL_855 (by decide) (fun _ => ?_) (fun h => absurd rfl h)
  refine g_iload C dL_860 rfl ?_
  refine g_if_ne C 877 dL_862 (by decide) (fun _ => ?_) (fun h => ?_)
  · exact g_goto C 1745 dL_877 (by decide) (g_lv2 [(0, .ref b), (1, .ref x), (2, .ref mo), (3, .ref ou), (4, .int (nI (6 * j)))] rfl (g_wid (kc + 40) (ns + 2000) (by omega) (by omega) (next _ _ hi3)))
  · have h0 : k = 0 := h
    refine g_aload_n C dL_865 rfl ?_
    refine g_iconst C 0 dL_866 (by rfl) ?_
    refine g_lald C 2994 hi3.2.1 rfl (show vp_in (nI 0) _ by rw [hi3.2.2.1]; exact nI_vp (by omega) (by omega)) dL_867 ?_
    rw [show (0 : Int32).toNatClampNeg = 0 by decide, hJ h0]
    refine g_iload C dL_868 rfl ?_
    refine g_i2l C dL_870 ?_
    refine g_lcmp C dL_871 ?_
    rw [lg_cmp_self]
    refine g_if_eq C 877 dL_872 (by decide) (fun _ => ?_) (fun h => absurd rfl h)
    exact g_goto C 1745 dL_877 (by decide) (g_lv2 [(0, .ref b), (1, .ref x), (2, .ref mo), (3, .ref ou), (4, .int (nI (6 * j)))] rfl (g_wid (kc + 40) (ns + 2000) (by omega) (by omega) (next _ _ hi3)))
set_option maxHeartbeats 1000000 in
set_option maxRecDepth 100000 in
theorem case_settle (C : Cx p l room_1 s m #[.ref b] meth c D cy s.heap.size code "RainIndexLaw" 7 ret 11 446 601024 7293034 de) (hN : NCS s) (hX : va_X b L xs s s.heap) (hb : b < s.heap.size) (hL : L ≤ 3072) (hj : 6 * j + 6 ≤ L) (hi : IV w de x mo ou ad T j) (hkc : kc + 40 ≤ 601024) (hns : ns + 2000 ≤ 7293034)
    (next : ∀ (w' : Wd) (T' : Int32), IV w' de x mo ou ad T' (j + 1) → G p l e room_1 s m #[.ref b] below meth c D cy s.heap.size 7 w' (kc + 40) (ns + 2000) 1745 [(0, .ref b), (1, .ref x), (2, .ref mo), (3, .ref ou), (4, .int (nI (6 * j)))] [] Q) : G p l e room_1 s m #[.ref b] below meth c D cy s.heap.size 7 w kc ns 880 [(0, .ref b), (1, .ref x), (2, .ref mo), (3, .ref ou), (4, .int (nI (6 * j)))] [] Q := by
  obtain ⟨P, hc, hp⟩ := step_settle de hi (show j < 512 by omega) (xs (6 * j + 1))
  refine g_aload_n C dL_880 rfl ?_
  refine g_aload_n C dL_881 rfl ?_
  refine g_iload C dL_882 rfl ?_
  refine g_iconst C 1 dL_884 (by rfl) ?_
  refine g_iadd C dL_885 ?_
  refine g_sld C hX hb (6 * j + 1) (nI_ad (6 * j) 1) (by omega) (by omega) dL_886 ?_
  refine g_aload_n C dL_887 rfl ?_
  refine g_callH C mt_L_settle [.ref x, .int (xs (6 * j + 1)), .ref ou] hc hN k_738 rfl rfl (Nat.le_of_ble_eq_true rfl) (by decide) (by decide) (by omega) (by omega) dL_888 (fun r2 w2 hq => ?_)
  obtain ⟨k, rfl, hm2, P2, hc2, hp2⟩ := hp r2 w2 hq
  refine g_istore C dL_891 (by decide) ?_
  refine g_aload_n C dL_893 rfl ?_
  refine g_aload_n C dL_894 rfl ?_
  refine g_iload C dL_895 rfl ?_
  refine g_iconst C 1 dL_897 (by rfl) ?_
  refine g_iadd C dL_898 ?_
  refine g_sld C hX hb (6 * j + 1) (nI_ad (6 * j) 1) (by omega) (by omega) dL_899 ?_
  refine g_callV C cls_11 12 mt_X10_settle [.int (xs (6 * j + 1))] hc2 hm2 (by decide) k_1144 rfl rfl (Nat.le_of_ble_eq_true rfl) (by decide) (by decide) (by omega) (by omega) dL_900 (fun r3 w3 hq3 => ?_)
  obtain ⟨v, rfl, hi3, hJ⟩ := hp2 r3 w3 hq3
  refine g_istore C dL_903 (by decide) ?_
  refine g_aload_n C dL_905 rfl ?_
  refine g_callV C cls_11 12 mt_X10_thrown [] (iv_thrown de hi3) hi3.1.1 (by decide) k_1006 rfl rfl (Nat.le_of_ble_eq_true rfl) (by decide) (by decide) (by omega) (by omega) dL_906 (fun r4 w4 hq4 => ?_)
  obtain ⟨rfl, rfl⟩ := hq4
  refine g_iload C dL_909 rfl ?_
  refine g_icmp_eq C 916 dL_911 (by decide) (fun _ => ?_) (fun h => absurd rfl h)
  refine g_iload C dL_916 rfl ?_
  refine g_if_ne C 933 dL_918 (by decide) (fun _ => ?_) (fun h => ?_)
  · exact g_goto C 1745 dL_933 (by decide) (g_lv2 [(0, .ref b), (1, .ref x), (2, .ref mo), (3, .ref ou), (4, .int (nI (6 * j)))] rfl (g_wid (kc + 40) (ns + 2000) (by omega) (by omega) (next _ _ hi3)))
  · have h0 : k = 0 := h
    refine g_aload_n C dL_921 rfl ?_
    refine g_iconst C 0 dL_922 (by rfl) ?_
    refine g_lald C 2994 hi3.2.1 rfl (show vp_in (nI 0) _ by rw [hi3.2.2.1]; exact nI_vp (by omega) (by omega)) dL_923 ?_
    rw [show (0 : Int32).toNatClampNeg = 0 by decide, hJ h0]
    refine g_iload C dL_924 rfl ?_
    refine g_i2l C dL_926 ?_
    refine g_lcmp C dL_927 ?_
    rw [lg_cmp_self]
    refine g_if_eq C 933 dL_928 (by decide) (fun _ => ?_) (fun h => absurd rfl h)
    exact g_goto C 1745 dL_933 (by decide) (g_lv2 [(0, .ref b), (1, .ref x), (2, .ref mo), (3, .ref ou), (4, .int (nI (6 * j)))] rfl (g_wid (kc + 40) (ns + 2000) (by omega) (by omega) (next _ _ hi3)))
set_option maxHeartbeats 1000000 in
set_option maxRecDepth 100000 in
theorem case_loss (C : Cx p l room_1 s m #[.ref b] meth c D cy s.heap.size code "RainIndexLaw" 7 ret 11 446 601024 7293034 de) (hN : NCS s) (hX : va_X b L xs s s.heap) (hb : b < s.heap.size) (hL : L ≤ 3072) (hj : 6 * j + 6 ≤ L) (hi : IV w de x mo ou ad T j) (hkc : kc + 40 ≤ 601024) (hns : ns + 2000 ≤ 7293034)
    (next : ∀ (w' : Wd) (T' : Int32), IV w' de x mo ou ad T' (j + 1) → G p l e room_1 s m #[.ref b] below meth c D cy s.heap.size 7 w' (kc + 40) (ns + 2000) 1745 [(0, .ref b), (1, .ref x), (2, .ref mo), (3, .ref ou), (4, .int (nI (6 * j)))] [] Q) : G p l e room_1 s m #[.ref b] below meth c D cy s.heap.size 7 w kc ns 936 [(0, .ref b), (1, .ref x), (2, .ref mo), (3, .ref ou), (4, .int (nI (6 * j)))] [] Q := by
  obtain ⟨P, hc, hp⟩ := step_loss de hi (show j < 512 by omega) (xs (6 * j + 1)) (xs (6 * j + 2)) (xs (6 * j + 3))
  refine g_aload_n C dL_936 rfl ?_
  refine g_aload_n C dL_937 rfl ?_
  refine g_iload C dL_938 rfl ?_
  refine g_iconst C 1 dL_940 (by rfl) ?_
  refine g_iadd C dL_941 ?_
  refine g_sld C hX hb (6 * j + 1) (nI_ad (6 * j) 1) (by omega) (by omega) dL_942 ?_
  refine g_aload_n C dL_943 rfl ?_
  refine g_iload C dL_944 rfl ?_
  refine g_iconst C 2 dL_946 (by rfl) ?_
  refine g_iadd C dL_947 ?_
  refine g_sld C hX hb (6 * j + 2) (nI_ad (6 * j) 2) (by omega) (by omega) dL_948 ?_
  refine g_aload_n C dL_949 rfl ?_
  refine g_iload C dL_950 rfl ?_
  refine g_iconst C 3 dL_952 (by rfl) ?_
  refine g_iadd C dL_953 ?_
  refine g_sld C hX hb (6 * j + 3) (nI_ad (6 * j) 3) (by omega) (by omega) dL_954 ?_
  refine g_aload_n C dL_955 rfl ?_
  refine g_callH C mt_L_loss [.ref x, .int (xs (6 * j + 1)), .int (xs (6 * j + 2)), .int (xs (6 * j + 3)), .ref ou] hc hN k_777 rfl rfl (Nat.le_of_ble_eq_true rfl) (by decide) (by decide) (by omega) (by omega) dL_956 (fun r2 w2 hq => ?_)
  obtain ⟨k, rfl, hm2, P2, hc2, hp2⟩ := hp r2 w2 hq
  refine g_istore C dL_959 (by decide) ?_
  refine g_aload_n C dL_961 rfl ?_
  refine g_aload_n C dL_962 rfl ?_
  refine g_iload C dL_963 rfl ?_
  refine g_iconst C 1 dL_965 (by rfl) ?_
  refine g_iadd C dL_966 ?_
  refine g_sld C hX hb (6 * j + 1) (nI_ad (6 * j) 1) (by omega) (by omega) dL_967 ?_
  refine g_aload_n C dL_968 rfl ?_
  refine g_iload C dL_969 rfl ?_
  refine g_iconst C 2 dL_971 (by rfl) ?_
  refine g_iadd C dL_972 ?_
  refine g_sld C hX hb (6 * j + 2) (nI_ad (6 * j) 2) (by omega) (by omega) dL_973 ?_
  refine g_aload_n C dL_974 rfl ?_
  refine g_iload C dL_975 rfl ?_
  refine g_iconst C 3 dL_977 (by rfl) ?_
  refine g_iadd C dL_978 ?_
  refine g_sld C hX hb (6 * j + 3) (nI_ad (6 * j) 3) (by omega) (by omega) dL_979 ?_
  refine g_callV C cls_11 12 mt_X10_loss [.int (xs (6 * j + 1)), .int (xs (6 * j + 2)), .int (xs (6 * j + 3))] hc2 hm2 (by decide) k_1152 rfl rfl (Nat.le_of_ble_eq_true rfl) (by decide) (by decide) (by omega) (by omega) dL_980 (fun r3 w3 hq3 => ?_)
  obtain ⟨v, rfl, hi3, hJ⟩ := hp2 r3 w3 hq3
  refine g_istore C dL_983 (by decide) ?_
  refine g_aload_n C dL_985 rfl ?_
  refine g_callV C cls_11 12 mt_X10_thrown [] (iv_thrown de hi3) hi3.1.1 (by decide) k_1006 rfl rfl (Nat.le_of_ble_eq_true rfl) (by decide) (by decide) (by omega) (by omega) dL_986 (fun r4 w4 hq4 => ?_)
  obtain ⟨rfl, rfl⟩ := hq4
  refine g_iload C dL_989 rfl ?_
  refine g_icmp_eq C 996 dL_991 (by decide) (fun _ => ?_) (fun h => absurd rfl h)
  refine g_iload C dL_996 rfl ?_
  refine g_if_ne C 1013 dL_998 (by decide) (fun _ => ?_) (fun h => ?_)
  · exact g_goto C 1745 dL_1013 (by decide) (g_lv2 [(0, .ref b), (1, .ref x), (2, .ref mo), (3, .ref ou), (4, .int (nI (6 * j)))] rfl (g_wid (kc + 40) (ns + 2000) (by omega) (by omega) (next _ _ hi3)))
  · have h0 : k = 0 := h
    refine g_aload_n C dL_1001 rfl ?_
    refine g_iconst C 0 dL_1002 (by rfl) ?_
    refine g_lald C 2994 hi3.2.1 rfl (show vp_in (nI 0) _ by rw [hi3.2.2.1]; exact nI_vp (by omega) (by omega)) dL_1003 ?_
    rw [show (0 : Int32).toNatClampNeg = 0 by decide, hJ h0]
    refine g_iload C dL_1004 rfl ?_
    refine g_i2l C dL_1006 ?_
    refine g_lcmp C dL_1007 ?_
    rw [lg_cmp_self]
    refine g_if_eq C 1013 dL_1008 (by decide) (fun _ => ?_) (fun h => absurd rfl h)
    exact g_goto C 1745 dL_1013 (by decide) (g_lv2 [(0, .ref b), (1, .ref x), (2, .ref mo), (3, .ref ou), (4, .int (nI (6 * j)))] rfl (g_wid (kc + 40) (ns + 2000) (by omega) (by omega) (next _ _ hi3)))
set_option maxHeartbeats 1000000 in
set_option maxRecDepth 100000 in
theorem case_complain (C : Cx p l room_1 s m #[.ref b] meth c D cy s.heap.size code "RainIndexLaw" 7 ret 11 446 601024 7293034 de) (hN : NCS s) (hX : va_X b L xs s s.heap) (hb : b < s.heap.size) (hL : L ≤ 3072) (hj : 6 * j + 6 ≤ L) (hi : IV w de x mo ou ad T j) (hkc : kc + 40 ≤ 601024) (hns : ns + 2000 ≤ 7293034)
    (next : ∀ (w' : Wd) (T' : Int32), IV w' de x mo ou ad T' (j + 1) → G p l e room_1 s m #[.ref b] below meth c D cy s.heap.size 7 w' (kc + 40) (ns + 2000) 1745 [(0, .ref b), (1, .ref x), (2, .ref mo), (3, .ref ou), (4, .int (nI (6 * j)))] [] Q) : G p l e room_1 s m #[.ref b] below meth c D cy s.heap.size 7 w kc ns 1016 [(0, .ref b), (1, .ref x), (2, .ref mo), (3, .ref ou), (4, .int (nI (6 * j)))] [] Q := by
  obtain ⟨P, hc, hp⟩ := step_complain de hi (show j < 512 by omega) (xs (6 * j + 1)) (xs (6 * j + 2))
  refine g_aload_n C dL_1016 rfl ?_
  refine g_aload_n C dL_1017 rfl ?_
  refine g_iload C dL_1018 rfl ?_
  refine g_iconst C 1 dL_1020 (by rfl) ?_
  refine g_iadd C dL_1021 ?_
  refine g_sld C hX hb (6 * j + 1) (nI_ad (6 * j) 1) (by omega) (by omega) dL_1022 ?_
  refine g_aload_n C dL_1023 rfl ?_
  refine g_iload C dL_1024 rfl ?_
  refine g_iconst C 2 dL_1026 (by rfl) ?_
  refine g_iadd C dL_1027 ?_
  refine g_sld C hX hb (6 * j + 2) (nI_ad (6 * j) 2) (by omega) (by omega) dL_1028 ?_
  refine g_aload_n C dL_1029 rfl ?_
  refine g_callH C mt_L_complain [.ref x, .int (xs (6 * j + 1)), .int (xs (6 * j + 2)), .ref ou] hc hN k_789 rfl rfl (Nat.le_of_ble_eq_true rfl) (by decide) (by decide) (by omega) (by omega) dL_1030 (fun r2 w2 hq => ?_)
  obtain ⟨k, rfl, hm2, P2, hc2, hp2⟩ := hp r2 w2 hq
  refine g_istore C dL_1033 (by decide) ?_
  refine g_aload_n C dL_1035 rfl ?_
  refine g_aload_n C dL_1036 rfl ?_
  refine g_iload C dL_1037 rfl ?_
  refine g_iconst C 1 dL_1039 (by rfl) ?_
  refine g_iadd C dL_1040 ?_
  refine g_sld C hX hb (6 * j + 1) (nI_ad (6 * j) 1) (by omega) (by omega) dL_1041 ?_
  refine g_aload_n C dL_1042 rfl ?_
  refine g_iload C dL_1043 rfl ?_
  refine g_iconst C 2 dL_1045 (by rfl) ?_
  refine g_iadd C dL_1046 ?_
  refine g_sld C hX hb (6 * j + 2) (nI_ad (6 * j) 2) (by omega) (by omega) dL_1047 ?_
  refine g_callV C cls_11 12 mt_X10_complain [.int (xs (6 * j + 1)), .int (xs (6 * j + 2))] hc2 hm2 (by decide) k_1156 rfl rfl (Nat.le_of_ble_eq_true rfl) (by decide) (by decide) (by omega) (by omega) dL_1048 (fun r3 w3 hq3 => ?_)
  obtain ⟨v, rfl, hi3, hJ⟩ := hp2 r3 w3 hq3
  refine g_istore C dL_1051 (by decide) ?_
  refine g_aload_n C dL_1053 rfl ?_
  refine g_callV C cls_11 12 mt_X10_thrown [] (iv_thrown de hi3) hi3.1.1 (by decide) k_1006 rfl rfl (Nat.le_of_ble_eq_true rfl) (by decide) (by decide) (by omega) (by omega) dL_1054 (fun r4 w4 hq4 => ?_)
  obtain ⟨rfl, rfl⟩ := hq4
  refine g_iload C dL_1057 rfl ?_
  refine g_icmp_eq C 1064 dL_1059 (by decide) (fun _ => ?_) (fun h => absurd rfl h)
  refine g_iload C dL_1064 rfl ?_
  refine g_if_ne C 1081 dL_1066 (by decide) (fun _ => ?_) (fun h => ?_)
  · exact g_goto C 1745 dL_1081 (by decide) (g_lv2 [(0, .ref b), (1, .ref x), (2, .ref mo), (3, .ref ou), (4, .int (nI (6 * j)))] rfl (g_wid (kc + 40) (ns + 2000) (by omega) (by omega) (next _ _ hi3)))
  · have h0 : k = 0 := h
    refine g_aload_n C dL_1069 rfl ?_
    refine g_iconst C 0 dL_1070 (by rfl) ?_
    refine g_lald C 2994 hi3.2.1 rfl (show vp_in (nI 0) _ by rw [hi3.2.2.1]; exact nI_vp (by omega) (by omega)) dL_1071 ?_
    rw [show (0 : Int32).toNatClampNeg = 0 by decide, hJ h0]
    refine g_iload C dL_1072 rfl ?_
    refine g_i2l C dL_1074 ?_
    refine g_lcmp C dL_1075 ?_
    rw [lg_cmp_self]
    refine g_if_eq C 1081 dL_1076 (by decide) (fun _ => ?_) (fun h => absurd rfl h)
    exact g_goto C 1745 dL_1081 (by decide) (g_lv2 [(0, .ref b), (1, .ref x), (2, .ref mo), (3, .ref ou), (4, .int (nI (6 * j)))] rfl (g_wid (kc + 40) (ns + 2000) (by omega) (by omega) (next _ _ hi3)))
set_option maxHeartbeats 1000000 in
set_option maxRecDepth 100000 in
theorem case_day (C : Cx p l room_1 s m #[.ref b] meth c D cy s.heap.size code "RainIndexLaw" 7 ret 11 446 601024 7293034 de) (hN : NCS s) (hX : va_X b L xs s s.heap) (hb : b < s.heap.size) (hL : L ≤ 3072) (hj : 6 * j + 6 ≤ L) (hi : IV w de x mo ou ad T j) (hkc : kc + 40 ≤ 601024) (hns : ns + 2000 ≤ 7293034)
    (next : ∀ (w' : Wd) (T' : Int32), IV w' de x mo ou ad T' (j + 1) → G p l e room_1 s m #[.ref b] below meth c D cy s.heap.size 7 w' (kc + 40) (ns + 2000) 1745 [(0, .ref b), (1, .ref x), (2, .ref mo), (3, .ref ou), (4, .int (nI (6 * j)))] [] Q) : G p l e room_1 s m #[.ref b] below meth c D cy s.heap.size 7 w kc ns 1084 [(0, .ref b), (1, .ref x), (2, .ref mo), (3, .ref ou), (4, .int (nI (6 * j)))] [] Q := by
  obtain ⟨hx1, hm1, v, hd, P, hc2, hp2⟩ := iv_day hi
  refine g_aload_n C dL_1084 rfl ?_
  refine g_callV C cls_10 11 mt_X9_day [] hd hx1 (by decide) k_173 rfl rfl (Nat.le_of_ble_eq_true rfl) (by decide) (by decide) (by omega) (by omega) dL_1085 (fun r2 w2 hq => ?_)
  obtain ⟨rfl, rfl⟩ := hq
  refine g_aload_n C dL_1088 rfl ?_
  refine g_callV C cls_11 12 mt_X10_day [] hc2 hm1 (by decide) k_1033 rfl rfl (Nat.le_of_ble_eq_true rfl) (by decide) (by decide) (by omega) (by omega) dL_1089 (fun r3 w3 hq3 => ?_)
  obtain ⟨rfl, hi3⟩ := hp2 r3 w3 hq3
  refine g_icmp_eq C 1745 dL_1092 (by decide) (fun _ => ?_) (fun h => absurd rfl h)
  exact g_wid (kc + 40) (ns + 2000) (by omega) (by omega) (next _ _ hi3)
set_option maxHeartbeats 1000000 in
set_option maxRecDepth 100000 in
theorem case_filled (C : Cx p l room_1 s m #[.ref b] meth c D cy s.heap.size code "RainIndexLaw" 7 ret 11 446 601024 7293034 de) (hN : NCS s) (hX : va_X b L xs s s.heap) (hb : b < s.heap.size) (hL : L ≤ 3072) (hj : 6 * j + 6 ≤ L) (hi : IV w de x mo ou ad T j) (hkc : kc + 40 ≤ 601024) (hns : ns + 2000 ≤ 7293034)
    (next : ∀ (w' : Wd) (T' : Int32), IV w' de x mo ou ad T' (j + 1) → G p l e room_1 s m #[.ref b] below meth c D cy s.heap.size 7 w' (kc + 40) (ns + 2000) 1745 [(0, .ref b), (1, .ref x), (2, .ref mo), (3, .ref ou), (4, .int (nI (6 * j)))] [] Q) : G p l e room_1 s m #[.ref b] below meth c D cy s.heap.size 7 w kc ns 1097 [(0, .ref b), (1, .ref x), (2, .ref mo), (3, .ref ou), (4, .int (nI (6 * j)))] [] Q := by
  obtain ⟨P, hc, hp⟩ := step_filled de hi (show j < 512 by omega) (xs (6 * j + 1)) (xs (6 * j + 2)) (xs (6 * j + 3))
  refine g_aload_n C dL_1097 rfl ?_
  refine g_aload_n C dL_1098 rfl ?_
  refine g_iload C dL_1099 rfl ?_
  refine g_iconst C 1 dL_1101 (by rfl) ?_
  refine g_iadd C dL_1102 ?_
  refine g_sld C hX hb (6 * j + 1) (nI_ad (6 * j) 1) (by omega) (by omega) dL_1103 ?_
  refine g_aload_n C dL_1104 rfl ?_
  refine g_iload C dL_1105 rfl ?_
  refine g_iconst C 2 dL_1107 (by rfl) ?_
  refine g_iadd C dL_1108 ?_
  refine g_sld C hX hb (6 * j + 2) (nI_ad (6 * j) 2) (by omega) (by omega) dL_1109 ?_
  refine g_aload_n C dL_1110 rfl ?_
  refine g_iload C dL_1111 rfl ?_
  refine g_iconst C 3 dL_1113 (by rfl) ?_
  refine g_iadd C dL_1114 ?_
  refine g_sld C hX hb (6 * j + 3) (nI_ad (6 * j) 3) (by omega) (by omega) dL_1115 ?_
  refine g_aload_n C dL_1116 rfl ?_
  refine g_callH C mt_L_filled [.ref x, .int (xs (6 * j + 1)), .int (xs (6 * j + 2)), .int (xs (6 * j + 3)), .ref ou] hc hN k_819 rfl rfl (Nat.le_of_ble_eq_true rfl) (by decide) (by decide) (by omega) (by omega) dL_1117 (fun r2 w2 hq => ?_)
  obtain ⟨k, rfl, hm2, P2, hc2, hp2⟩ := hp r2 w2 hq
  refine g_istore C dL_1120 (by decide) ?_
  refine g_aload_n C dL_1122 rfl ?_
  refine g_aload_n C dL_1123 rfl ?_
  refine g_iload C dL_1124 rfl ?_
  refine g_iconst C 1 dL_1126 (by rfl) ?_
  refine g_iadd C dL_1127 ?_
  refine g_sld C hX hb (6 * j + 1) (nI_ad (6 * j) 1) (by omega) (by omega) dL_1128 ?_
  refine g_aload_n C dL_1129 rfl ?_
  refine g_iload C dL_1130 rfl ?_
  refine g_iconst C 2 dL_1132 (by rfl) ?_
  refine g_iadd C dL_1133 ?_
  refine g_sld C hX hb (6 * j + 2) (nI_ad (6 * j) 2) (by omega) (by omega) dL_1134 ?_
  refine g_aload_n C dL_1135 rfl ?_
  refine g_iload C dL_1136 rfl ?_
  refine g_iconst C 3 dL_1138 (by rfl) ?_
  refine g_iadd C dL_1139 ?_
  refine g_sld C hX hb (6 * j + 3) (nI_ad (6 * j) 3) (by omega) (by omega) dL_1140 ?_
  refine g_callV C cls_11 12 mt_X10_filled [.int (xs (6 * j + 1)), .int (xs (6 * j + 2)), .int (xs (6 * j + 3))] hc2 hm2 (by decide) k_1037 rfl rfl (Nat.le_of_ble_eq_true rfl) (by decide) (by decide) (by omega) (by omega) dL_1141 (fun r3 w3 hq3 => ?_)
  obtain ⟨v, rfl, hi3, hJ⟩ := hp2 r3 w3 hq3
  refine g_istore C dL_1144 (by decide) ?_
  refine g_aload_n C dL_1146 rfl ?_
  refine g_callV C cls_11 12 mt_X10_thrown [] (iv_thrown de hi3) hi3.1.1 (by decide) k_1006 rfl rfl (Nat.le_of_ble_eq_true rfl) (by decide) (by decide) (by omega) (by omega) dL_1147 (fun r4 w4 hq4 => ?_)
  obtain ⟨rfl, rfl⟩ := hq4
  refine g_iload C dL_1150 rfl ?_
  refine g_icmp_eq C 1157 dL_1152 (by decide) (fun _ => ?_) (fun h => absurd rfl h)
  refine g_iload C dL_1157 rfl ?_
  refine g_if_ne C 1174 dL_1159 (by decide) (fun _ => ?_) (fun h => ?_)
  · exact g_goto C 1745 dL_1174 (by decide) (g_lv2 [(0, .ref b), (1, .ref x), (2, .ref mo), (3, .ref ou), (4, .int (nI (6 * j)))] rfl (g_wid (kc + 40) (ns + 2000) (by omega) (by omega) (next _ _ hi3)))
  · have h0 : k = 0 := h
    refine g_aload_n C dL_1162 rfl ?_
    refine g_iconst C 0 dL_1163 (by rfl) ?_
    refine g_lald C 2994 hi3.2.1 rfl (show vp_in (nI 0) _ by rw [hi3.2.2.1]; exact nI_vp (by omega) (by omega)) dL_1164 ?_
    rw [show (0 : Int32).toNatClampNeg = 0 by decide, hJ h0]
    refine g_iload C dL_1165 rfl ?_
    refine g_i2l C dL_1167 ?_
    refine g_lcmp C dL_1168 ?_
    rw [lg_cmp_self]
    refine g_if_eq C 1174 dL_1169 (by decide) (fun _ => ?_) (fun h => absurd rfl h)
    exact g_goto C 1745 dL_1174 (by decide) (g_lv2 [(0, .ref b), (1, .ref x), (2, .ref mo), (3, .ref ou), (4, .int (nI (6 * j)))] rfl (g_wid (kc + 40) (ns + 2000) (by omega) (by omega) (next _ _ hi3)))
set_option maxHeartbeats 1000000 in
set_option maxRecDepth 100000 in
theorem case_onset (C : Cx p l room_1 s m #[.ref b] meth c D cy s.heap.size code "RainIndexLaw" 7 ret 11 446 601024 7293034 de) (hN : NCS s) (hX : va_X b L xs s s.heap) (hb : b < s.heap.size) (hL : L ≤ 3072) (hj : 6 * j + 6 ≤ L) (hi : IV w de x mo ou ad T j) (hkc : kc + 40 ≤ 601024) (hns : ns + 2000 ≤ 7293034)
    (next : ∀ (w' : Wd) (T' : Int32), IV w' de x mo ou ad T' (j + 1) → G p l e room_1 s m #[.ref b] below meth c D cy s.heap.size 7 w' (kc + 40) (ns + 2000) 1745 [(0, .ref b), (1, .ref x), (2, .ref mo), (3, .ref ou), (4, .int (nI (6 * j)))] [] Q) : G p l e room_1 s m #[.ref b] below meth c D cy s.heap.size 7 w kc ns 1177 [(0, .ref b), (1, .ref x), (2, .ref mo), (3, .ref ou), (4, .int (nI (6 * j)))] [] Q := by
  obtain ⟨P, hc, hp⟩ := step_onset de hi (show j < 512 by omega) (xs (6 * j + 1)) (xs (6 * j + 2)) (xs (6 * j + 3))
  refine g_aload_n C dL_1177 rfl ?_
  refine g_aload_n C dL_1178 rfl ?_
  refine g_iload C dL_1179 rfl ?_
  refine g_iconst C 1 dL_1181 (by rfl) ?_
  refine g_iadd C dL_1182 ?_
  refine g_sld C hX hb (6 * j + 1) (nI_ad (6 * j) 1) (by omega) (by omega) dL_1183 ?_
  refine g_aload_n C dL_1184 rfl ?_
  refine g_iload C dL_1185 rfl ?_
  refine g_iconst C 2 dL_1187 (by rfl) ?_
  refine g_iadd C dL_1188 ?_
  refine g_sld C hX hb (6 * j + 2) (nI_ad (6 * j) 2) (by omega) (by omega) dL_1189 ?_
  refine g_aload_n C dL_1190 rfl ?_
  refine g_iload C dL_1191 rfl ?_
  refine g_iconst C 3 dL_1193 (by rfl) ?_
  refine g_iadd C dL_1194 ?_
  refine g_sld C hX hb (6 * j + 3) (nI_ad (6 * j) 3) (by omega) (by omega) dL_1195 ?_
  refine g_aload_n C dL_1196 rfl ?_
  refine g_callH C mt_L_onset [.ref x, .int (xs (6 * j + 1)), .int (xs (6 * j + 2)), .int (xs (6 * j + 3)), .ref ou] hc hN k_828 rfl rfl (Nat.le_of_ble_eq_true rfl) (by decide) (by decide) (by omega) (by omega) dL_1197 (fun r2 w2 hq => ?_)
  obtain ⟨k, rfl, hm2, P2, hc2, hp2⟩ := hp r2 w2 hq
  refine g_istore C dL_1200 (by decide) ?_
  refine g_aload_n C dL_1202 rfl ?_
  refine g_aload_n C dL_1203 rfl ?_
  refine g_iload C dL_1204 rfl ?_
  refine g_iconst C 1 dL_1206 (by rfl) ?_
  refine g_iadd C dL_1207 ?_
  refine g_sld C hX hb (6 * j + 1) (nI_ad (6 * j) 1) (by omega) (by omega) dL_1208 ?_
  refine g_aload_n C dL_1209 rfl ?_
  refine g_iload C dL_1210 rfl ?_
  refine g_iconst C 2 dL_1212 (by rfl) ?_
  refine g_iadd C dL_1213 ?_
  refine g_sld C hX hb (6 * j + 2) (nI_ad (6 * j) 2) (by omega) (by omega) dL_1214 ?_
  refine g_aload_n C dL_1215 rfl ?_
  refine g_iload C dL_1216 rfl ?_
  refine g_iconst C 3 dL_1218 (by rfl) ?_
  refine g_iadd C dL_1219 ?_
  refine g_sld C hX hb (6 * j + 3) (nI_ad (6 * j) 3) (by omega) (by omega) dL_1220 ?_
  refine g_callV C cls_11 12 mt_X10_onset [.int (xs (6 * j + 1)), .int (xs (6 * j + 2)), .int (xs (6 * j + 3))] hc2 hm2 (by decide) k_1049 rfl rfl (Nat.le_of_ble_eq_true rfl) (by decide) (by decide) (by omega) (by omega) dL_1221 (fun r3 w3 hq3 => ?_)
  obtain ⟨v, rfl, hi3, hJ⟩ := hp2 r3 w3 hq3
  refine g_istore C dL_1224 (by decide) ?_
  refine g_aload_n C dL_1226 rfl ?_
  refine g_callV C cls_11 12 mt_X10_thrown [] (iv_thrown de hi3) hi3.1.1 (by decide) k_1006 rfl rfl (Nat.le_of_ble_eq_true rfl) (by decide) (by decide) (by omega) (by omega) dL_1227 (fun r4 w4 hq4 => ?_)
  obtain ⟨rfl, rfl⟩ := hq4
  refine g_iload C dL_1230 rfl ?_
  refine g_icmp_eq C 1237 dL_1232 (by decide) (fun _ => ?_) (fun h => absurd rfl h)
  refine g_iload C dL_1237 rfl ?_
  refine g_if_ne C 1254 dL_1239 (by decide) (fun _ => ?_) (fun h => ?_)
  · exact g_goto C 1745 dL_1254 (by decide) (g_lv2 [(0, .ref b), (1, .ref x), (2, .ref mo), (3, .ref ou), (4, .int (nI (6 * j)))] rfl (g_wid (kc + 40) (ns + 2000) (by omega) (by omega) (next _ _ hi3)))
  · have h0 : k = 0 := h
    refine g_aload_n C dL_1242 rfl ?_
    refine g_iconst C 0 dL_1243 (by rfl) ?_
    refine g_lald C 2994 hi3.2.1 rfl (show vp_in (nI 0) _ by rw [hi3.2.2.1]; exact nI_vp (by omega) (by omega)) dL_1244 ?_
    rw [show (0 : Int32).toNatClampNeg = 0 by decide, hJ h0]
    refine g_iload C dL_1245 rfl ?_
    refine g_i2l C dL_1247 ?_
    refine g_lcmp C dL_1248 ?_
    rw [lg_cmp_self]
    refine g_if_eq C 1254 dL_1249 (by decide) (fun _ => ?_) (fun h => absurd rfl h)
    exact g_goto C 1745 dL_1254 (by decide) (g_lv2 [(0, .ref b), (1, .ref x), (2, .ref mo), (3, .ref ou), (4, .int (nI (6 * j)))] rfl (g_wid (kc + 40) (ns + 2000) (by omega) (by omega) (next _ _ hi3)))
set_option maxHeartbeats 1000000 in
set_option maxRecDepth 100000 in
theorem case_index (C : Cx p l room_1 s m #[.ref b] meth c D cy s.heap.size code "RainIndexLaw" 7 ret 11 446 601024 7293034 de) (hN : NCS s) (hX : va_X b L xs s s.heap) (hb : b < s.heap.size) (hL : L ≤ 3072) (hj : 6 * j + 6 ≤ L) (hi : IV w de x mo ou ad T j) (hkc : kc + 40 ≤ 601024) (hns : ns + 2000 ≤ 7293034)
    (next : ∀ (w' : Wd) (T' : Int32), IV w' de x mo ou ad T' (j + 1) → G p l e room_1 s m #[.ref b] below meth c D cy s.heap.size 7 w' (kc + 40) (ns + 2000) 1745 [(0, .ref b), (1, .ref x), (2, .ref mo), (3, .ref ou), (4, .int (nI (6 * j)))] [] Q) : G p l e room_1 s m #[.ref b] below meth c D cy s.heap.size 7 w kc ns 1257 [(0, .ref b), (1, .ref x), (2, .ref mo), (3, .ref ou), (4, .int (nI (6 * j)))] [] Q := by
  obtain ⟨P, hc, hp⟩ := step_index de hi (show j < 512 by omega) (xs (6 * j + 1)) (xs (6 * j + 2)) (xs (6 * j + 3)) (xs (6 * j + 4))
  refine g_aload_n C dL_1257 rfl ?_
  refine g_aload_n C dL_1258 rfl ?_
  refine g_iload C dL_1259 rfl ?_
  refine g_iconst C 1 dL_1261 (by rfl) ?_
  refine g_iadd C dL_1262 ?_
  refine g_sld C hX hb (6 * j + 1) (nI_ad (6 * j) 1) (by omega) (by omega) dL_1263 ?_
  refine g_aload_n C dL_1264 rfl ?_
  refine g_iload C dL_1265 rfl ?_
  refine g_iconst C 2 dL_1267 (by rfl) ?_
  refine g_iadd C dL_1268 ?_
  refine g_sld C hX hb (6 * j + 2) (nI_ad (6 * j) 2) (by omega) (by omega) dL_1269 ?_
  refine g_aload_n C dL_1270 rfl ?_
  refine g_iload C dL_1271 rfl ?_
  refine g_iconst C 3 dL_1273 (by rfl) ?_
  refine g_iadd C dL_1274 ?_
  refine g_sld C hX hb (6 * j + 3) (nI_ad (6 * j) 3) (by omega) (by omega) dL_1275 ?_
  refine g_aload_n C dL_1276 rfl ?_
  refine g_iload C dL_1277 rfl ?_
  refine g_iconst C 4 dL_1279 (by rfl) ?_
  refine g_iadd C dL_1280 ?_
  refine g_sld C hX hb (6 * j + 4) (nI_ad (6 * j) 4) (by omega) (by omega) dL_1281 ?_
  refine g_aload_n C dL_1282 rfl ?_
  refine g_callH C mt_L_index [.ref x, .int (xs (6 * j + 1)), .int (xs (6 * j + 2)), .int (xs (6 * j + 3)), .int (xs (6 * j + 4)), .ref ou] hc hN k_836 rfl rfl (Nat.le_of_ble_eq_true rfl) (by decide) (by decide) (by omega) (by omega) dL_1283 (fun r2 w2 hq => ?_)
  obtain ⟨k, rfl, hm2, P2, hc2, hp2⟩ := hp r2 w2 hq
  refine g_istore C dL_1286 (by decide) ?_
  refine g_aload_n C dL_1288 rfl ?_
  refine g_aload_n C dL_1289 rfl ?_
  refine g_iload C dL_1290 rfl ?_
  refine g_iconst C 1 dL_1292 (by rfl) ?_
  refine g_iadd C dL_1293 ?_
  refine g_sld C hX hb (6 * j + 1) (nI_ad (6 * j) 1) (by omega) (by omega) dL_1294 ?_
  refine g_aload_n C dL_1295 rfl ?_
  refine g_iload C dL_1296 rfl ?_
  refine g_iconst C 2 dL_1298 (by rfl) ?_
  refine g_iadd C dL_1299 ?_
  refine g_sld C hX hb (6 * j + 2) (nI_ad (6 * j) 2) (by omega) (by omega) dL_1300 ?_
  refine g_aload_n C dL_1301 rfl ?_
  refine g_iload C dL_1302 rfl ?_
  refine g_iconst C 3 dL_1304 (by rfl) ?_
  refine g_iadd C dL_1305 ?_
  refine g_sld C hX hb (6 * j + 3) (nI_ad (6 * j) 3) (by omega) (by omega) dL_1306 ?_
  refine g_aload_n C dL_1307 rfl ?_
  refine g_iload C dL_1308 rfl ?_
  refine g_iconst C 4 dL_1310 (by rfl) ?_
  refine g_iadd C dL_1311 ?_
  refine g_sld C hX hb (6 * j + 4) (nI_ad (6 * j) 4) (by omega) (by omega) dL_1312 ?_
  refine g_callV C cls_11 12 mt_X10_index [.int (xs (6 * j + 1)), .int (xs (6 * j + 2)), .int (xs (6 * j + 3)), .int (xs (6 * j + 4))] hc2 hm2 (by decide) k_1076 rfl rfl (Nat.le_of_ble_eq_true rfl) (by decide) (by decide) (by omega) (by omega) dL_1313 (fun r3 w3 hq3 => ?_)
  obtain ⟨v, rfl, hi3, hJ⟩ := hp2 r3 w3 hq3
  refine g_istore C dL_1316 (by decide) ?_
  refine g_aload_n C dL_1318 rfl ?_
  refine g_callV C cls_11 12 mt_X10_thrown [] (iv_thrown de hi3) hi3.1.1 (by decide) k_1006 rfl rfl (Nat.le_of_ble_eq_true rfl) (by decide) (by decide) (by omega) (by omega) dL_1319 (fun r4 w4 hq4 => ?_)
  obtain ⟨rfl, rfl⟩ := hq4
  refine g_iload C dL_1322 rfl ?_
  refine g_icmp_eq C 1329 dL_1324 (by decide) (fun _ => ?_) (fun h => absurd rfl h)
  refine g_iload C dL_1329 rfl ?_
  refine g_if_ne C 1346 dL_1331 (by decide) (fun _ => ?_) (fun h => ?_)
  · exact g_goto C 1745 dL_1346 (by decide) (g_lv2 [(0, .ref b), (1, .ref x), (2, .ref mo), (3, .ref ou), (4, .int (nI (6 * j)))] rfl (g_wid (kc + 40) (ns + 2000) (by omega) (by omega) (next _ _ hi3)))
  · have h0 : k = 0 := h
    refine g_aload_n C dL_1334 rfl ?_
    refine g_iconst C 0 dL_1335 (by rfl) ?_
    refine g_lald C 2994 hi3.2.1 rfl (show vp_in (nI 0) _ by rw [hi3.2.2.1]; exact nI_vp (by omega) (by omega)) dL_1336 ?_
    rw [show (0 : Int32).toNatClampNeg = 0 by decide, hJ h0]
    refine g_iload C dL_1337 rfl ?_
    refine g_i2l C dL_1339 ?_
    refine g_lcmp C dL_1340 ?_
    rw [lg_cmp_self]
    refine g_if_eq C 1346 dL_1341 (by decide) (fun _ => ?_) (fun h => absurd rfl h)
    exact g_goto C 1745 dL_1346 (by decide) (g_lv2 [(0, .ref b), (1, .ref x), (2, .ref mo), (3, .ref ou), (4, .int (nI (6 * j)))] rfl (g_wid (kc + 40) (ns + 2000) (by omega) (by omega) (next _ _ hi3)))
set_option maxHeartbeats 1000000 in
set_option maxRecDepth 100000 in
theorem case_rate (C : Cx p l room_1 s m #[.ref b] meth c D cy s.heap.size code "RainIndexLaw" 7 ret 11 446 601024 7293034 de) (hN : NCS s) (hX : va_X b L xs s s.heap) (hb : b < s.heap.size) (hL : L ≤ 3072) (hj : 6 * j + 6 ≤ L) (hi : IV w de x mo ou ad T j) (hkc : kc + 40 ≤ 601024) (hns : ns + 2000 ≤ 7293034)
    (next : ∀ (w' : Wd) (T' : Int32), IV w' de x mo ou ad T' (j + 1) → G p l e room_1 s m #[.ref b] below meth c D cy s.heap.size 7 w' (kc + 40) (ns + 2000) 1745 [(0, .ref b), (1, .ref x), (2, .ref mo), (3, .ref ou), (4, .int (nI (6 * j)))] [] Q) : G p l e room_1 s m #[.ref b] below meth c D cy s.heap.size 7 w kc ns 1349 [(0, .ref b), (1, .ref x), (2, .ref mo), (3, .ref ou), (4, .int (nI (6 * j)))] [] Q := by
  obtain ⟨P, hc, hp⟩ := step_rate de hi (show j < 512 by omega) (xs (6 * j + 1)) (xs (6 * j + 2)) (xs (6 * j + 3))
  refine g_aload_n C dL_1349 rfl ?_
  refine g_aload_n C dL_1350 rfl ?_
  refine g_iload C dL_1351 rfl ?_
  refine g_iconst C 1 dL_1353 (by rfl) ?_
  refine g_iadd C dL_1354 ?_
  refine g_sld C hX hb (6 * j + 1) (nI_ad (6 * j) 1) (by omega) (by omega) dL_1355 ?_
  refine g_aload_n C dL_1356 rfl ?_
  refine g_iload C dL_1357 rfl ?_
  refine g_iconst C 2 dL_1359 (by rfl) ?_
  refine g_iadd C dL_1360 ?_
  refine g_sld C hX hb (6 * j + 2) (nI_ad (6 * j) 2) (by omega) (by omega) dL_1361 ?_
  refine g_aload_n C dL_1362 rfl ?_
  refine g_iload C dL_1363 rfl ?_
  refine g_iconst C 3 dL_1365 (by rfl) ?_
  refine g_iadd C dL_1366 ?_
  refine g_sld C hX hb (6 * j + 3) (nI_ad (6 * j) 3) (by omega) (by omega) dL_1367 ?_
  refine g_aload_n C dL_1368 rfl ?_
  refine g_callH C mt_L_rate [.ref x, .int (xs (6 * j + 1)), .int (xs (6 * j + 2)), .int (xs (6 * j + 3)), .ref ou] hc hN k_846 rfl rfl (Nat.le_of_ble_eq_true rfl) (by decide) (by decide) (by omega) (by omega) dL_1369 (fun r2 w2 hq => ?_)
  obtain ⟨k, rfl, hm2, P2, hc2, hp2⟩ := hp r2 w2 hq
  refine g_istore C dL_1372 (by decide) ?_
  refine g_aload_n C dL_1374 rfl ?_
  refine g_aload_n C dL_1375 rfl ?_
  refine g_iload C dL_1376 rfl ?_
  refine g_iconst C 1 dL_1378 (by rfl) ?_
  refine g_iadd C dL_1379 ?_
  refine g_sld C hX hb (6 * j + 1) (nI_ad (6 * j) 1) (by omega) (by omega) dL_1380 ?_
  refine g_aload_n C dL_1381 rfl ?_
  refine g_iload C dL_1382 rfl ?_
  refine g_iconst C 2 dL_1384 (by rfl) ?_
  refine g_iadd C dL_1385 ?_
  refine g_sld C hX hb (6 * j + 2) (nI_ad (6 * j) 2) (by omega) (by omega) dL_1386 ?_
  refine g_aload_n C dL_1387 rfl ?_
  refine g_iload C dL_1388 rfl ?_
  refine g_iconst C 3 dL_1390 (by rfl) ?_
  refine g_iadd C dL_1391 ?_
  refine g_sld C hX hb (6 * j + 3) (nI_ad (6 * j) 3) (by omega) (by omega) dL_1392 ?_
  refine g_callV C cls_11 12 mt_X10_rate [.int (xs (6 * j + 1)), .int (xs (6 * j + 2)), .int (xs (6 * j + 3))] hc2 hm2 (by decide) k_1088 rfl rfl (Nat.le_of_ble_eq_true rfl) (by decide) (by decide) (by omega) (by omega) dL_1393 (fun r3 w3 hq3 => ?_)
  obtain ⟨v, rfl, hi3, hJ⟩ := hp2 r3 w3 hq3
  refine g_istore C dL_1396 (by decide) ?_
  refine g_aload_n C dL_1398 rfl ?_
  refine g_callV C cls_11 12 mt_X10_thrown [] (iv_thrown de hi3) hi3.1.1 (by decide) k_1006 rfl rfl (Nat.le_of_ble_eq_true rfl) (by decide) (by decide) (by omega) (by omega) dL_1399 (fun r4 w4 hq4 => ?_)
  obtain ⟨rfl, rfl⟩ := hq4
  refine g_iload C dL_1402 rfl ?_
  refine g_icmp_eq C 1409 dL_1404 (by decide) (fun _ => ?_) (fun h => absurd rfl h)
  refine g_iload C dL_1409 rfl ?_
  refine g_if_ne C 1426 dL_1411 (by decide) (fun _ => ?_) (fun h => ?_)
  · exact g_goto C 1745 dL_1426 (by decide) (g_lv2 [(0, .ref b), (1, .ref x), (2, .ref mo), (3, .ref ou), (4, .int (nI (6 * j)))] rfl (g_wid (kc + 40) (ns + 2000) (by omega) (by omega) (next _ _ hi3)))
  · have h0 : k = 0 := h
    refine g_aload_n C dL_1414 rfl ?_
    refine g_iconst C 0 dL_1415 (by rfl) ?_
    refine g_lald C 2994 hi3.2.1 rfl (show vp_in (nI 0) _ by rw [hi3.2.2.1]; exact nI_vp (by omega) (by omega)) dL_1416 ?_
    rw [show (0 : Int32).toNatClampNeg = 0 by decide, hJ h0]
    refine g_iload C dL_1417 rfl ?_
    refine g_i2l C dL_1419 ?_
    refine g_lcmp C dL_1420 ?_
    rw [lg_cmp_self]
    refine g_if_eq C 1426 dL_1421 (by decide) (fun _ => ?_) (fun h => absurd rfl h)
    exact g_goto C 1745 dL_1426 (by decide) (g_lv2 [(0, .ref b), (1, .ref x), (2, .ref mo), (3, .ref ou), (4, .int (nI (6 * j)))] rfl (g_wid (kc + 40) (ns + 2000) (by omega) (by omega) (next _ _ hi3)))
set_option maxHeartbeats 1000000 in
set_option maxRecDepth 100000 in
theorem case_priced (C : Cx p l room_1 s m #[.ref b] meth c D cy s.heap.size code "RainIndexLaw" 7 ret 11 446 601024 7293034 de) (hN : NCS s) (hX : va_X b L xs s s.heap) (hb : b < s.heap.size) (hL : L ≤ 3072) (hj : 6 * j + 6 ≤ L) (hi : IV w de x mo ou ad T j) (hkc : kc + 40 ≤ 601024) (hns : ns + 2000 ≤ 7293034)
    (next : ∀ (w' : Wd) (T' : Int32), IV w' de x mo ou ad T' (j + 1) → G p l e room_1 s m #[.ref b] below meth c D cy s.heap.size 7 w' (kc + 40) (ns + 2000) 1745 [(0, .ref b), (1, .ref x), (2, .ref mo), (3, .ref ou), (4, .int (nI (6 * j)))] [] Q) : G p l e room_1 s m #[.ref b] below meth c D cy s.heap.size 7 w kc ns 1429 [(0, .ref b), (1, .ref x), (2, .ref mo), (3, .ref ou), (4, .int (nI (6 * j)))] [] Q := by
  obtain ⟨P, hc, hp⟩ := step_priced de hi (show j < 512 by omega) (xs (6 * j + 1)) (xs (6 * j + 2))
  refine g_aload_n C dL_1429 rfl ?_
  refine g_aload_n C dL_1430 rfl ?_
  refine g_iload C dL_1431 rfl ?_
  refine g_iconst C 1 dL_1433 (by rfl) ?_
  refine g_iadd C dL_1434 ?_
  refine g_sld C hX hb (6 * j + 1) (nI_ad (6 * j) 1) (by omega) (by omega) dL_1435 ?_
  refine g_aload_n C dL_1436 rfl ?_
  refine g_iload C dL_1437 rfl ?_
  refine g_iconst C 2 dL_1439 (by rfl) ?_
  refine g_iadd C dL_1440 ?_
  refine g_sld C hX hb (6 * j + 2) (nI_ad (6 * j) 2) (by omega) (by omega) dL_1441 ?_
  refine g_aload_n C dL_1442 rfl ?_
  refine g_callH C mt_L_priced [.ref x, .int (xs (6 * j + 1)), .int (xs (6 * j + 2)), .ref ou] hc hN k_853 rfl rfl (Nat.le_of_ble_eq_true rfl) (by decide) (by decide) (by omega) (by omega) dL_1443 (fun r2 w2 hq => ?_)
  obtain ⟨k, rfl, hm2, P2, hc2, hp2⟩ := hp r2 w2 hq
  refine g_istore C dL_1446 (by decide) ?_
  refine g_aload_n C dL_1448 rfl ?_
  refine g_aload_n C dL_1449 rfl ?_
  refine g_iload C dL_1450 rfl ?_
  refine g_iconst C 1 dL_1452 (by rfl) ?_
  refine g_iadd C dL_1453 ?_
  refine g_sld C hX hb (6 * j + 1) (nI_ad (6 * j) 1) (by omega) (by omega) dL_1454 ?_
  refine g_aload_n C dL_1455 rfl ?_
  refine g_iload C dL_1456 rfl ?_
  refine g_iconst C 2 dL_1458 (by rfl) ?_
  refine g_iadd C dL_1459 ?_
  refine g_sld C hX hb (6 * j + 2) (nI_ad (6 * j) 2) (by omega) (by omega) dL_1460 ?_
  refine g_callV C cls_11 12 mt_X10_priced [.int (xs (6 * j + 1)), .int (xs (6 * j + 2))] hc2 hm2 (by decide) k_1103 rfl rfl (Nat.le_of_ble_eq_true rfl) (by decide) (by decide) (by omega) (by omega) dL_1461 (fun r3 w3 hq3 => ?_)
  obtain ⟨v, rfl, hi3, hJ⟩ := hp2 r3 w3 hq3
  refine g_istore C dL_1464 (by decide) ?_
  refine g_aload_n C dL_1466 rfl ?_
  refine g_callV C cls_11 12 mt_X10_thrown [] (iv_thrown de hi3) hi3.1.1 (by decide) k_1006 rfl rfl (Nat.le_of_ble_eq_true rfl) (by decide) (by decide) (by omega) (by omega) dL_1467 (fun r4 w4 hq4 => ?_)
  obtain ⟨rfl, rfl⟩ := hq4
  refine g_iload C dL_1470 rfl ?_
  refine g_icmp_eq C 1477 dL_1472 (by decide) (fun _ => ?_) (fun h => absurd rfl h)
  refine g_iload C dL_1477 rfl ?_
  refine g_if_ne C 1494 dL_1479 (by decide) (fun _ => ?_) (fun h => ?_)
  · exact g_goto C 1745 dL_1494 (by decide) (g_lv2 [(0, .ref b), (1, .ref x), (2, .ref mo), (3, .ref ou), (4, .int (nI (6 * j)))] rfl (g_wid (kc + 40) (ns + 2000) (by omega) (by omega) (next _ _ hi3)))
  · have h0 : k = 0 := h
    refine g_aload_n C dL_1482 rfl ?_
    refine g_iconst C 0 dL_1483 (by rfl) ?_
    refine g_lald C 2994 hi3.2.1 rfl (show vp_in (nI 0) _ by rw [hi3.2.2.1]; exact nI_vp (by omega) (by omega)) dL_1484 ?_
    rw [show (0 : Int32).toNatClampNeg = 0 by decide, hJ h0]
    refine g_iload C dL_1485 rfl ?_
    refine g_i2l C dL_1487 ?_
    refine g_lcmp C dL_1488 ?_
    rw [lg_cmp_self]
    refine g_if_eq C 1494 dL_1489 (by decide) (fun _ => ?_) (fun h => absurd rfl h)
    exact g_goto C 1745 dL_1494 (by decide) (g_lv2 [(0, .ref b), (1, .ref x), (2, .ref mo), (3, .ref ou), (4, .int (nI (6 * j)))] rfl (g_wid (kc + 40) (ns + 2000) (by omega) (by omega) (next _ _ hi3)))
set_option maxHeartbeats 1000000 in
set_option maxRecDepth 100000 in
theorem case_cover (C : Cx p l room_1 s m #[.ref b] meth c D cy s.heap.size code "RainIndexLaw" 7 ret 11 446 601024 7293034 de) (hN : NCS s) (hX : va_X b L xs s s.heap) (hb : b < s.heap.size) (hL : L ≤ 3072) (hj : 6 * j + 6 ≤ L) (hi : IV w de x mo ou ad T j) (hkc : kc + 40 ≤ 601024) (hns : ns + 2000 ≤ 7293034)
    (next : ∀ (w' : Wd) (T' : Int32), IV w' de x mo ou ad T' (j + 1) → G p l e room_1 s m #[.ref b] below meth c D cy s.heap.size 7 w' (kc + 40) (ns + 2000) 1745 [(0, .ref b), (1, .ref x), (2, .ref mo), (3, .ref ou), (4, .int (nI (6 * j)))] [] Q) : G p l e room_1 s m #[.ref b] below meth c D cy s.heap.size 7 w kc ns 1497 [(0, .ref b), (1, .ref x), (2, .ref mo), (3, .ref ou), (4, .int (nI (6 * j)))] [] Q := by
  obtain ⟨P, hc, hp⟩ := step_cover de hi (show j < 512 by omega) (xs (6 * j + 1)) (xs (6 * j + 2))
  refine g_aload_n C dL_1497 rfl ?_
  refine g_aload_n C dL_1498 rfl ?_
  refine g_iload C dL_1499 rfl ?_
  refine g_iconst C 1 dL_1501 (by rfl) ?_
  refine g_iadd C dL_1502 ?_
  refine g_sld C hX hb (6 * j + 1) (nI_ad (6 * j) 1) (by omega) (by omega) dL_1503 ?_
  refine g_aload_n C dL_1504 rfl ?_
  refine g_iload C dL_1505 rfl ?_
  refine g_iconst C 2 dL_1507 (by rfl) ?_
  refine g_iadd C dL_1508 ?_
  refine g_sld C hX hb (6 * j + 2) (nI_ad (6 * j) 2) (by omega) (by omega) dL_1509 ?_
  refine g_aload_n C dL_1510 rfl ?_
  refine g_callH C mt_L_cover [.ref x, .int (xs (6 * j + 1)), .int (xs (6 * j + 2)), .ref ou] hc hN k_860 rfl rfl (Nat.le_of_ble_eq_true rfl) (by decide) (by decide) (by omega) (by omega) dL_1511 (fun r2 w2 hq => ?_)
  obtain ⟨k, rfl, hm2, P2, hc2, hp2⟩ := hp r2 w2 hq
  refine g_istore C dL_1514 (by decide) ?_
  refine g_aload_n C dL_1516 rfl ?_
  refine g_aload_n C dL_1517 rfl ?_
  refine g_iload C dL_1518 rfl ?_
  refine g_iconst C 1 dL_1520 (by rfl) ?_
  refine g_iadd C dL_1521 ?_
  refine g_sld C hX hb (6 * j + 1) (nI_ad (6 * j) 1) (by omega) (by omega) dL_1522 ?_
  refine g_aload_n C dL_1523 rfl ?_
  refine g_iload C dL_1524 rfl ?_
  refine g_iconst C 2 dL_1526 (by rfl) ?_
  refine g_iadd C dL_1527 ?_
  refine g_sld C hX hb (6 * j + 2) (nI_ad (6 * j) 2) (by omega) (by omega) dL_1528 ?_
  refine g_callV C cls_11 12 mt_X10_cover [.int (xs (6 * j + 1)), .int (xs (6 * j + 2))] hc2 hm2 (by decide) k_1168 rfl rfl (Nat.le_of_ble_eq_true rfl) (by decide) (by decide) (by omega) (by omega) dL_1529 (fun r3 w3 hq3 => ?_)
  obtain ⟨v, rfl, hi3, hJ⟩ := hp2 r3 w3 hq3
  refine g_istore C dL_1532 (by decide) ?_
  refine g_aload_n C dL_1534 rfl ?_
  refine g_callV C cls_11 12 mt_X10_thrown [] (iv_thrown de hi3) hi3.1.1 (by decide) k_1006 rfl rfl (Nat.le_of_ble_eq_true rfl) (by decide) (by decide) (by omega) (by omega) dL_1535 (fun r4 w4 hq4 => ?_)
  obtain ⟨rfl, rfl⟩ := hq4
  refine g_iload C dL_1538 rfl ?_
  refine g_icmp_eq C 1545 dL_1540 (by decide) (fun _ => ?_) (fun h => absurd rfl h)
  refine g_iload C dL_1545 rfl ?_
  refine g_if_ne C 1562 dL_1547 (by decide) (fun _ => ?_) (fun h => ?_)
  · exact g_goto C 1745 dL_1562 (by decide) (g_lv2 [(0, .ref b), (1, .ref x), (2, .ref mo), (3, .ref ou), (4, .int (nI (6 * j)))] rfl (g_wid (kc + 40) (ns + 2000) (by omega) (by omega) (next _ _ hi3)))
  · have h0 : k = 0 := h
    refine g_aload_n C dL_1550 rfl ?_
    refine g_iconst C 0 dL_1551 (by rfl) ?_
    refine g_lald C 2994 hi3.2.1 rfl (show vp_in (nI 0) _ by rw [hi3.2.2.1]; exact nI_vp (by omega) (by omega)) dL_1552 ?_
    rw [show (0 : Int32).toNatClampNeg = 0 by decide, hJ h0]
    refine g_iload C dL_1553 rfl ?_
    refine g_i2l C dL_1555 ?_
    refine g_lcmp C dL_1556 ?_
    rw [lg_cmp_self]
    refine g_if_eq C 1562 dL_1557 (by decide) (fun _ => ?_) (fun h => absurd rfl h)
    exact g_goto C 1745 dL_1562 (by decide) (g_lv2 [(0, .ref b), (1, .ref x), (2, .ref mo), (3, .ref ou), (4, .int (nI (6 * j)))] rfl (g_wid (kc + 40) (ns + 2000) (by omega) (by omega) (next _ _ hi3)))
set_option maxHeartbeats 1000000 in
set_option maxRecDepth 100000 in
theorem case_dueAnew (C : Cx p l room_1 s m #[.ref b] meth c D cy s.heap.size code "RainIndexLaw" 7 ret 11 446 601024 7293034 de) (hN : NCS s) (hX : va_X b L xs s s.heap) (hb : b < s.heap.size) (hL : L ≤ 3072) (hj : 6 * j + 6 ≤ L) (hi : IV w de x mo ou ad T j) (hkc : kc + 40 ≤ 601024) (hns : ns + 2000 ≤ 7293034)
    (next : ∀ (w' : Wd) (T' : Int32), IV w' de x mo ou ad T' (j + 1) → G p l e room_1 s m #[.ref b] below meth c D cy s.heap.size 7 w' (kc + 40) (ns + 2000) 1745 [(0, .ref b), (1, .ref x), (2, .ref mo), (3, .ref ou), (4, .int (nI (6 * j)))] [] Q) : G p l e room_1 s m #[.ref b] below meth c D cy s.heap.size 7 w kc ns 1565 [(0, .ref b), (1, .ref x), (2, .ref mo), (3, .ref ou), (4, .int (nI (6 * j)))] [] Q := by
  obtain ⟨P, hc, hp⟩ := step_dueAnew de hi (show j < 512 by omega) (xs (6 * j + 1))
  refine g_aload_n C dL_1565 rfl ?_
  refine g_aload_n C dL_1566 rfl ?_
  refine g_iload C dL_1567 rfl ?_
  refine g_iconst C 1 dL_1569 (by rfl) ?_
  refine g_iadd C dL_1570 ?_
  refine g_sld C hX hb (6 * j + 1) (nI_ad (6 * j) 1) (by omega) (by omega) dL_1571 ?_
  refine g_aload_n C dL_1572 rfl ?_
  refine g_callH C mt_L_dueAnew [.ref x, .int (xs (6 * j + 1)), .ref ou] hc hN k_880 rfl rfl (Nat.le_of_ble_eq_true rfl) (by decide) (by decide) (by omega) (by omega) dL_1573 (fun r2 w2 hq => ?_)
  obtain ⟨k, rfl, hm2, P2, hc2, hp2⟩ := hp r2 w2 hq
  refine g_istore C dL_1576 (by decide) ?_
  refine g_aload_n C dL_1578 rfl ?_
  refine g_aload_n C dL_1579 rfl ?_
  refine g_iload C dL_1580 rfl ?_
  refine g_iconst C 1 dL_1582 (by rfl) ?_
  refine g_iadd C dL_1583 ?_
  refine g_sld C hX hb (6 * j + 1) (nI_ad (6 * j) 1) (by omega) (by omega) dL_1584 ?_
  refine g_callV C cls_11 12 mt_X10_dueAnew [.int (xs (6 * j + 1))] hc2 hm2 (by decide) k_1172 rfl rfl (Nat.le_of_ble_eq_true rfl) (by decide) (by decide) (by omega) (by omega) dL_1585 (fun r3 w3 hq3 => ?_)
  obtain ⟨v, rfl, hi3, hJ⟩ := hp2 r3 w3 hq3
  refine g_istore C dL_1588 (by decide) ?_
  refine g_aload_n C dL_1590 rfl ?_
  refine g_callV C cls_11 12 mt_X10_thrown [] (iv_thrown de hi3) hi3.1.1 (by decide) k_1006 rfl rfl (Nat.le_of_ble_eq_true rfl) (by decide) (by decide) (by omega) (by omega) dL_1591 (fun r4 w4 hq4 => ?_)
  obtain ⟨rfl, rfl⟩ := hq4
  refine g_iload C dL_1594 rfl ?_
  refine g_icmp_eq C 1601 dL_1596 (by decide) (fun _ => ?_) (fun h => absurd rfl h)
  refine g_iload C dL_1601 rfl ?_
  refine g_if_ne C 1618 dL_1603 (by decide) (fun _ => ?_) (fun h => ?_)
  · exact g_goto C 1745 dL_1618 (by decide) (g_lv2 [(0, .ref b), (1, .ref x), (2, .ref mo), (3, .ref ou), (4, .int (nI (6 * j)))] rfl (g_wid (kc + 40) (ns + 2000) (by omega) (by omega) (next _ _ hi3)))
  · have h0 : k = 0 := h
    refine g_aload_n C dL_1606 rfl ?_
    refine g_iconst C 0 dL_1607 (by rfl) ?_
    refine g_lald C 2994 hi3.2.1 rfl (show vp_in (nI 0) _ by rw [hi3.2.2.1]; exact nI_vp (by omega) (by omega)) dL_1608 ?_
    rw [show (0 : Int32).toNatClampNeg = 0 by decide, hJ h0]
    refine g_iload C dL_1609 rfl ?_
    refine g_i2l C dL_1611 ?_
    refine g_lcmp C dL_1612 ?_
    rw [lg_cmp_self]
    refine g_if_eq C 1618 dL_1613 (by decide) (fun _ => ?_) (fun h => absurd rfl h)
    exact g_goto C 1745 dL_1618 (by decide) (g_lv2 [(0, .ref b), (1, .ref x), (2, .ref mo), (3, .ref ou), (4, .int (nI (6 * j)))] rfl (g_wid (kc + 40) (ns + 2000) (by omega) (by omega) (next _ _ hi3)))
set_option maxHeartbeats 1000000 in
set_option maxRecDepth 100000 in
theorem case_told (C : Cx p l room_1 s m #[.ref b] meth c D cy s.heap.size code "RainIndexLaw" 7 ret 11 446 601024 7293034 de) (hN : NCS s) (hX : va_X b L xs s s.heap) (hb : b < s.heap.size) (hL : L ≤ 3072) (hj : 6 * j + 6 ≤ L) (hi : IV w de x mo ou ad T j) (hkc : kc + 40 ≤ 601024) (hns : ns + 2000 ≤ 7293034)
    (next : ∀ (w' : Wd) (T' : Int32), IV w' de x mo ou ad T' (j + 1) → G p l e room_1 s m #[.ref b] below meth c D cy s.heap.size 7 w' (kc + 40) (ns + 2000) 1745 [(0, .ref b), (1, .ref x), (2, .ref mo), (3, .ref ou), (4, .int (nI (6 * j)))] [] Q) : G p l e room_1 s m #[.ref b] below meth c D cy s.heap.size 7 w kc ns 1621 [(0, .ref b), (1, .ref x), (2, .ref mo), (3, .ref ou), (4, .int (nI (6 * j)))] [] Q := by
  obtain ⟨P, hc, hp⟩ := step_told de hi (show j < 512 by omega) (xs (6 * j + 1)) (xs (6 * j + 2))
  refine g_aload_n C dL_1621 rfl ?_
  refine g_aload_n C dL_1622 rfl ?_
  refine g_iload C dL_1623 rfl ?_
  refine g_iconst C 1 dL_1625 (by rfl) ?_
  refine g_iadd C dL_1626 ?_
  refine g_sld C hX hb (6 * j + 1) (nI_ad (6 * j) 1) (by omega) (by omega) dL_1627 ?_
  refine g_aload_n C dL_1628 rfl ?_
  refine g_iload C dL_1629 rfl ?_
  refine g_iconst C 2 dL_1631 (by rfl) ?_
  refine g_iadd C dL_1632 ?_
  refine g_sld C hX hb (6 * j + 2) (nI_ad (6 * j) 2) (by omega) (by omega) dL_1633 ?_
  refine g_aload_n C dL_1634 rfl ?_
  refine g_callH C mt_L_told [.ref x, .int (xs (6 * j + 1)), .int (xs (6 * j + 2)), .ref ou] hc hN k_887 rfl rfl (Nat.le_of_ble_eq_true rfl) (by decide) (by decide) (by omega) (by omega) dL_1635 (fun r2 w2 hq => ?_)
  obtain ⟨k, rfl, hm2, P2, hc2, hp2⟩ := hp r2 w2 hq
  refine g_istore C dL_1638 (by decide) ?_
  refine g_aload_n C dL_1640 rfl ?_
  refine g_aload_n C dL_1641 rfl ?_
  refine g_iload C dL_1642 rfl ?_
  refine g_iconst C 1 dL_1644 (by rfl) ?_
  refine g_iadd C dL_1645 ?_
  refine g_sld C hX hb (6 * j + 1) (nI_ad (6 * j) 1) (by omega) (by omega) dL_1646 ?_
  refine g_aload_n C dL_1647 rfl ?_
  refine g_iload C dL_1648 rfl ?_
  refine g_iconst C 2 dL_1650 (by rfl) ?_
  refine g_iadd C dL_1651 ?_
  refine g_sld C hX hb (6 * j + 2) (nI_ad (6 * j) 2) (by omega) (by omega) dL_1652 ?_
  refine g_callV C cls_11 12 mt_X10_told [.int (xs (6 * j + 1)), .int (xs (6 * j + 2))] hc2 hm2 (by decide) k_1176 rfl rfl (Nat.le_of_ble_eq_true rfl) (by decide) (by decide) (by omega) (by omega) dL_1653 (fun r3 w3 hq3 => ?_)
  obtain ⟨v, rfl, hi3, hJ⟩ := hp2 r3 w3 hq3
  refine g_istore C dL_1656 (by decide) ?_
  refine g_aload_n C dL_1658 rfl ?_
  refine g_callV C cls_11 12 mt_X10_thrown [] (iv_thrown de hi3) hi3.1.1 (by decide) k_1006 rfl rfl (Nat.le_of_ble_eq_true rfl) (by decide) (by decide) (by omega) (by omega) dL_1659 (fun r4 w4 hq4 => ?_)
  obtain ⟨rfl, rfl⟩ := hq4
  refine g_iload C dL_1662 rfl ?_
  refine g_icmp_eq C 1669 dL_1664 (by decide) (fun _ => ?_) (fun h => absurd rfl h)
  refine g_iload C dL_1669 rfl ?_
  refine g_if_ne C 1686 dL_1671 (by decide) (fun _ => ?_) (fun h => ?_)
  · exact g_goto C 1745 dL_1686 (by decide) (g_lv2 [(0, .ref b), (1, .ref x), (2, .ref mo), (3, .ref ou), (4, .int (nI (6 * j)))] rfl (g_wid (kc + 40) (ns + 2000) (by omega) (by omega) (next _ _ hi3)))
  · have h0 : k = 0 := h
    refine g_aload_n C dL_1674 rfl ?_
    refine g_iconst C 0 dL_1675 (by rfl) ?_
    refine g_lald C 2994 hi3.2.1 rfl (show vp_in (nI 0) _ by rw [hi3.2.2.1]; exact nI_vp (by omega) (by omega)) dL_1676 ?_
    rw [show (0 : Int32).toNatClampNeg = 0 by decide, hJ h0]
    refine g_iload C dL_1677 rfl ?_
    refine g_i2l C dL_1679 ?_
    refine g_lcmp C dL_1680 ?_
    rw [lg_cmp_self]
    refine g_if_eq C 1686 dL_1681 (by decide) (fun _ => ?_) (fun h => absurd rfl h)
    exact g_goto C 1745 dL_1686 (by decide) (g_lv2 [(0, .ref b), (1, .ref x), (2, .ref mo), (3, .ref ou), (4, .int (nI (6 * j)))] rfl (g_wid (kc + 40) (ns + 2000) (by omega) (by omega) (next _ _ hi3)))
set_option maxHeartbeats 1000000 in
set_option maxRecDepth 100000 in
theorem case_books (C : Cx p l room_1 s m #[.ref b] meth c D cy s.heap.size code "RainIndexLaw" 7 ret 11 446 601024 7293034 de) (hN : NCS s) (hX : va_X b L xs s s.heap) (hb : b < s.heap.size) (hL : L ≤ 3072) (hj : 6 * j + 6 ≤ L) (hi : IV w de x mo ou ad T j) (hkc : kc + 40 ≤ 601024) (hns : ns + 2000 ≤ 7293034)
    (next : ∀ (w' : Wd) (T' : Int32), IV w' de x mo ou ad T' (j + 1) → G p l e room_1 s m #[.ref b] below meth c D cy s.heap.size 7 w' (kc + 40) (ns + 2000) 1745 [(0, .ref b), (1, .ref x), (2, .ref mo), (3, .ref ou), (4, .int (nI (6 * j)))] [] Q) : G p l e room_1 s m #[.ref b] below meth c D cy s.heap.size 7 w kc ns 1689 [(0, .ref b), (1, .ref x), (2, .ref mo), (3, .ref ou), (4, .int (nI (6 * j)))] [] Q := by
  obtain ⟨P, hc, hp⟩ := step_books de hi (show j < 512 by omega) (xs (6 * j + 1))
  refine g_aload_n C dL_1689 rfl ?_
  refine g_aload_n C dL_1690 rfl ?_
  refine g_iload C dL_1691 rfl ?_
  refine g_iconst C 1 dL_1693 (by rfl) ?_
  refine g_iadd C dL_1694 ?_
  refine g_sld C hX hb (6 * j + 1) (nI_ad (6 * j) 1) (by omega) (by omega) dL_1695 ?_
  refine g_aload_n C dL_1696 rfl ?_
  refine g_callH C mt_L_books [.ref x, .int (xs (6 * j + 1)), .ref ou] hc hN k_898 rfl rfl (Nat.le_of_ble_eq_true rfl) (by decide) (by decide) (by omega) (by omega) dL_1697 (fun r2 w2 hq => ?_)
  obtain ⟨k, rfl, hm2, P2, hc2, hp2⟩ := hp r2 w2 hq
  refine g_istore C dL_1700 (by decide) ?_
  refine g_aload_n C dL_1702 rfl ?_
  refine g_aload_n C dL_1703 rfl ?_
  refine g_iload C dL_1704 rfl ?_
  refine g_iconst C 1 dL_1706 (by rfl) ?_
  refine g_iadd C dL_1707 ?_
  refine g_sld C hX hb (6 * j + 1) (nI_ad (6 * j) 1) (by omega) (by omega) dL_1708 ?_
  refine g_callV C cls_11 12 mt_X10_books [.int (xs (6 * j + 1))] hc2 hm2 (by decide) k_1180 rfl rfl (Nat.le_of_ble_eq_true rfl) (by decide) (by decide) (by omega) (by omega) dL_1709 (fun r3 w3 hq3 => ?_)
  obtain ⟨v, rfl, hi3, hJ⟩ := hp2 r3 w3 hq3
  refine g_istore C dL_1712 (by decide) ?_
  refine g_aload_n C dL_1714 rfl ?_
  refine g_callV C cls_11 12 mt_X10_thrown [] (iv_thrown de hi3) hi3.1.1 (by decide) k_1006 rfl rfl (Nat.le_of_ble_eq_true rfl) (by decide) (by decide) (by omega) (by omega) dL_1715 (fun r4 w4 hq4 => ?_)
  obtain ⟨rfl, rfl⟩ := hq4
  refine g_iload C dL_1718 rfl ?_
  refine g_icmp_eq C 1725 dL_1720 (by decide) (fun _ => ?_) (fun h => absurd rfl h)
  refine g_iload C dL_1725 rfl ?_
  refine g_if_ne C 1742 dL_1727 (by decide) (fun _ => ?_) (fun h => ?_)
  · exact g_goto C 1745 dL_1742 (by decide) (g_lv2 [(0, .ref b), (1, .ref x), (2, .ref mo), (3, .ref ou), (4, .int (nI (6 * j)))] rfl (g_wid (kc + 40) (ns + 2000) (by omega) (by omega) (next _ _ hi3)))
  · have h0 : k = 0 := h
    refine g_aload_n C dL_1730 rfl ?_
    refine g_iconst C 0 dL_1731 (by rfl) ?_
    refine g_lald C 2994 hi3.2.1 rfl (show vp_in (nI 0) _ by rw [hi3.2.2.1]; exact nI_vp (by omega) (by omega)) dL_1732 ?_
    rw [show (0 : Int32).toNatClampNeg = 0 by decide, hJ h0]
    refine g_iload C dL_1733 rfl ?_
    refine g_i2l C dL_1735 ?_
    refine g_lcmp C dL_1736 ?_
    rw [lg_cmp_self]
    refine g_if_eq C 1742 dL_1737 (by decide) (fun _ => ?_) (fun h => absurd rfl h)
    exact g_goto C 1745 dL_1742 (by decide) (g_lv2 [(0, .ref b), (1, .ref x), (2, .ref mo), (3, .ref ou), (4, .int (nI (6 * j)))] rfl (g_wid (kc + 40) (ns + 2000) (by omega) (by omega) (next _ _ hi3)))
end
end CASES58

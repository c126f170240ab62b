set_option maxRecDepth 100000 in
set_option maxHeartbeats 600000 in
theorem s_law0 {Γ : fx_G} {nm : String} {i : Nat} (hN31 : Γ.2.2.2 98 < 2 ^ 31) (hi : i + 8 ≤ Γ.2.2.2 98) {m : fx_M} {na nd : Nat} (R : fr_R m na nd) (ih : ∀ m', fx_Rel m' → fx_E Γ (mL_law nm) 20 0 119 (fun r _ => r = some (.int 1)) 119 m' 1622 [some (.ref (Γ.2.2.2 99)), some (fx_rf Γ 0), some (fx_rf Γ 83), some (.int (nI i))] []) : fx_E Γ (mL_law nm) 20 0 119 (fun r _ => r = some (.int 1)) 119 m 212 [some (.ref (Γ.2.2.2 99)), some (fx_rf Γ 0), some (fx_rf Γ 83), some (.int (nI i))] [] := by
  have hL := R.1
  have h8 := R.2.1.1
  have h5 := R.2.1.2
  have hna := R.2.2.1.1
  have hnd := R.2.2.1.2.1
  have hcn := R.2.2.2.2.1.1
  refine e_aload_n dL_law_212 rfl ?_
  refine e_aload_n dL_law_213 rfl ?_
  refine e_iload_n dL_law_214 rfl ?_
  refine e_iconst dL_law_215 kci_1 ?_
  refine e_iadd dL_law_216 ?_
  refine e_xald (j := i + 1) dL_law_217 (by rw [show (1 : Int32) = nI 1 from rfl, nI_add]) (by omega) hN31 ?_
  refine e_aload_n dL_law_218 rfl ?_
  refine e_iload_n dL_law_219 rfl ?_
  refine e_iconst dL_law_220 kci_2 ?_
  refine e_iadd dL_law_221 ?_
  refine e_xald (j := i + 2) dL_law_222 (by rw [show (2 : Int32) = nI 2 from rfl, nI_add]) (by omega) hN31 ?_
  refine e_aload_n dL_law_223 rfl ?_
  refine e_iload_n dL_law_224 rfl ?_
  refine e_iconst dL_law_225 kci_3 ?_
  refine e_iadd dL_law_226 ?_
  refine e_xald (j := i + 3) dL_law_227 (by rw [show (3 : Int32) = nI 3 from rfl, nI_add]) (by omega) hN31 ?_
  refine e_callV1 (μ' := mX8_row) (ci := 8) (As := [.int (Int32.ofNat (Γ.2.2.2 (100 + (i + 1)))), .int (Int32.ofNat (Γ.2.2.2 (100 + (i + 2)))), .int (Int32.ofNat (Γ.2.2.2 (100 + (i + 3))))]) dL_law_228 wl_L_13 ok_X8_row rfl rfl (fx_pi_lt (by decide)) (by decide) (Nat.le_of_ble_eq_true rfl) fx_n1 (s_X8_row (m := m) hL (Int32.ofNat (Γ.2.2.2 (100 + (i + 1)))) (Int32.ofNat (Γ.2.2.2 (100 + (i + 2)))) (Int32.ofNat (Γ.2.2.2 (100 + (i + 3))))) rfl ?_
  have hm := fr_hmS (M := fx_mRow m (67 + 2 * (p_ix (Int32.ofNat (Γ.2.2.2 (100 + (i + 1)))))) (Int32.ofNat (Γ.2.2.2 (100 + (i + 2)))) (Int32.ofNat (Γ.2.2.2 (100 + (i + 3))))) (b := (q_row (Int32.ofNat (Γ.2.2.2 (100 + (i + 1)))) (Int32.ofNat (Γ.2.2.2 (100 + (i + 2)))) (Int32.ofNat (Γ.2.2.2 (100 + (i + 3))))).1) R (fun e => fr_rowC R e)
  refine e_aload_n dL_law_231 rfl ?_
  refine e_aload_n dL_law_232 rfl ?_
  refine e_iload_n dL_law_233 rfl ?_
  refine e_iconst dL_law_234 kci_1 ?_
  refine e_iadd dL_law_235 ?_
  refine e_xald (j := i + 1) dL_law_236 (by rw [show (1 : Int32) = nI 1 from rfl, nI_add]) (by omega) hN31 ?_
  refine e_aload_n dL_law_237 rfl ?_
  refine e_iload_n dL_law_238 rfl ?_
  refine e_iconst dL_law_239 kci_2 ?_
  refine e_iadd dL_law_240 ?_
  refine e_xald (j := i + 2) dL_law_241 (by rw [show (2 : Int32) = nI 2 from rfl, nI_add]) (by omega) hN31 ?_
  refine e_aload_n dL_law_242 rfl ?_
  refine e_iload_n dL_law_243 rfl ?_
  refine e_iconst dL_law_244 kci_3 ?_
  refine e_iadd dL_law_245 ?_
  refine e_xald (j := i + 3) dL_law_246 (by rw [show (3 : Int32) = nI 3 from rfl, nI_add]) (by omega) hN31 ?_
  refine e_callV (μ' := mX9_row) (ci := 9) (As := [.int (Int32.ofNat (Γ.2.2.2 (100 + (i + 1)))), .int (Int32.ofNat (Γ.2.2.2 (100 + (i + 2)))), .int (Int32.ofNat (Γ.2.2.2 (100 + (i + 3))))]) dL_law_247 wl_L_17 ok_X9_row rfl rfl (fx_pi_lt (by decide)) (by decide) (Nat.le_of_ble_eq_true rfl) fx_n1 (s_X9_row (m := fx_qm m (q_row (Int32.ofNat (Γ.2.2.2 (100 + (i + 1)))) (Int32.ofNat (Γ.2.2.2 (100 + (i + 2)))) (Int32.ofNat (Γ.2.2.2 (100 + (i + 3))))).1 (fx_mRow m (67 + 2 * (p_ix (Int32.ofNat (Γ.2.2.2 (100 + (i + 1)))))) (Int32.ofNat (Γ.2.2.2 (100 + (i + 2)))) (Int32.ofNat (Γ.2.2.2 (100 + (i + 3)))))) hm.1 hm.2.2.1 (Int32.ofNat (Γ.2.2.2 (100 + (i + 1)))) (Int32.ofNat (Γ.2.2.2 (100 + (i + 2)))) (Int32.ofNat (Γ.2.2.2 (100 + (i + 3))))) rfl (fun r_ m_ hpost => ?_)
  revert r_ m_
  intro r_ m2 hpost
  obtain ⟨rfl, g1, g0⟩ := hpost
  refine e_icmp_eq 1622 dL_law_250 rfl (fun _ => ?_) (fun h => absurd rfl h)
  exact ih _ (fr_row R g1 g0)
set_option maxRecDepth 100000 in
set_option maxHeartbeats 600000 in
theorem s_law1 {Γ : fx_G} {nm : String} {i : Nat} (hN31 : Γ.2.2.2 98 < 2 ^ 31) (hi : i + 8 ≤ Γ.2.2.2 98) {m : fx_M} {na nd : Nat} (R : fr_R m na nd) (ih : ∀ m', fx_Rel m' → fx_E Γ (mL_law nm) 20 0 119 (fun r _ => r = some (.int 1)) 119 m' 1622 [some (.ref (Γ.2.2.2 99)), some (fx_rf Γ 0), some (fx_rf Γ 83), some (.int (nI i))] []) : fx_E Γ (mL_law nm) 20 0 119 (fun r _ => r = some (.int 1)) 119 m 255 [some (.ref (Γ.2.2.2 99)), some (fx_rf Γ 0), some (fx_rf Γ 83), some (.int (nI i))] [] := by
  have hL := R.1
  have h8 := R.2.1.1
  have h5 := R.2.1.2
  have hna := R.2.2.1.1
  have hnd := R.2.2.1.2.1
  have hcn := R.2.2.2.2.1.1
  refine e_aload_n dL_law_255 rfl ?_
  refine e_aload_n dL_law_256 rfl ?_
  refine e_iload_n dL_law_257 rfl ?_
  refine e_iconst dL_law_258 kci_1 ?_
  refine e_iadd dL_law_259 ?_
  refine e_xald (j := i + 1) dL_law_260 (by rw [show (1 : Int32) = nI 1 from rfl, nI_add]) (by omega) hN31 ?_
  refine e_aload_n dL_law_261 rfl ?_
  refine e_iload_n dL_law_262 rfl ?_
  refine e_iconst dL_law_263 kci_2 ?_
  refine e_iadd dL_law_264 ?_
  refine e_xald (j := i + 2) dL_law_265 (by rw [show (2 : Int32) = nI 2 from rfl, nI_add]) (by omega) hN31 ?_
  refine e_aload_n dL_law_266 rfl ?_
  refine e_iload_n dL_law_267 rfl ?_
  refine e_iconst dL_law_268 kci_3 ?_
  refine e_iadd dL_law_269 ?_
  refine e_xald (j := i + 3) dL_law_270 (by rw [show (3 : Int32) = nI 3 from rfl, nI_add]) (by omega) hN31 ?_
  refine e_i2l dL_law_271 ?_
  refine e_bipush dL_law_272 kcb_32 ?_
  refine e_lshl dL_law_274 ?_
  refine e_aload_n dL_law_275 rfl ?_
  refine e_iload_n dL_law_276 rfl ?_
  refine e_iconst dL_law_277 kci_4 ?_
  refine e_iadd dL_law_278 ?_
  refine e_xald (j := i + 4) dL_law_279 (by rw [show (4 : Int32) = nI 4 from rfl, nI_add]) (by omega) hN31 ?_
  refine e_i2l dL_law_280 ?_
  refine e_ldc2 dL_law_281 wq_L_18 ?_
  refine e_land dL_law_284 ?_
  refine e_lor dL_law_285 ?_
  refine e_callV1 (μ' := mX8_set) (ci := 8) (As := [.int (Int32.ofNat (Γ.2.2.2 (100 + (i + 1)))), .int (Int32.ofNat (Γ.2.2.2 (100 + (i + 2)))), .long ((((Int32.ofNat (Γ.2.2.2 (100 + (i + 3)))).toInt64) <<< (Int32.toInt64 32 &&& 63)) ||| (((Int32.ofNat (Γ.2.2.2 (100 + (i + 4)))).toInt64) &&& 4294967295))]) dL_law_286 wl_L_20 ok_X8_set rfl rfl (fx_pi_lt (by decide)) (by decide) (Nat.le_of_ble_eq_true rfl) fx_n1 (s_X8_set (m := m) hL (cn := (fx_uC m).2.2.1) hcn (Int32.ofNat (Γ.2.2.2 (100 + (i + 1)))) (Int32.ofNat (Γ.2.2.2 (100 + (i + 2)))) ((((Int32.ofNat (Γ.2.2.2 (100 + (i + 3)))).toInt64) <<< (Int32.toInt64 32 &&& 63)) ||| (((Int32.ofNat (Γ.2.2.2 (100 + (i + 4)))).toInt64) &&& 4294967295))) rfl ?_
  have hm := fr_hmS (M := fx_sJ m (67 + 2 * (p_ix (Int32.ofNat (Γ.2.2.2 (100 + (i + 1))))) + 1) (p_ix (Int32.ofNat (Γ.2.2.2 (100 + (i + 2))))) (p_nw (m.1 (67 + 2 * (p_ix (Int32.ofNat (Γ.2.2.2 (100 + (i + 1)))))) 1) ((((Int32.ofNat (Γ.2.2.2 (100 + (i + 3)))).toInt64) <<< (Int32.toInt64 32 &&& 63)) ||| (((Int32.ofNat (Γ.2.2.2 (100 + (i + 4)))).toInt64) &&& 4294967295)))) (b := (q_set (fun k => m.1 (67 + 2 * k) 1) (fun k => m.1 (67 + 2 * k) 3) (fx_uC m).2.2.1 (Int32.ofNat (Γ.2.2.2 (100 + (i + 1)))) (Int32.ofNat (Γ.2.2.2 (100 + (i + 2))))).1) R (fun e => fr_setC R e)
  refine e_aload_n dL_law_289 rfl ?_
  refine e_aload_n dL_law_290 rfl ?_
  refine e_iload_n dL_law_291 rfl ?_
  refine e_iconst dL_law_292 kci_1 ?_
  refine e_iadd dL_law_293 ?_
  refine e_xald (j := i + 1) dL_law_294 (by rw [show (1 : Int32) = nI 1 from rfl, nI_add]) (by omega) hN31 ?_
  refine e_aload_n dL_law_295 rfl ?_
  refine e_iload_n dL_law_296 rfl ?_
  refine e_iconst dL_law_297 kci_2 ?_
  refine e_iadd dL_law_298 ?_
  refine e_xald (j := i + 2) dL_law_299 (by rw [show (2 : Int32) = nI 2 from rfl, nI_add]) (by omega) hN31 ?_
  refine e_aload_n dL_law_300 rfl ?_
  refine e_iload_n dL_law_301 rfl ?_
  refine e_iconst dL_law_302 kci_3 ?_
  refine e_iadd dL_law_303 ?_
  refine e_xald (j := i + 3) dL_law_304 (by rw [show (3 : Int32) = nI 3 from rfl, nI_add]) (by omega) hN31 ?_
  refine e_i2l dL_law_305 ?_
  refine e_bipush dL_law_306 kcb_32 ?_
  refine e_lshl dL_law_308 ?_
  refine e_aload_n dL_law_309 rfl ?_
  refine e_iload_n dL_law_310 rfl ?_
  refine e_iconst dL_law_311 kci_4 ?_
  refine e_iadd dL_law_312 ?_
  refine e_xald (j := i + 4) dL_law_313 (by rw [show (4 : Int32) = nI 4 from rfl, nI_add]) (by omega) hN31 ?_
  refine e_i2l dL_law_314 ?_
  refine e_ldc2 dL_law_315 wq_L_18 ?_
  refine e_land dL_law_318 ?_
  refine e_lor dL_law_319 ?_
  refine e_callV (μ' := mX9_set) (ci := 9) (As := [.int (Int32.ofNat (Γ.2.2.2 (100 + (i + 1)))), .int (Int32.ofNat (Γ.2.2.2 (100 + (i + 2)))), .long ((((Int32.ofNat (Γ.2.2.2 (100 + (i + 3)))).toInt64) <<< (Int32.toInt64 32 &&& 63)) ||| (((Int32.ofNat (Γ.2.2.2 (100 + (i + 4)))).toInt64) &&& 4294967295))]) dL_law_320 wl_L_24 ok_X9_set rfl rfl (fx_pi_lt (by decide)) (by decide) (Nat.le_of_ble_eq_true rfl) fx_n1 (s_X9_set (m := fx_qm m (q_set (fun k => m.1 (67 + 2 * k) 1) (fun k => m.1 (67 + 2 * k) 3) (fx_uC m).2.2.1 (Int32.ofNat (Γ.2.2.2 (100 + (i + 1)))) (Int32.ofNat (Γ.2.2.2 (100 + (i + 2))))).1 (fx_sJ m (67 + 2 * (p_ix (Int32.ofNat (Γ.2.2.2 (100 + (i + 1))))) + 1) (p_ix (Int32.ofNat (Γ.2.2.2 (100 + (i + 2))))) (p_nw (m.1 (67 + 2 * (p_ix (Int32.ofNat (Γ.2.2.2 (100 + (i + 1)))))) 1) ((((Int32.ofNat (Γ.2.2.2 (100 + (i + 3)))).toInt64) <<< (Int32.toInt64 32 &&& 63)) ||| (((Int32.ofNat (Γ.2.2.2 (100 + (i + 4)))).toInt64) &&& 4294967295))))) hm.1 hm.2.2.1 (Int32.ofNat (Γ.2.2.2 (100 + (i + 1)))) (Int32.ofNat (Γ.2.2.2 (100 + (i + 2)))) ((((Int32.ofNat (Γ.2.2.2 (100 + (i + 3)))).toInt64) <<< (Int32.toInt64 32 &&& 63)) ||| (((Int32.ofNat (Γ.2.2.2 (100 + (i + 4)))).toInt64) &&& 4294967295))) rfl (fun r_ m_ hpost => ?_)
  revert r_ m_
  intro r_ m2 hpost
  obtain ⟨rfl, g1, g0⟩ := hpost
  refine e_icmp_eq 1622 dL_law_323 rfl (fun _ => ?_) (fun h => absurd rfl h)
  exact ih _ (fr_set R g1 g0)
set_option maxRecDepth 100000 in
set_option maxHeartbeats 600000 in
theorem s_law2 {Γ : fx_G} {nm : String} {i : Nat} (hN31 : Γ.2.2.2 98 < 2 ^ 31) (hi : i + 8 ≤ Γ.2.2.2 98) {m : fx_M} {na nd : Nat} (R : fr_R m na nd) (ih : ∀ m', fx_Rel m' → fx_E Γ (mL_law nm) 20 0 119 (fun r _ => r = some (.int 1)) 119 m' 1622 [some (.ref (Γ.2.2.2 99)), some (fx_rf Γ 0), some (fx_rf Γ 83), some (.int (nI i))] []) : fx_E Γ (mL_law nm) 20 0 119 (fun r _ => r = some (.int 1)) 119 m 328 [some (.ref (Γ.2.2.2 99)), some (fx_rf Γ 0), some (fx_rf Γ 83), some (.int (nI i))] [] := by
  have hL := R.1
  have h8 := R.2.1.1
  have h5 := R.2.1.2
  have hna := R.2.2.1.1
  have hnd := R.2.2.1.2.1
  have hcn := R.2.2.2.2.1.1
  refine e_aload_n dL_law_328 rfl ?_
  refine e_aload_n dL_law_329 rfl ?_
  refine e_iload_n dL_law_330 rfl ?_
  refine e_iconst dL_law_331 kci_1 ?_
  refine e_iadd dL_law_332 ?_
  refine e_xald (j := i + 1) dL_law_333 (by rw [show (1 : Int32) = nI 1 from rfl, nI_add]) (by omega) hN31 ?_
  refine e_aload_n dL_law_334 rfl ?_
  refine e_iload_n dL_law_335 rfl ?_
  refine e_iconst dL_law_336 kci_2 ?_
  refine e_iadd dL_law_337 ?_
  refine e_xald (j := i + 2) dL_law_338 (by rw [show (2 : Int32) = nI 2 from rfl, nI_add]) (by omega) hN31 ?_
  refine e_aload_n dL_law_339 rfl ?_
  refine e_iload_n dL_law_340 rfl ?_
  refine e_iconst dL_law_341 kci_3 ?_
  refine e_iadd dL_law_342 ?_
  refine e_xald (j := i + 3) dL_law_343 (by rw [show (3 : Int32) = nI 3 from rfl, nI_add]) (by omega) hN31 ?_
  refine e_aload_n dL_law_344 rfl ?_
  refine e_iload_n dL_law_345 rfl ?_
  refine e_iconst dL_law_346 kci_4 ?_
  refine e_iadd dL_law_347 ?_
  refine e_xald (j := i + 4) dL_law_348 (by rw [show (4 : Int32) = nI 4 from rfl, nI_add]) (by omega) hN31 ?_
  refine e_aload_n dL_law_349 rfl ?_
  refine e_iload_n dL_law_350 rfl ?_
  refine e_iconst dL_law_351 kci_5 ?_
  refine e_iadd dL_law_352 ?_
  refine e_xald (j := i + 5) dL_law_353 (by rw [show (5 : Int32) = nI 5 from rfl, nI_add]) (by omega) hN31 ?_
  refine e_callV1 (μ' := mX8_copy) (ci := 8) (As := [.int (Int32.ofNat (Γ.2.2.2 (100 + (i + 1)))), .int (Int32.ofNat (Γ.2.2.2 (100 + (i + 2)))), .int (Int32.ofNat (Γ.2.2.2 (100 + (i + 3)))), .int (Int32.ofNat (Γ.2.2.2 (100 + (i + 4)))), .int (Int32.ofNat (Γ.2.2.2 (100 + (i + 5))))]) dL_law_354 wl_L_25 ok_X8_copy rfl rfl (fx_pi_lt (by decide)) (by decide) (Nat.le_of_ble_eq_true rfl) fx_n1 (s_X8_copy (m := m) hL (cn := (fx_uC m).2.2.1) hcn (Int32.ofNat (Γ.2.2.2 (100 + (i + 1)))) (Int32.ofNat (Γ.2.2.2 (100 + (i + 2)))) (Int32.ofNat (Γ.2.2.2 (100 + (i + 3)))) (Int32.ofNat (Γ.2.2.2 (100 + (i + 4)))) (Int32.ofNat (Γ.2.2.2 (100 + (i + 5))))) rfl ?_
  have hm := fr_hmS (M := fx_cpJ m (67 + 2 * (p_ix (Int32.ofNat (Γ.2.2.2 (100 + (i + 1))))) + 1) (67 + 2 * (p_ix (Int32.ofNat (Γ.2.2.2 (100 + (i + 2))))) + 1) (p_ix (Int32.ofNat (Γ.2.2.2 (100 + (i + 3))))) (p_ix (Int32.ofNat (Γ.2.2.2 (100 + (i + 4))))) (p_ix (Int32.ofNat (Γ.2.2.2 (100 + (i + 5)))))) (b := (q_copy (fun k => m.1 (67 + 2 * k) 1) (fun k => m.1 (67 + 2 * k) 3) (fx_uC m).2.2.1 (Int32.ofNat (Γ.2.2.2 (100 + (i + 1)))) (Int32.ofNat (Γ.2.2.2 (100 + (i + 2)))) (Int32.ofNat (Γ.2.2.2 (100 + (i + 3)))) (Int32.ofNat (Γ.2.2.2 (100 + (i + 4)))) (Int32.ofNat (Γ.2.2.2 (100 + (i + 5))))).1) R (fun e => fr_copyC R e)
  refine e_aload_n dL_law_357 rfl ?_
  refine e_aload_n dL_law_358 rfl ?_
  refine e_iload_n dL_law_359 rfl ?_
  refine e_iconst dL_law_360 kci_1 ?_
  refine e_iadd dL_law_361 ?_
  refine e_xald (j := i + 1) dL_law_362 (by rw [show (1 : Int32) = nI 1 from rfl, nI_add]) (by omega) hN31 ?_
  refine e_aload_n dL_law_363 rfl ?_
  refine e_iload_n dL_law_364 rfl ?_
  refine e_iconst dL_law_365 kci_2 ?_
  refine e_iadd dL_law_366 ?_
  refine e_xald (j := i + 2) dL_law_367 (by rw [show (2 : Int32) = nI 2 from rfl, nI_add]) (by omega) hN31 ?_
  refine e_aload_n dL_law_368 rfl ?_
  refine e_iload_n dL_law_369 rfl ?_
  refine e_iconst dL_law_370 kci_3 ?_
  refine e_iadd dL_law_371 ?_
  refine e_xald (j := i + 3) dL_law_372 (by rw [show (3 : Int32) = nI 3 from rfl, nI_add]) (by omega) hN31 ?_
  refine e_aload_n dL_law_373 rfl ?_
  refine e_iload_n dL_law_374 rfl ?_
  refine e_iconst dL_law_375 kci_4 ?_
  refine e_iadd dL_law_376 ?_
  refine e_xald (j := i + 4) dL_law_377 (by rw [show (4 : Int32) = nI 4 from rfl, nI_add]) (by omega) hN31 ?_
  refine e_aload_n dL_law_378 rfl ?_
  refine e_iload_n dL_law_379 rfl ?_
  refine e_iconst dL_law_380 kci_5 ?_
  refine e_iadd dL_law_381 ?_
  refine e_xald (j := i + 5) dL_law_382 (by rw [show (5 : Int32) = nI 5 from rfl, nI_add]) (by omega) hN31 ?_
  refine e_callV (μ' := mX9_copy) (ci := 9) (As := [.int (Int32.ofNat (Γ.2.2.2 (100 + (i + 1)))), .int (Int32.ofNat (Γ.2.2.2 (100 + (i + 2)))), .int (Int32.ofNat (Γ.2.2.2 (100 + (i + 3)))), .int (Int32.ofNat (Γ.2.2.2 (100 + (i + 4)))), .int (Int32.ofNat (Γ.2.2.2 (100 + (i + 5))))]) dL_law_383 wl_L_29 ok_X9_copy rfl rfl (fx_pi_lt (by decide)) (by decide) (Nat.le_of_ble_eq_true rfl) fx_n1 (s_X9_copy (m := fx_qm m (q_copy (fun k => m.1 (67 + 2 * k) 1) (fun k => m.1 (67 + 2 * k) 3) (fx_uC m).2.2.1 (Int32.ofNat (Γ.2.2.2 (100 + (i + 1)))) (Int32.ofNat (Γ.2.2.2 (100 + (i + 2)))) (Int32.ofNat (Γ.2.2.2 (100 + (i + 3)))) (Int32.ofNat (Γ.2.2.2 (100 + (i + 4)))) (Int32.ofNat (Γ.2.2.2 (100 + (i + 5))))).1 (fx_cpJ m (67 + 2 * (p_ix (Int32.ofNat (Γ.2.2.2 (100 + (i + 1))))) + 1) (67 + 2 * (p_ix (Int32.ofNat (Γ.2.2.2 (100 + (i + 2))))) + 1) (p_ix (Int32.ofNat (Γ.2.2.2 (100 + (i + 3))))) (p_ix (Int32.ofNat (Γ.2.2.2 (100 + (i + 4))))) (p_ix (Int32.ofNat (Γ.2.2.2 (100 + (i + 5))))))) hm.1 hm.2.2.1 (Int32.ofNat (Γ.2.2.2 (100 + (i + 1)))) (Int32.ofNat (Γ.2.2.2 (100 + (i + 2)))) (Int32.ofNat (Γ.2.2.2 (100 + (i + 3)))) (Int32.ofNat (Γ.2.2.2 (100 + (i + 4)))) (Int32.ofNat (Γ.2.2.2 (100 + (i + 5))))) rfl (fun r_ m_ hpost => ?_)
  revert r_ m_
  intro r_ m2 hpost
  obtain ⟨rfl, g1, g0⟩ := hpost
  refine e_icmp_eq 1622 dL_law_386 rfl (fun _ => ?_) (fun h => absurd rfl h)
  exact ih _ (fr_copy R g1 g0)
set_option maxRecDepth 100000 in
set_option maxHeartbeats 600000 in
theorem s_law4 {Γ : fx_G} {nm : String} {i : Nat} (hN31 : Γ.2.2.2 98 < 2 ^ 31) (hi : i + 8 ≤ Γ.2.2.2 98) {m : fx_M} {na nd : Nat} (R : fr_R m na nd) (ih : ∀ m', fx_Rel m' → fx_E Γ (mL_law nm) 20 0 119 (fun r _ => r = some (.int 1)) 119 m' 1622 [some (.ref (Γ.2.2.2 99)), some (fx_rf Γ 0), some (fx_rf Γ 83), some (.int (nI i))] []) : fx_E Γ (mL_law nm) 20 0 119 (fun r _ => r = some (.int 1)) 119 m 425 [some (.ref (Γ.2.2.2 99)), some (fx_rf Γ 0), some (fx_rf Γ 83), some (.int (nI i))] [] := by
  have hL := R.1
  have h8 := R.2.1.1
  have h5 := R.2.1.2
  have hna := R.2.2.1.1
  have hnd := R.2.2.1.2.1
  have hcn := R.2.2.2.2.1.1
  refine e_aload_n dL_law_425 rfl ?_
  refine e_aload_n dL_law_426 rfl ?_
  refine e_iload_n dL_law_427 rfl ?_
  refine e_iconst dL_law_428 kci_1 ?_
  refine e_iadd dL_law_429 ?_
  refine e_xald (j := i + 1) dL_law_430 (by rw [show (1 : Int32) = nI 1 from rfl, nI_add]) (by omega) hN31 ?_
  refine e_aload_n dL_law_431 rfl ?_
  refine e_iload_n dL_law_432 rfl ?_
  refine e_iconst dL_law_433 kci_2 ?_
  refine e_iadd dL_law_434 ?_
  refine e_xald (j := i + 2) dL_law_435 (by rw [show (2 : Int32) = nI 2 from rfl, nI_add]) (by omega) hN31 ?_
  refine e_callV1 (μ' := mX8_show) (ci := 8) (As := [.int (Int32.ofNat (Γ.2.2.2 (100 + (i + 1)))), .int (Int32.ofNat (Γ.2.2.2 (100 + (i + 2))))]) dL_law_436 wl_L_35 ok_X8_show rfl rfl (fx_pi_lt (by decide)) (by decide) (Nat.le_of_ble_eq_true rfl) fx_n1 (s_X8_show (m := m) hL hna h8 (Int32.ofNat (Γ.2.2.2 (100 + (i + 1)))) (Int32.ofNat (Γ.2.2.2 (100 + (i + 2))))) rfl ?_
  have hm := fr_hmS (M := fx_mShow m (67 + 2 * (p_ix (Int32.ofNat (Γ.2.2.2 (100 + (i + 1)))))) (Int32.ofNat (Γ.2.2.2 (100 + (i + 2))))) (b := (q_show na (Int32.ofNat (Γ.2.2.2 (100 + (i + 1)))) (Int32.ofNat (Γ.2.2.2 (100 + (i + 2))))).1) R (fun e => fr_showC R e)
  refine e_aload_n dL_law_439 rfl ?_
  refine e_aload_n dL_law_440 rfl ?_
  refine e_iload_n dL_law_441 rfl ?_
  refine e_iconst dL_law_442 kci_1 ?_
  refine e_iadd dL_law_443 ?_
  refine e_xald (j := i + 1) dL_law_444 (by rw [show (1 : Int32) = nI 1 from rfl, nI_add]) (by omega) hN31 ?_
  refine e_aload_n dL_law_445 rfl ?_
  refine e_iload_n dL_law_446 rfl ?_
  refine e_iconst dL_law_447 kci_2 ?_
  refine e_iadd dL_law_448 ?_
  refine e_xald (j := i + 2) dL_law_449 (by rw [show (2 : Int32) = nI 2 from rfl, nI_add]) (by omega) hN31 ?_
  refine e_callV (μ' := mX9_show) (ci := 9) (As := [.int (Int32.ofNat (Γ.2.2.2 (100 + (i + 1)))), .int (Int32.ofNat (Γ.2.2.2 (100 + (i + 2))))]) dL_law_450 wl_L_39 ok_X9_show rfl rfl (fx_pi_lt (by decide)) (by decide) (Nat.le_of_ble_eq_true rfl) fx_n1 (s_X9_show (m := fx_qm m (q_show na (Int32.ofNat (Γ.2.2.2 (100 + (i + 1)))) (Int32.ofNat (Γ.2.2.2 (100 + (i + 2))))).1 (fx_mShow m (67 + 2 * (p_ix (Int32.ofNat (Γ.2.2.2 (100 + (i + 1)))))) (Int32.ofNat (Γ.2.2.2 (100 + (i + 2)))))) hm.1 hm.2.1 hm.2.2.1 (Int32.ofNat (Γ.2.2.2 (100 + (i + 1)))) (Int32.ofNat (Γ.2.2.2 (100 + (i + 2))))) rfl (fun r_ m_ hpost => ?_)
  revert r_ m_
  intro r_ m2 hpost
  obtain ⟨rfl, g1, g0⟩ := hpost
  refine e_icmp_eq 1622 dL_law_453 rfl (fun _ => ?_) (fun h => absurd rfl h)
  exact ih _ (fr_show R g1 g0)
set_option maxRecDepth 100000 in
set_option maxHeartbeats 600000 in
theorem s_law14 {Γ : fx_G} {nm : String} {i : Nat} (hN31 : Γ.2.2.2 98 < 2 ^ 31) (hi : i + 8 ≤ Γ.2.2.2 98) {m : fx_M} {na nd : Nat} (R : fr_R m na nd) (ih : ∀ m', fx_Rel m' → fx_E Γ (mL_law nm) 20 0 119 (fun r _ => r = some (.int 1)) 119 m' 1622 [some (.ref (Γ.2.2.2 99)), some (fx_rf Γ 0), some (fx_rf Γ 83), some (.int (nI i))] []) : fx_E Γ (mL_law nm) 20 0 119 (fun r _ => r = some (.int 1)) 119 m 861 [some (.ref (Γ.2.2.2 99)), some (fx_rf Γ 0), some (fx_rf Γ 83), some (.int (nI i))] [] := by
  have hL := R.1
  have h8 := R.2.1.1
  have h5 := R.2.1.2
  have hna := R.2.2.1.1
  have hnd := R.2.2.1.2.1
  have hcn := R.2.2.2.2.1.1
  obtain ⟨RES, hRES⟩ : ∃ z, z = p_rA (p_rdI (fx_uC m) (p_ix (Int32.ofNat (Γ.2.2.2 (100 + (i + 1)))))) ((fx_uC m).2.2.1 (p_ix (Int32.ofNat (Γ.2.2.2 (100 + (i + 1)))))) 160 1 0 na nd (fx_tC m) := ⟨_, rfl⟩
  refine e_aload_n dL_law_861 rfl ?_
  refine e_aload_n dL_law_862 rfl ?_
  refine e_iload_n dL_law_863 rfl ?_
  refine e_iconst dL_law_864 kci_1 ?_
  refine e_iadd dL_law_865 ?_
  refine e_xald (j := i + 1) dL_law_866 (by rw [show (1 : Int32) = nI 1 from rfl, nI_add]) (by omega) hN31 ?_
  refine e_callV (μ' := mX8_shop) (ci := 8) (As := [.int (Int32.ofNat (Γ.2.2.2 (100 + (i + 1))))]) dL_law_867 wl_L_79 ok_X8_shop rfl rfl (fx_pi_lt (by decide)) (by decide) (Nat.le_of_ble_eq_true rfl) fx_n1 (s_X8_shop (m := m) hL (cn := (fx_uC m).2.2.1) hcn h8 h5 R.H R.2.2.1.2.2.1 R.2.2.2.1.2 (rd := p_rdI (fx_uC m)) (fun _ _ _ _ => rfl) (Int32.ofNat (Γ.2.2.2 (100 + (i + 1)))) (RES := RES) hRES) rfl (fun r_ m_ hpost => ?_)
  revert r_ m_
  intro r_ m1 hpost
  have hr : r_ = some (.int (if p_bR (fx_uC m).1 (fx_uC m).2.1 (Int32.ofNat (Γ.2.2.2 (100 + (i + 1)))) ≠ 0 then -(nI (p_bR (fx_uC m).1 (fx_uC m).2.1 (Int32.ofNat (Γ.2.2.2 (100 + (i + 1)))))) else if RES.1 = none then nI RES.2.1 else -6)) := by by_cases e : p_bR (fx_uC m).1 (fx_uC m).2.1 (Int32.ofNat (Γ.2.2.2 (100 + (i + 1)))) = 0; (rw [if_neg (not_not_intro e)]; cases c : RES.1 with | none => (rw [if_pos rfl]; exact ((hpost.2 e).2.2.2.2.2.2 c).1) | some f => (rw [if_neg (by intro h; cases h)]; exact ((hpost.2 e).2.2.2.2.2.1 f c).1)); (rw [if_pos e]; exact (hpost.1 e).1)
  subst hr
  have c1 := fun e => (hpost.1 e).2
  have c0 : p_bR (fx_uC m).1 (fx_uC m).2.1 (Int32.ofNat (Γ.2.2.2 (100 + (i + 1)))) = 0 → fr_sC m m1 RES := fun e => ⟨(hpost.2 e).1, (hpost.2 e).2.1, (hpost.2 e).2.2.1, (hpost.2 e).2.2.2.1, fun f c => ((hpost.2 e).2.2.2.2.2.1 f c).2, fun c => ⟨((hpost.2 e).2.2.2.2.2.2 c).2.1, ((hpost.2 e).2.2.2.2.2.2 c).2.2.1, ((hpost.2 e).2.2.2.2.2.2 c).2.2.2.1, ((hpost.2 e).2.2.2.2.2.2 c).2.2.2.2.1, ((hpost.2 e).2.2.2.2.2.2 c).2.2.2.2.2.2⟩⟩
  have cm := fr_shopM R c1 c0
  have hm := R.mod cm (fun o h => by omega) (fun _ h => h.elim)
  refine e_aload_n dL_law_870 rfl ?_
  refine e_aload_n dL_law_871 rfl ?_
  refine e_iload_n dL_law_872 rfl ?_
  refine e_iconst dL_law_873 kci_1 ?_
  refine e_iadd dL_law_874 ?_
  refine e_xald (j := i + 1) dL_law_875 (by rw [show (1 : Int32) = nI 1 from rfl, nI_add]) (by omega) hN31 ?_
  refine e_callV (μ' := mX9_shop) (ci := 9) (As := [.int (Int32.ofNat (Γ.2.2.2 (100 + (i + 1))))]) dL_law_876 wl_L_82 ok_X9_shop rfl rfl (fx_pi_lt (by decide)) (by decide) (Nat.le_of_ble_eq_true rfl) fx_n1 (s_X9_shop (m := m1) hm.1 hm.2.1 h8 hm.2.2.1 hm.2.2.2.2 (Int32.ofNat (Γ.2.2.2 (100 + (i + 1))))) rfl (fun r_ m_ hpost => ?_)
  revert r_ m_
  intro r_ m2 hpost
  rw [← hRES] at hpost
  have hr : r_ = some (.int (if p_bR (fx_uC m).1 (fx_uC m).2.1 (Int32.ofNat (Γ.2.2.2 (100 + (i + 1)))) ≠ 0 then -(nI (p_bR (fx_uC m).1 (fx_uC m).2.1 (Int32.ofNat (Γ.2.2.2 (100 + (i + 1)))))) else if RES.1 = none then nI RES.2.1 else -6)) := by by_cases e : p_bR (fx_uC m).1 (fx_uC m).2.1 (Int32.ofNat (Γ.2.2.2 (100 + (i + 1)))) = 0; (rw [if_neg (not_not_intro e)]; cases c : RES.1 with | none => (rw [if_pos rfl]; exact ((hpost.2 e).2 c).1) | some f => (rw [if_neg (by intro h; cases h)]; exact ((hpost.2 e).1 f c).1)); (rw [if_pos e]; exact (hpost.1 e).1)
  subst hr
  refine e_icmp_eq 1622 dL_law_879 rfl (fun _ => ?_) (fun h => absurd rfl h)
  exact ih _ (fr_shop R c1 c0 (fun e => (hpost.1 e).2) (fun e => ⟨fun f c => ((hpost.2 e).1 f c).2, fun c => ((hpost.2 e).2 c).2⟩) (fun c => by rw [hRES] at c ⊢; exact p_sp.text _ _ _ _ _ _ R.sp c) (by rw [hRES]; exact p_rA_na _ _ _ _ _ _))

/-! ===== the law: its first calls ===== -/
abbrev mL_law : gMD := (yL_law, cL_law, 4, some .boolean)
section C90
variable {Γ : gM} {d j : Nat} {h : gH} {Q : Option Value → gH → Prop} {S : GS}
set_option maxRecDepth 100000 in
set_option maxHeartbeats 4000000 in
theorem L_0 (hd : 20 ≤ d) (hj : j + 6 ≤ Γ.2.2.2.1.2.1) (hRC : RC h S) (hRM : RM h S) (kk : ∀ h' S', RC h' S' → RM h' S' → V Γ mL_law d 124 124 h' 1346 [some (.ref 1000), some (.ref 0), some (.ref 94), some (.int (nI j))] [] Q) : V Γ mL_law d 124 124 h 184 [some (.ref 1000), some (.ref 0), some (.ref 94), some (.int (nI j))] [] Q := by
  refine V_aloadn1 dL_law_184 ?_
  refine V_aloadn0 dL_law_185 ?_
  refine V_iloadn3 dL_law_186 ?_
  refine V_iconst (v := nI 1) dL_law_187 (by decide) ?_
  first | refine U_iadd dL_law_188 (by with_reducible rfl) (by with_reducible rfl) ?_ | refine V_iadd dL_law_188 ?_
  refine V_sld dL_law_189 (by omega) ?_
  refine V_callV1 (μ' := mX9_letters) dL_law_190 okX9_letters lL_13 rfl (by first | assumption | rfl) (by first | decide | omega) (Nat.le_of_ble_eq_true rfl) (Nat.le_of_ble_eq_true rfl) (by omega) ?_
  refine c_letters (by omega) hRC (fun h1 r1 f1 => ?_)
  have hM1 := RM_C hRM f1
  dsimp only [gPush]
  refine V_aloadn2 dL_law_193 ?_
  refine V_aloadn0 dL_law_194 ?_
  refine V_iloadn3 dL_law_195 ?_
  refine V_iconst (v := nI 1) dL_law_196 (by decide) ?_
  first | refine U_iadd dL_law_197 (by with_reducible rfl) (by with_reducible rfl) ?_ | refine V_iadd dL_law_197 ?_
  refine V_sld dL_law_198 (by omega) ?_
  refine V_callV1 (μ' := mX10_letters) dL_law_199 okX10_letters lL_17 rfl (by first | assumption | rfl) (by first | decide | omega) (Nat.le_of_ble_eq_true rfl) (Nat.le_of_ble_eq_true rfl) (by omega) ?_
  refine m_letters (by omega) hM1 hRC.2.1 (fun h2 r2 f2 => ?_)
  dsimp only [gPush]
  refine V_icmp_eq (tgt := 1346) dL_law_202 (by decide) (fun c202 => ?_) (fun c202 => ?_)
  · skip
    exact kk h2 _ (RC_D r1 f2) r2
  · skip
    exact absurd rfl c202
set_option maxRecDepth 100000 in
set_option maxHeartbeats 4000000 in
theorem L_1 (hd : 20 ≤ d) (hj : j + 6 ≤ Γ.2.2.2.1.2.1) (hRC : RC h S) (hRM : RM h S) (kk : ∀ h' S', RC h' S' → RM h' S' → V Γ mL_law d 124 124 h' 1346 [some (.ref 1000), some (.ref 0), some (.ref 94), some (.int (nI j))] [] Q) : V Γ mL_law d 124 124 h 207 [some (.ref 1000), some (.ref 0), some (.ref 94), some (.int (nI j))] [] Q := by
  refine V_aloadn1 dL_law_207 ?_
  refine V_aloadn0 dL_law_208 ?_
  refine V_iloadn3 dL_law_209 ?_
  refine V_iconst (v := nI 1) dL_law_210 (by decide) ?_
  first | refine U_iadd dL_law_211 (by with_reducible rfl) (by with_reducible rfl) ?_ | refine V_iadd dL_law_211 ?_
  refine V_sld dL_law_212 (by omega) ?_
  refine V_aloadn0 dL_law_213 ?_
  refine V_iloadn3 dL_law_214 ?_
  refine V_iconst (v := nI 2) dL_law_215 (by decide) ?_
  first | refine U_iadd dL_law_216 (by with_reducible rfl) (by with_reducible rfl) ?_ | refine V_iadd dL_law_216 ?_
  refine V_sld dL_law_217 (by omega) ?_
  refine V_callV2 (μ' := mX9_word) dL_law_218 okX9_word lL_18 rfl (by first | assumption | rfl) (by first | decide | omega) (Nat.le_of_ble_eq_true rfl) (Nat.le_of_ble_eq_true rfl) (by omega) ?_
  refine c_word (by omega) hRC (fun h1 r1 f1 => ?_)
  have hM1 := RM_C hRM f1
  dsimp only [gPush]
  refine V_aloadn2 dL_law_221 ?_
  refine V_aloadn0 dL_law_222 ?_
  refine V_iloadn3 dL_law_223 ?_
  refine V_iconst (v := nI 1) dL_law_224 (by decide) ?_
  first | refine U_iadd dL_law_225 (by with_reducible rfl) (by with_reducible rfl) ?_ | refine V_iadd dL_law_225 ?_
  refine V_sld dL_law_226 (by omega) ?_
  refine V_aloadn0 dL_law_227 ?_
  refine V_iloadn3 dL_law_228 ?_
  refine V_iconst (v := nI 2) dL_law_229 (by decide) ?_
  first | refine U_iadd dL_law_230 (by with_reducible rfl) (by with_reducible rfl) ?_ | refine V_iadd dL_law_230 ?_
  refine V_sld dL_law_231 (by omega) ?_
  refine V_callV2 (μ' := mX10_word) dL_law_232 okX10_word lL_22 rfl (by first | assumption | rfl) (by first | decide | omega) (Nat.le_of_ble_eq_true rfl) (Nat.le_of_ble_eq_true rfl) (by omega) ?_
  refine m_word (by omega) hM1 hRC.2.1 (fun h2 r2 f2 => ?_)
  dsimp only [gPush]
  refine V_icmp_eq (tgt := 1346) dL_law_235 (by decide) (fun c235 => ?_) (fun c235 => ?_)
  · skip
    exact kk h2 _ (RC_D r1 f2) r2
  · skip
    exact absurd rfl c235
set_option maxRecDepth 100000 in
set_option maxHeartbeats 4000000 in
theorem L_2 (hd : 20 ≤ d) (hj : j + 6 ≤ Γ.2.2.2.1.2.1) (hRC : RC h S) (hRM : RM h S) (kk : ∀ h' S', RC h' S' → RM h' S' → V Γ mL_law d 124 124 h' 1346 [some (.ref 1000), some (.ref 0), some (.ref 94), some (.int (nI j))] [] Q) : V Γ mL_law d 124 124 h 240 [some (.ref 1000), some (.ref 0), some (.ref 94), some (.int (nI j))] [] Q := by
  refine V_aloadn1 dL_law_240 ?_
  refine V_aloadn0 dL_law_241 ?_
  refine V_iloadn3 dL_law_242 ?_
  refine V_iconst (v := nI 1) dL_law_243 (by decide) ?_
  first | refine U_iadd dL_law_244 (by with_reducible rfl) (by with_reducible rfl) ?_ | refine V_iadd dL_law_244 ?_
  refine V_sld dL_law_245 (by omega) ?_
  refine V_i2l dL_law_246 rfl ?_
  refine V_bipush (v := nI 32) dL_law_247 (by decide) ?_
  refine V_lshl dL_law_249 rfl ?_
  refine V_aloadn0 dL_law_250 ?_
  refine V_iloadn3 dL_law_251 ?_
  refine V_iconst (v := nI 2) dL_law_252 (by decide) ?_
  first | refine U_iadd dL_law_253 (by with_reducible rfl) (by with_reducible rfl) ?_ | refine V_iadd dL_law_253 ?_
  refine V_sld dL_law_254 (by omega) ?_
  refine V_i2l dL_law_255 rfl ?_
  refine V_ldc2 (v := 4294967295) dL_law_256 kL_23 ?_
  refine V_land dL_law_259 ?_
  refine V_lor dL_law_260 ?_
  refine V_aloadn0 dL_law_261 ?_
  refine V_iloadn3 dL_law_262 ?_
  refine V_iconst (v := nI 3) dL_law_263 (by decide) ?_
  first | refine U_iadd dL_law_264 (by with_reducible rfl) (by with_reducible rfl) ?_ | refine V_iadd dL_law_264 ?_
  refine V_sld dL_law_265 (by omega) ?_
  refine V_callV2 (μ' := mX9_feed) dL_law_266 okX9_feed lL_25 rfl (by first | assumption | rfl) (by first | decide | omega) (Nat.le_of_ble_eq_true rfl) (Nat.le_of_ble_eq_true rfl) (by omega) ?_
  refine c_feed (by omega) hRC (fun h1 r1 f1 => ?_)
  have hM1 := RM_C hRM f1
  dsimp only [gPush]
  refine V_aloadn2 dL_law_269 ?_
  refine V_aloadn0 dL_law_270 ?_
  refine V_iloadn3 dL_law_271 ?_
  refine V_iconst (v := nI 1) dL_law_272 (by decide) ?_
  first | refine U_iadd dL_law_273 (by with_reducible rfl) (by with_reducible rfl) ?_ | refine V_iadd dL_law_273 ?_
  refine V_sld dL_law_274 (by omega) ?_
  refine V_i2l dL_law_275 rfl ?_
  refine V_bipush (v := nI 32) dL_law_276 (by decide) ?_
  refine V_lshl dL_law_278 rfl ?_
  refine V_aloadn0 dL_law_279 ?_
  refine V_iloadn3 dL_law_280 ?_
  refine V_iconst (v := nI 2) dL_law_281 (by decide) ?_
  first | refine U_iadd dL_law_282 (by with_reducible rfl) (by with_reducible rfl) ?_ | refine V_iadd dL_law_282 ?_
  refine V_sld dL_law_283 (by omega) ?_
  refine V_i2l dL_law_284 rfl ?_
  refine V_ldc2 (v := 4294967295) dL_law_285 kL_23 ?_
  refine V_land dL_law_288 ?_
  refine V_lor dL_law_289 ?_
  refine V_aloadn0 dL_law_290 ?_
  refine V_iloadn3 dL_law_291 ?_
  refine V_iconst (v := nI 3) dL_law_292 (by decide) ?_
  first | refine U_iadd dL_law_293 (by with_reducible rfl) (by with_reducible rfl) ?_ | refine V_iadd dL_law_293 ?_
  refine V_sld dL_law_294 (by omega) ?_
  refine V_callV2 (μ' := mX10_feed) dL_law_295 okX10_feed lL_29 rfl (by first | assumption | rfl) (by first | decide | omega) (Nat.le_of_ble_eq_true rfl) (Nat.le_of_ble_eq_true rfl) (by omega) ?_
  refine m_feed (by omega) hM1 hRC.2.1 (fun h2 r2 f2 => ?_)
  dsimp only [gPush]
  refine V_icmp_eq (tgt := 1346) dL_law_298 (by decide) (fun c298 => ?_) (fun c298 => ?_)
  · skip
    exact kk h2 _ (RC_D r1 f2) r2
  · skip
    exact absurd rfl c298
set_option maxRecDepth 100000 in
set_option maxHeartbeats 4000000 in
theorem L_3 (hd : 20 ≤ d) (hj : j + 6 ≤ Γ.2.2.2.1.2.1) (hRC : RC h S) (hRM : RM h S) (kk : ∀ h' S', RC h' S' → RM h' S' → V Γ mL_law d 124 124 h' 1346 [some (.ref 1000), some (.ref 0), some (.ref 94), some (.int (nI j))] [] Q) : V Γ mL_law d 124 124 h 303 [some (.ref 1000), some (.ref 0), some (.ref 94), some (.int (nI j))] [] Q := by
  refine V_aloadn1 dL_law_303 ?_
  refine V_aloadn0 dL_law_304 ?_
  refine V_iloadn3 dL_law_305 ?_
  refine V_iconst (v := nI 1) dL_law_306 (by decide) ?_
  first | refine U_iadd dL_law_307 (by with_reducible rfl) (by with_reducible rfl) ?_ | refine V_iadd dL_law_307 ?_
  refine V_sld dL_law_308 (by omega) ?_
  refine V_callV1 (μ' := mX9_tableau) dL_law_309 okX9_tableau lL_30 rfl (by first | assumption | rfl) (by first | decide | omega) (Nat.le_of_ble_eq_true rfl) (Nat.le_of_ble_eq_true rfl) (by omega) ?_
  refine c_tableau (by omega) hRC (fun h1 r1 f1 => ?_)
  have hM1 := RM_C hRM f1
  dsimp only [gPush]
  refine V_aloadn2 dL_law_312 ?_
  refine V_aloadn0 dL_law_313 ?_
  refine V_iloadn3 dL_law_314 ?_
  refine V_iconst (v := nI 1) dL_law_315 (by decide) ?_
  first | refine U_iadd dL_law_316 (by with_reducible rfl) (by with_reducible rfl) ?_ | refine V_iadd dL_law_316 ?_
  refine V_sld dL_law_317 (by omega) ?_
  refine V_callV1 (μ' := mX10_tableau) dL_law_318 okX10_tableau lL_33 rfl (by first | assumption | rfl) (by first | decide | omega) (Nat.le_of_ble_eq_true rfl) (Nat.le_of_ble_eq_true rfl) (by omega) ?_
  refine m_tableau (by omega) hM1 hRC.2.1 (fun h2 r2 f2 => ?_)
  dsimp only [gPush]
  refine V_icmp_eq (tgt := 1346) dL_law_321 (by decide) (fun c321 => ?_) (fun c321 => ?_)
  · skip
    exact kk h2 _ (RC_D r1 f2) r2
  · skip
    exact absurd rfl c321
set_option maxRecDepth 100000 in
set_option maxHeartbeats 4000000 in
theorem L_4 (hd : 20 ≤ d) (hj : j + 6 ≤ Γ.2.2.2.1.2.1) (hRC : RC h S) (hRM : RM h S) (kk : ∀ h' S', RC h' S' → RM h' S' → V Γ mL_law d 124 124 h' 1346 [some (.ref 1000), some (.ref 0), some (.ref 94), some (.int (nI j))] [] Q) : V Γ mL_law d 124 124 h 326 [some (.ref 1000), some (.ref 0), some (.ref 94), some (.int (nI j))] [] Q := by
  refine V_aloadn1 dL_law_326 ?_
  refine V_aloadn0 dL_law_327 ?_
  refine V_iloadn3 dL_law_328 ?_
  refine V_iconst (v := nI 1) dL_law_329 (by decide) ?_
  first | refine U_iadd dL_law_330 (by with_reducible rfl) (by with_reducible rfl) ?_ | refine V_iadd dL_law_330 ?_
  refine V_sld dL_law_331 (by omega) ?_
  refine V_callV1 (μ' := mX9_bare) dL_law_332 okX9_bare lL_34 rfl (by first | assumption | rfl) (by first | decide | omega) (Nat.le_of_ble_eq_true rfl) (Nat.le_of_ble_eq_true rfl) (by omega) ?_
  refine c_bare (by omega) hRC (fun h1 r1 f1 => ?_)
  have hM1 := RM_C hRM f1
  dsimp only [gPush]
  refine V_aloadn2 dL_law_335 ?_
  refine V_aloadn0 dL_law_336 ?_
  refine V_iloadn3 dL_law_337 ?_
  refine V_iconst (v := nI 1) dL_law_338 (by decide) ?_
  first | refine U_iadd dL_law_339 (by with_reducible rfl) (by with_reducible rfl) ?_ | refine V_iadd dL_law_339 ?_
  refine V_sld dL_law_340 (by omega) ?_
  refine V_callV1 (μ' := mX10_bare) dL_law_341 okX10_bare lL_37 rfl (by first | assumption | rfl) (by first | decide | omega) (Nat.le_of_ble_eq_true rfl) (Nat.le_of_ble_eq_true rfl) (by omega) ?_
  refine m_bare (by omega) hM1 hRC.2.1 (fun h2 r2 f2 => ?_)
  dsimp only [gPush]
  refine V_icmp_eq (tgt := 1346) dL_law_344 (by decide) (fun c344 => ?_) (fun c344 => ?_)
  · skip
    exact kk h2 _ (RC_D r1 f2) r2
  · skip
    exact absurd rfl c344
set_option maxRecDepth 100000 in
set_option maxHeartbeats 4000000 in
theorem L_5 (hd : 20 ≤ d) (hj : j + 6 ≤ Γ.2.2.2.1.2.1) (hRC : RC h S) (hRM : RM h S) (kk : ∀ h' S', RC h' S' → RM h' S' → V Γ mL_law d 124 124 h' 1346 [some (.ref 1000), some (.ref 0), some (.ref 94), some (.int (nI j))] [] Q) : V Γ mL_law d 124 124 h 349 [some (.ref 1000), some (.ref 0), some (.ref 94), some (.int (nI j))] [] Q := by
  refine V_aloadn1 dL_law_349 ?_
  refine V_aloadn0 dL_law_350 ?_
  refine V_iloadn3 dL_law_351 ?_
  refine V_iconst (v := nI 1) dL_law_352 (by decide) ?_
  first | refine U_iadd dL_law_353 (by with_reducible rfl) (by with_reducible rfl) ?_ | refine V_iadd dL_law_353 ?_
  refine V_sld dL_law_354 (by omega) ?_
  refine V_aloadn0 dL_law_355 ?_
  refine V_iloadn3 dL_law_356 ?_
  refine V_iconst (v := nI 2) dL_law_357 (by decide) ?_
  first | refine U_iadd dL_law_358 (by with_reducible rfl) (by with_reducible rfl) ?_ | refine V_iadd dL_law_358 ?_
  refine V_sld dL_law_359 (by omega) ?_
  refine V_callV2 (μ' := mX9_of) dL_law_360 okX9_of lL_38 rfl (by first | assumption | rfl) (by first | decide | omega) (Nat.le_of_ble_eq_true rfl) (Nat.le_of_ble_eq_true rfl) (by omega) ?_
  refine c_of (by omega) hRC (fun h1 r1 f1 => ?_)
  have hM1 := RM_C hRM f1
  dsimp only [gPush]
  refine V_aloadn2 dL_law_363 ?_
  refine V_aloadn0 dL_law_364 ?_
  refine V_iloadn3 dL_law_365 ?_
  refine V_iconst (v := nI 1) dL_law_366 (by decide) ?_
  first | refine U_iadd dL_law_367 (by with_reducible rfl) (by with_reducible rfl) ?_ | refine V_iadd dL_law_367 ?_
  refine V_sld dL_law_368 (by omega) ?_
  refine V_aloadn0 dL_law_369 ?_
  refine V_iloadn3 dL_law_370 ?_
  refine V_iconst (v := nI 2) dL_law_371 (by decide) ?_
  first | refine U_iadd dL_law_372 (by with_reducible rfl) (by with_reducible rfl) ?_ | refine V_iadd dL_law_372 ?_
  refine V_sld dL_law_373 (by omega) ?_
  refine V_callV2 (μ' := mX10_of) dL_law_374 okX10_of lL_41 rfl (by first | assumption | rfl) (by first | decide | omega) (Nat.le_of_ble_eq_true rfl) (Nat.le_of_ble_eq_true rfl) (by omega) ?_
  refine m_of (by omega) hM1 hRC.2.1 (fun h2 r2 f2 => ?_)
  dsimp only [gPush]
  refine V_icmp_eq (tgt := 1346) dL_law_377 (by decide) (fun c377 => ?_) (fun c377 => ?_)
  · skip
    exact kk h2 _ (RC_D r1 f2) r2
  · skip
    exact absurd rfl c377
set_option maxRecDepth 100000 in
set_option maxHeartbeats 4000000 in
theorem L_6 (hd : 20 ≤ d) (hj : j + 6 ≤ Γ.2.2.2.1.2.1) (hRC : RC h S) (hRM : RM h S) (kk : ∀ h' S', RC h' S' → RM h' S' → V Γ mL_law d 124 124 h' 1346 [some (.ref 1000), some (.ref 0), some (.ref 94), some (.int (nI j))] [] Q) : V Γ mL_law d 124 124 h 382 [some (.ref 1000), some (.ref 0), some (.ref 94), some (.int (nI j))] [] Q := by
  refine V_aloadn1 dL_law_382 ?_
  refine V_aloadn0 dL_law_383 ?_
  refine V_iloadn3 dL_law_384 ?_
  refine V_iconst (v := nI 1) dL_law_385 (by decide) ?_
  first | refine U_iadd dL_law_386 (by with_reducible rfl) (by with_reducible rfl) ?_ | refine V_iadd dL_law_386 ?_
  refine V_sld dL_law_387 (by omega) ?_
  refine V_aloadn0 dL_law_388 ?_
  refine V_iloadn3 dL_law_389 ?_
  refine V_iconst (v := nI 2) dL_law_390 (by decide) ?_
  first | refine U_iadd dL_law_391 (by with_reducible rfl) (by with_reducible rfl) ?_ | refine V_iadd dL_law_391 ?_
  refine V_sld dL_law_392 (by omega) ?_
  refine V_callV2 (μ' := mX9_row) dL_law_393 okX9_row lL_42 rfl (by first | assumption | rfl) (by first | decide | omega) (Nat.le_of_ble_eq_true rfl) (Nat.le_of_ble_eq_true rfl) (by omega) ?_
  refine c_row (by omega) hRC (fun h1 r1 f1 => ?_)
  have hM1 := RM_C hRM f1
  dsimp only [gPush]
  refine V_aloadn2 dL_law_396 ?_
  refine V_aloadn0 dL_law_397 ?_
  refine V_iloadn3 dL_law_398 ?_
  refine V_iconst (v := nI 1) dL_law_399 (by decide) ?_
  first | refine U_iadd dL_law_400 (by with_reducible rfl) (by with_reducible rfl) ?_ | refine V_iadd dL_law_400 ?_
  refine V_sld dL_law_401 (by omega) ?_
  refine V_aloadn0 dL_law_402 ?_
  refine V_iloadn3 dL_law_403 ?_
  refine V_iconst (v := nI 2) dL_law_404 (by decide) ?_
  first | refine U_iadd dL_law_405 (by with_reducible rfl) (by with_reducible rfl) ?_ | refine V_iadd dL_law_405 ?_
  refine V_sld dL_law_406 (by omega) ?_
  refine V_callV2 (μ' := mX10_row) dL_law_407 okX10_row lL_45 rfl (by first | assumption | rfl) (by first | decide | omega) (Nat.le_of_ble_eq_true rfl) (Nat.le_of_ble_eq_true rfl) (by omega) ?_
  refine m_row (by omega) hM1 hRC.2.1 (fun h2 r2 f2 => ?_)
  dsimp only [gPush]
  refine V_icmp_eq (tgt := 1346) dL_law_410 (by decide) (fun c410 => ?_) (fun c410 => ?_)
  · skip
    exact kk h2 _ (RC_D r1 f2) r2
  · skip
    exact absurd rfl c410
set_option maxRecDepth 100000 in
set_option maxHeartbeats 4000000 in
theorem L_7 (hd : 20 ≤ d) (hj : j + 6 ≤ Γ.2.2.2.1.2.1) (hRC : RC h S) (hRM : RM h S) (kk : ∀ h' S', RC h' S' → RM h' S' → V Γ mL_law d 124 124 h' 1346 [some (.ref 1000), some (.ref 0), some (.ref 94), some (.int (nI j))] [] Q) : V Γ mL_law d 124 124 h 415 [some (.ref 1000), some (.ref 0), some (.ref 94), some (.int (nI j))] [] Q := by
  refine V_aloadn1 dL_law_415 ?_
  refine V_aloadn0 dL_law_416 ?_
  refine V_iloadn3 dL_law_417 ?_
  refine V_iconst (v := nI 1) dL_law_418 (by decide) ?_
  first | refine U_iadd dL_law_419 (by with_reducible rfl) (by with_reducible rfl) ?_ | refine V_iadd dL_law_419 ?_
  refine V_sld dL_law_420 (by omega) ?_
  refine V_aloadn0 dL_law_421 ?_
  refine V_iloadn3 dL_law_422 ?_
  refine V_iconst (v := nI 2) dL_law_423 (by decide) ?_
  first | refine U_iadd dL_law_424 (by with_reducible rfl) (by with_reducible rfl) ?_ | refine V_iadd dL_law_424 ?_
  refine V_sld dL_law_425 (by omega) ?_
  refine V_callV2 (μ' := mX9_taken) dL_law_426 okX9_taken lL_46 rfl (by first | assumption | rfl) (by first | decide | omega) (Nat.le_of_ble_eq_true rfl) (Nat.le_of_ble_eq_true rfl) (by omega) ?_
  refine c_taken (by omega) hRC (fun h1 r1 f1 => ?_)
  have hM1 := RM_C hRM f1
  dsimp only [gPush]
  refine V_aloadn2 dL_law_429 ?_
  refine V_aloadn0 dL_law_430 ?_
  refine V_iloadn3 dL_law_431 ?_
  refine V_iconst (v := nI 1) dL_law_432 (by decide) ?_
  first | refine U_iadd dL_law_433 (by with_reducible rfl) (by with_reducible rfl) ?_ | refine V_iadd dL_law_433 ?_
  refine V_sld dL_law_434 (by omega) ?_
  refine V_aloadn0 dL_law_435 ?_
  refine V_iloadn3 dL_law_436 ?_
  refine V_iconst (v := nI 2) dL_law_437 (by decide) ?_
  first | refine U_iadd dL_law_438 (by with_reducible rfl) (by with_reducible rfl) ?_ | refine V_iadd dL_law_438 ?_
  refine V_sld dL_law_439 (by omega) ?_
  refine V_callV2 (μ' := mX10_taken) dL_law_440 okX10_taken lL_49 rfl (by first | assumption | rfl) (by first | decide | omega) (Nat.le_of_ble_eq_true rfl) (Nat.le_of_ble_eq_true rfl) (by omega) ?_
  refine m_taken (by omega) hM1 hRC.2.1 (fun h2 r2 f2 => ?_)
  dsimp only [gPush]
  refine V_icmp_eq (tgt := 1346) dL_law_443 (by decide) (fun c443 => ?_) (fun c443 => ?_)
  · skip
    exact kk h2 _ (RC_D r1 f2) r2
  · skip
    exact absurd rfl c443
set_option maxRecDepth 100000 in
set_option maxHeartbeats 4000000 in
theorem L_8 (hd : 20 ≤ d) (hj : j + 6 ≤ Γ.2.2.2.1.2.1) (hRC : RC h S) (hRM : RM h S) (kk : ∀ h' S', RC h' S' → RM h' S' → V Γ mL_law d 124 124 h' 1346 [some (.ref 1000), some (.ref 0), some (.ref 94), some (.int (nI j))] [] Q) : V Γ mL_law d 124 124 h 448 [some (.ref 1000), some (.ref 0), some (.ref 94), some (.int (nI j))] [] Q := by
  refine V_aloadn1 dL_law_448 ?_
  refine V_aloadn0 dL_law_449 ?_
  refine V_iloadn3 dL_law_450 ?_
  refine V_iconst (v := nI 1) dL_law_451 (by decide) ?_
  first | refine U_iadd dL_law_452 (by with_reducible rfl) (by with_reducible rfl) ?_ | refine V_iadd dL_law_452 ?_
  refine V_sld dL_law_453 (by omega) ?_
  refine V_aloadn0 dL_law_454 ?_
  refine V_iloadn3 dL_law_455 ?_
  refine V_iconst (v := nI 2) dL_law_456 (by decide) ?_
  first | refine U_iadd dL_law_457 (by with_reducible rfl) (by with_reducible rfl) ?_ | refine V_iadd dL_law_457 ?_
  refine V_sld dL_law_458 (by omega) ?_
  refine V_aloadn0 dL_law_459 ?_
  refine V_iloadn3 dL_law_460 ?_
  refine V_iconst (v := nI 3) dL_law_461 (by decide) ?_
  first | refine U_iadd dL_law_462 (by with_reducible rfl) (by with_reducible rfl) ?_ | refine V_iadd dL_law_462 ?_
  refine V_sld dL_law_463 (by omega) ?_
  refine V_callV3 (μ' := mX9_signs) dL_law_464 okX9_signs lL_50 rfl (by first | assumption | rfl) (by first | decide | omega) (Nat.le_of_ble_eq_true rfl) (Nat.le_of_ble_eq_true rfl) (by omega) ?_
  refine c_signs (by omega) hRC (fun h1 r1 f1 => ?_)
  have hM1 := RM_C hRM f1
  dsimp only [gPush]
  refine V_aloadn2 dL_law_467 ?_
  refine V_aloadn0 dL_law_468 ?_
  refine V_iloadn3 dL_law_469 ?_
  refine V_iconst (v := nI 1) dL_law_470 (by decide) ?_
  first | refine U_iadd dL_law_471 (by with_reducible rfl) (by with_reducible rfl) ?_ | refine V_iadd dL_law_471 ?_
  refine V_sld dL_law_472 (by omega) ?_
  refine V_aloadn0 dL_law_473 ?_
  refine V_iloadn3 dL_law_474 ?_
  refine V_iconst (v := nI 2) dL_law_475 (by decide) ?_
  first | refine U_iadd dL_law_476 (by with_reducible rfl) (by with_reducible rfl) ?_ | refine V_iadd dL_law_476 ?_
  refine V_sld dL_law_477 (by omega) ?_
  refine V_aloadn0 dL_law_478 ?_
  refine V_iloadn3 dL_law_479 ?_
  refine V_iconst (v := nI 3) dL_law_480 (by decide) ?_
  first | refine U_iadd dL_law_481 (by with_reducible rfl) (by with_reducible rfl) ?_ | refine V_iadd dL_law_481 ?_
  refine V_sld dL_law_482 (by omega) ?_
  refine V_callV3 (μ' := mX10_signs) dL_law_483 okX10_signs lL_54 rfl (by first | assumption | rfl) (by first | decide | omega) (Nat.le_of_ble_eq_true rfl) (Nat.le_of_ble_eq_true rfl) (by omega) ?_
  refine m_signs (by omega) hM1 hRC.2.1 (fun h2 r2 f2 => ?_)
  dsimp only [gPush]
  refine V_icmp_eq (tgt := 1346) dL_law_486 (by decide) (fun c486 => ?_) (fun c486 => ?_)
  · skip
    exact kk h2 _ (RC_D r1 f2) r2
  · skip
    exact absurd rfl c486
set_option maxRecDepth 100000 in
set_option maxHeartbeats 4000000 in
theorem L_9 (hd : 20 ≤ d) (hj : j + 6 ≤ Γ.2.2.2.1.2.1) (hRC : RC h S) (hRM : RM h S) (kk : ∀ h' S', RC h' S' → RM h' S' → V Γ mL_law d 124 124 h' 1346 [some (.ref 1000), some (.ref 0), some (.ref 94), some (.int (nI j))] [] Q) : V Γ mL_law d 124 124 h 491 [some (.ref 1000), some (.ref 0), some (.ref 94), some (.int (nI j))] [] Q := by
  refine V_aloadn1 dL_law_491 ?_
  refine V_aloadn0 dL_law_492 ?_
  refine V_iloadn3 dL_law_493 ?_
  refine V_iconst (v := nI 1) dL_law_494 (by decide) ?_
  first | refine U_iadd dL_law_495 (by with_reducible rfl) (by with_reducible rfl) ?_ | refine V_iadd dL_law_495 ?_
  refine V_sld dL_law_496 (by omega) ?_
  refine V_aloadn0 dL_law_497 ?_
  refine V_iloadn3 dL_law_498 ?_
  refine V_iconst (v := nI 2) dL_law_499 (by decide) ?_
  first | refine U_iadd dL_law_500 (by with_reducible rfl) (by with_reducible rfl) ?_ | refine V_iadd dL_law_500 ?_
  refine V_sld dL_law_501 (by omega) ?_
  refine V_aloadn0 dL_law_502 ?_
  refine V_iloadn3 dL_law_503 ?_
  refine V_iconst (v := nI 3) dL_law_504 (by decide) ?_
  first | refine U_iadd dL_law_505 (by with_reducible rfl) (by with_reducible rfl) ?_ | refine V_iadd dL_law_505 ?_
  refine V_sld dL_law_506 (by omega) ?_
  refine V_aloadn0 dL_law_507 ?_
  refine V_iloadn3 dL_law_508 ?_
  refine V_iconst (v := nI 4) dL_law_509 (by decide) ?_
  first | refine U_iadd dL_law_510 (by with_reducible rfl) (by with_reducible rfl) ?_ | refine V_iadd dL_law_510 ?_
  refine V_sld dL_law_511 (by omega) ?_
  refine V_callV4 (μ' := mX9_act) dL_law_512 okX9_act lL_55 rfl (by first | assumption | rfl) (by first | decide | omega) (Nat.le_of_ble_eq_true rfl) (Nat.le_of_ble_eq_true rfl) (by omega) ?_
  refine c_act (by omega) hRC (fun h1 r1 f1 => ?_)
  have hM1 := RM_C hRM f1
  dsimp only [gPush]
  refine V_aloadn2 dL_law_515 ?_
  refine V_aloadn0 dL_law_516 ?_
  refine V_iloadn3 dL_law_517 ?_
  refine V_iconst (v := nI 1) dL_law_518 (by decide) ?_
  first | refine U_iadd dL_law_519 (by with_reducible rfl) (by with_reducible rfl) ?_ | refine V_iadd dL_law_519 ?_
  refine V_sld dL_law_520 (by omega) ?_
  refine V_aloadn0 dL_law_521 ?_
  refine V_iloadn3 dL_law_522 ?_
  refine V_iconst (v := nI 2) dL_law_523 (by decide) ?_
  first | refine U_iadd dL_law_524 (by with_reducible rfl) (by with_reducible rfl) ?_ | refine V_iadd dL_law_524 ?_
  refine V_sld dL_law_525 (by omega) ?_
  refine V_aloadn0 dL_law_526 ?_
  refine V_iloadn3 dL_law_527 ?_
  refine V_iconst (v := nI 3) dL_law_528 (by decide) ?_
  first | refine U_iadd dL_law_529 (by with_reducible rfl) (by with_reducible rfl) ?_ | refine V_iadd dL_law_529 ?_
  refine V_sld dL_law_530 (by omega) ?_
  refine V_aloadn0 dL_law_531 ?_
  refine V_iloadn3 dL_law_532 ?_
  refine V_iconst (v := nI 4) dL_law_533 (by decide) ?_
  first | refine U_iadd dL_law_534 (by with_reducible rfl) (by with_reducible rfl) ?_ | refine V_iadd dL_law_534 ?_
  refine V_sld dL_law_535 (by omega) ?_
  refine V_callV4 (μ' := mX10_act) dL_law_536 okX10_act lL_59 rfl (by first | assumption | rfl) (by first | decide | omega) (Nat.le_of_ble_eq_true rfl) (Nat.le_of_ble_eq_true rfl) (by omega) ?_
  refine m_act (by omega) hM1 hRC.2.1 (fun h2 r2 f2 => ?_)
  dsimp only [gPush]
  refine V_icmp_eq (tgt := 1346) dL_law_539 (by decide) (fun c539 => ?_) (fun c539 => ?_)
  · skip
    exact kk h2 _ (RC_D r1 f2) r2
  · skip
    exact absurd rfl c539
set_option maxRecDepth 100000 in
set_option maxHeartbeats 4000000 in
theorem L_10 (hd : 20 ≤ d) (hj : j + 6 ≤ Γ.2.2.2.1.2.1) (hRC : RC h S) (hRM : RM h S) (kk : ∀ h' S', RC h' S' → RM h' S' → V Γ mL_law d 124 124 h' 1346 [some (.ref 1000), some (.ref 0), some (.ref 94), some (.int (nI j))] [] Q) : V Γ mL_law d 124 124 h 544 [some (.ref 1000), some (.ref 0), some (.ref 94), some (.int (nI j))] [] Q := by
  refine V_aloadn1 dL_law_544 ?_
  refine V_aloadn0 dL_law_545 ?_
  refine V_iloadn3 dL_law_546 ?_
  refine V_iconst (v := nI 1) dL_law_547 (by decide) ?_
  first | refine U_iadd dL_law_548 (by with_reducible rfl) (by with_reducible rfl) ?_ | refine V_iadd dL_law_548 ?_
  refine V_sld dL_law_549 (by omega) ?_
  refine V_callV1 (μ' := mX9_acts) dL_law_550 okX9_acts lL_60 rfl (by first | assumption | rfl) (by first | decide | omega) (Nat.le_of_ble_eq_true rfl) (Nat.le_of_ble_eq_true rfl) (by omega) ?_
  refine c_acts (by omega) hRC (fun h1 r1 f1 => ?_)
  have hM1 := RM_C hRM f1
  dsimp only [gPush]
  refine V_aloadn2 dL_law_553 ?_
  refine V_aloadn0 dL_law_554 ?_
  refine V_iloadn3 dL_law_555 ?_
  refine V_iconst (v := nI 1) dL_law_556 (by decide) ?_
  first | refine U_iadd dL_law_557 (by with_reducible rfl) (by with_reducible rfl) ?_ | refine V_iadd dL_law_557 ?_
  refine V_sld dL_law_558 (by omega) ?_
  refine V_callV1 (μ' := mX10_acts_) dL_law_559 okX10_acts_ lL_63 rfl (by first | assumption | rfl) (by first | decide | omega) (Nat.le_of_ble_eq_true rfl) (Nat.le_of_ble_eq_true rfl) (by omega) ?_
  refine m_acts (by omega) hM1 hRC.2.1 (fun h2 r2 f2 => ?_)
  dsimp only [gPush]
  refine V_icmp_eq (tgt := 1346) dL_law_562 (by decide) (fun c562 => ?_) (fun c562 => ?_)
  · skip
    exact kk h2 _ (RC_D r1 f2) r2
  · skip
    exact absurd rfl c562
set_option maxRecDepth 100000 in
set_option maxHeartbeats 4000000 in
theorem L_11 (hd : 20 ≤ d) (hj : j + 6 ≤ Γ.2.2.2.1.2.1) (hRC : RC h S) (hRM : RM h S) (kk : ∀ h' S', RC h' S' → RM h' S' → V Γ mL_law d 124 124 h' 1346 [some (.ref 1000), some (.ref 0), some (.ref 94), some (.int (nI j))] [] Q) : V Γ mL_law d 124 124 h 567 [some (.ref 1000), some (.ref 0), some (.ref 94), some (.int (nI j))] [] Q := by
  refine V_aloadn1 dL_law_567 ?_
  refine V_aloadn0 dL_law_568 ?_
  refine V_iloadn3 dL_law_569 ?_
  refine V_iconst (v := nI 1) dL_law_570 (by decide) ?_
  first | refine U_iadd dL_law_571 (by with_reducible rfl) (by with_reducible rfl) ?_ | refine V_iadd dL_law_571 ?_
  refine V_sld dL_law_572 (by omega) ?_
  refine V_aloadn0 dL_law_573 ?_
  refine V_iloadn3 dL_law_574 ?_
  refine V_iconst (v := nI 2) dL_law_575 (by decide) ?_
  first | refine U_iadd dL_law_576 (by with_reducible rfl) (by with_reducible rfl) ?_ | refine V_iadd dL_law_576 ?_
  refine V_sld dL_law_577 (by omega) ?_
  refine V_callV2 (μ' := mX9_highest) dL_law_578 okX9_highest lL_64 rfl (by first | assumption | rfl) (by first | decide | omega) (Nat.le_of_ble_eq_true rfl) (Nat.le_of_ble_eq_true rfl) (by omega) ?_
  refine c_highest (by omega) hRC (fun h1 r1 f1 => ?_)
  have hM1 := RM_C hRM f1
  dsimp only [gPush]
  refine V_aloadn2 dL_law_581 ?_
  refine V_aloadn0 dL_law_582 ?_
  refine V_iloadn3 dL_law_583 ?_
  refine V_iconst (v := nI 1) dL_law_584 (by decide) ?_
  first | refine U_iadd dL_law_585 (by with_reducible rfl) (by with_reducible rfl) ?_ | refine V_iadd dL_law_585 ?_
  refine V_sld dL_law_586 (by omega) ?_
  refine V_aloadn0 dL_law_587 ?_
  refine V_iloadn3 dL_law_588 ?_
  refine V_iconst (v := nI 2) dL_law_589 (by decide) ?_
  first | refine U_iadd dL_law_590 (by with_reducible rfl) (by with_reducible rfl) ?_ | refine V_iadd dL_law_590 ?_
  refine V_sld dL_law_591 (by omega) ?_
  refine V_callV2 (μ' := mX10_highest) dL_law_592 okX10_highest lL_67 rfl (by first | assumption | rfl) (by first | decide | omega) (Nat.le_of_ble_eq_true rfl) (Nat.le_of_ble_eq_true rfl) (by omega) ?_
  refine m_highest (by omega) hM1 hRC.2.1 (fun h2 r2 f2 => ?_)
  dsimp only [gPush]
  refine V_icmp_eq (tgt := 1346) dL_law_595 (by decide) (fun c595 => ?_) (fun c595 => ?_)
  · skip
    exact kk h2 _ (RC_D r1 f2) r2
  · skip
    exact absurd rfl c595
set_option maxRecDepth 100000 in
set_option maxHeartbeats 4000000 in
theorem L_12 (hd : 20 ≤ d) (hj : j + 6 ≤ Γ.2.2.2.1.2.1) (hRC : RC h S) (hRM : RM h S) (kk : ∀ h' S', RC h' S' → RM h' S' → V Γ mL_law d 124 124 h' 1346 [some (.ref 1000), some (.ref 0), some (.ref 94), some (.int (nI j))] [] Q) : V Γ mL_law d 124 124 h 600 [some (.ref 1000), some (.ref 0), some (.ref 94), some (.int (nI j))] [] Q := by
  refine V_aloadn1 dL_law_600 ?_
  refine V_aloadn0 dL_law_601 ?_
  refine V_iloadn3 dL_law_602 ?_
  refine V_iconst (v := nI 1) dL_law_603 (by decide) ?_
  first | refine U_iadd dL_law_604 (by with_reducible rfl) (by with_reducible rfl) ?_ | refine V_iadd dL_law_604 ?_
  refine V_sld dL_law_605 (by omega) ?_
  refine V_aloadn0 dL_law_606 ?_
  refine V_iloadn3 dL_law_607 ?_
  refine V_iconst (v := nI 2) dL_law_608 (by decide) ?_
  first | refine U_iadd dL_law_609 (by with_reducible rfl) (by with_reducible rfl) ?_ | refine V_iadd dL_law_609 ?_
  refine V_sld dL_law_610 (by omega) ?_
  refine V_callV2 (μ' := mX9_all) dL_law_611 okX9_all lL_68 rfl (by first | assumption | rfl) (by first | decide | omega) (Nat.le_of_ble_eq_true rfl) (Nat.le_of_ble_eq_true rfl) (by omega) ?_
  refine c_all (by omega) hRC (fun h1 r1 f1 => ?_)
  have hM1 := RM_C hRM f1
  dsimp only [gPush]
  refine V_aloadn2 dL_law_614 ?_
  refine V_aloadn0 dL_law_615 ?_
  refine V_iloadn3 dL_law_616 ?_
  refine V_iconst (v := nI 1) dL_law_617 (by decide) ?_
  first | refine U_iadd dL_law_618 (by with_reducible rfl) (by with_reducible rfl) ?_ | refine V_iadd dL_law_618 ?_
  refine V_sld dL_law_619 (by omega) ?_
  refine V_aloadn0 dL_law_620 ?_
  refine V_iloadn3 dL_law_621 ?_
  refine V_iconst (v := nI 2) dL_law_622 (by decide) ?_
  first | refine U_iadd dL_law_623 (by with_reducible rfl) (by with_reducible rfl) ?_ | refine V_iadd dL_law_623 ?_
  refine V_sld dL_law_624 (by omega) ?_
  refine V_callV2 (μ' := mX10_all) dL_law_625 okX10_all lL_71 rfl (by first | assumption | rfl) (by first | decide | omega) (Nat.le_of_ble_eq_true rfl) (Nat.le_of_ble_eq_true rfl) (by omega) ?_
  refine m_all (by omega) hM1 hRC.2.1 (fun h2 r2 f2 => ?_)
  dsimp only [gPush]
  refine V_icmp_eq (tgt := 1346) dL_law_628 (by decide) (fun c628 => ?_) (fun c628 => ?_)
  · skip
    exact kk h2 _ (RC_D r1 f2) r2
  · skip
    exact absurd rfl c628
set_option maxRecDepth 100000 in
set_option maxHeartbeats 4000000 in
theorem L_13 (hd : 20 ≤ d) (hj : j + 6 ≤ Γ.2.2.2.1.2.1) (hRC : RC h S) (hRM : RM h S) (kk : ∀ h' S', RC h' S' → RM h' S' → V Γ mL_law d 124 124 h' 1346 [some (.ref 1000), some (.ref 0), some (.ref 94), some (.int (nI j))] [] Q) : V Γ mL_law d 124 124 h 633 [some (.ref 1000), some (.ref 0), some (.ref 94), some (.int (nI j))] [] Q := by
  refine V_aloadn1 dL_law_633 ?_
  refine V_aloadn0 dL_law_634 ?_
  refine V_iloadn3 dL_law_635 ?_
  refine V_iconst (v := nI 1) dL_law_636 (by decide) ?_
  first | refine U_iadd dL_law_637 (by with_reducible rfl) (by with_reducible rfl) ?_ | refine V_iadd dL_law_637 ?_
  refine V_sld dL_law_638 (by omega) ?_
  refine V_callV1 (μ' := mX9_stands) dL_law_639 okX9_stands lL_72 rfl (by first | assumption | rfl) (by first | decide | omega) (Nat.le_of_ble_eq_true rfl) (Nat.le_of_ble_eq_true rfl) (by omega) ?_
  refine c_stands (by omega) hRC (fun h1 r1 f1 => ?_)
  have hM1 := RM_C hRM f1
  dsimp only [gPush]
  refine V_aloadn2 dL_law_642 ?_
  refine V_aloadn0 dL_law_643 ?_
  refine V_iloadn3 dL_law_644 ?_
  refine V_iconst (v := nI 1) dL_law_645 (by decide) ?_
  first | refine U_iadd dL_law_646 (by with_reducible rfl) (by with_reducible rfl) ?_ | refine V_iadd dL_law_646 ?_
  refine V_sld dL_law_647 (by omega) ?_
  refine V_callV1 (μ' := mX10_stands) dL_law_648 okX10_stands lL_75 rfl (by first | assumption | rfl) (by first | decide | omega) (Nat.le_of_ble_eq_true rfl) (Nat.le_of_ble_eq_true rfl) (by omega) ?_
  refine m_stands (by omega) hM1 hRC.2.1 (fun h2 r2 f2 => ?_)
  dsimp only [gPush]
  refine V_icmp_eq (tgt := 1346) dL_law_651 (by decide) (fun c651 => ?_) (fun c651 => ?_)
  · skip
    exact kk h2 _ (RC_D r1 f2) r2
  · skip
    exact absurd rfl c651
set_option maxRecDepth 100000 in
set_option maxHeartbeats 4000000 in
theorem L_14 (hd : 20 ≤ d) (hj : j + 6 ≤ Γ.2.2.2.1.2.1) (hRC : RC h S) (hRM : RM h S) (kk : ∀ h' S', RC h' S' → RM h' S' → V Γ mL_law d 124 124 h' 1346 [some (.ref 1000), some (.ref 0), some (.ref 94), some (.int (nI j))] [] Q) : V Γ mL_law d 124 124 h 656 [some (.ref 1000), some (.ref 0), some (.ref 94), some (.int (nI j))] [] Q := by
  refine V_aloadn1 dL_law_656 ?_
  refine V_aloadn0 dL_law_657 ?_
  refine V_iloadn3 dL_law_658 ?_
  refine V_iconst (v := nI 1) dL_law_659 (by decide) ?_
  first | refine U_iadd dL_law_660 (by with_reducible rfl) (by with_reducible rfl) ?_ | refine V_iadd dL_law_660 ?_
  refine V_sld dL_law_661 (by omega) ?_
  refine V_callV1 (μ' := mX9_way) dL_law_662 okX9_way lL_76 rfl (by first | assumption | rfl) (by first | decide | omega) (Nat.le_of_ble_eq_true rfl) (Nat.le_of_ble_eq_true rfl) (by omega) ?_
  refine c_way (by omega) hRC (fun h1 r1 f1 => ?_)
  have hM1 := RM_C hRM f1
  dsimp only [gPush]
  refine V_aloadn2 dL_law_665 ?_
  refine V_aloadn0 dL_law_666 ?_
  refine V_iloadn3 dL_law_667 ?_
  refine V_iconst (v := nI 1) dL_law_668 (by decide) ?_
  first | refine U_iadd dL_law_669 (by with_reducible rfl) (by with_reducible rfl) ?_ | refine V_iadd dL_law_669 ?_
  refine V_sld dL_law_670 (by omega) ?_
  refine V_callV1 (μ' := mX10_way) dL_law_671 okX10_way lL_79 rfl (by first | assumption | rfl) (by first | decide | omega) (Nat.le_of_ble_eq_true rfl) (Nat.le_of_ble_eq_true rfl) (by omega) ?_
  refine m_way (by omega) hM1 hRC.2.1 (fun h2 r2 f2 => ?_)
  dsimp only [gPush]
  refine V_icmp_eq (tgt := 1346) dL_law_674 (by decide) (fun c674 => ?_) (fun c674 => ?_)
  · skip
    exact kk h2 _ (RC_D r1 f2) r2
  · skip
    exact absurd rfl c674
set_option maxRecDepth 100000 in
set_option maxHeartbeats 4000000 in
theorem L_15 (hd : 20 ≤ d) (hj : j + 6 ≤ Γ.2.2.2.1.2.1) (hRC : RC h S) (hRM : RM h S) (kk : ∀ h' S', RC h' S' → RM h' S' → V Γ mL_law d 124 124 h' 1346 [some (.ref 1000), some (.ref 0), some (.ref 94), some (.int (nI j))] [] Q) : V Γ mL_law d 124 124 h 679 [some (.ref 1000), some (.ref 0), some (.ref 94), some (.int (nI j))] [] Q := by
  refine V_aloadn1 dL_law_679 ?_
  refine V_aloadn0 dL_law_680 ?_
  refine V_iloadn3 dL_law_681 ?_
  refine V_iconst (v := nI 1) dL_law_682 (by decide) ?_
  first | refine U_iadd dL_law_683 (by with_reducible rfl) (by with_reducible rfl) ?_ | refine V_iadd dL_law_683 ?_
  refine V_sld dL_law_684 (by omega) ?_
  refine V_aloadn0 dL_law_685 ?_
  refine V_iloadn3 dL_law_686 ?_
  refine V_iconst (v := nI 2) dL_law_687 (by decide) ?_
  first | refine U_iadd dL_law_688 (by with_reducible rfl) (by with_reducible rfl) ?_ | refine V_iadd dL_law_688 ?_
  refine V_sld dL_law_689 (by omega) ?_
  refine V_aloadn0 dL_law_690 ?_
  refine V_iloadn3 dL_law_691 ?_
  refine V_iconst (v := nI 3) dL_law_692 (by decide) ?_
  first | refine U_iadd dL_law_693 (by with_reducible rfl) (by with_reducible rfl) ?_ | refine V_iadd dL_law_693 ?_
  refine V_sld dL_law_694 (by omega) ?_
  refine V_callV3 (μ' := mX9_pair) dL_law_695 okX9_pair lL_80 rfl (by first | assumption | rfl) (by first | decide | omega) (Nat.le_of_ble_eq_true rfl) (Nat.le_of_ble_eq_true rfl) (by omega) ?_
  refine c_pair (by omega) hRC (fun h1 r1 f1 => ?_)
  have hM1 := RM_C hRM f1
  dsimp only [gPush]
  refine V_aloadn2 dL_law_698 ?_
  refine V_aloadn0 dL_law_699 ?_
  refine V_iloadn3 dL_law_700 ?_
  refine V_iconst (v := nI 1) dL_law_701 (by decide) ?_
  first | refine U_iadd dL_law_702 (by with_reducible rfl) (by with_reducible rfl) ?_ | refine V_iadd dL_law_702 ?_
  refine V_sld dL_law_703 (by omega) ?_
  refine V_aloadn0 dL_law_704 ?_
  refine V_iloadn3 dL_law_705 ?_
  refine V_iconst (v := nI 2) dL_law_706 (by decide) ?_
  first | refine U_iadd dL_law_707 (by with_reducible rfl) (by with_reducible rfl) ?_ | refine V_iadd dL_law_707 ?_
  refine V_sld dL_law_708 (by omega) ?_
  refine V_aloadn0 dL_law_709 ?_
  refine V_iloadn3 dL_law_710 ?_
  refine V_iconst (v := nI 3) dL_law_711 (by decide) ?_
  first | refine U_iadd dL_law_712 (by with_reducible rfl) (by with_reducible rfl) ?_ | refine V_iadd dL_law_712 ?_
  refine V_sld dL_law_713 (by omega) ?_
  refine V_callV3 (μ' := mX10_pair) dL_law_714 okX10_pair lL_83 rfl (by first | assumption | rfl) (by first | decide | omega) (Nat.le_of_ble_eq_true rfl) (Nat.le_of_ble_eq_true rfl) (by omega) ?_
  refine m_pair (by omega) hM1 hRC.2.1 (fun h2 r2 f2 => ?_)
  dsimp only [gPush]
  refine V_icmp_eq (tgt := 1346) dL_law_717 (by decide) (fun c717 => ?_) (fun c717 => ?_)
  · skip
    exact kk h2 _ (RC_D r1 f2) r2
  · skip
    exact absurd rfl c717
set_option maxRecDepth 100000 in
set_option maxHeartbeats 4000000 in
theorem L_16 (hd : 20 ≤ d) (hj : j + 6 ≤ Γ.2.2.2.1.2.1) (hRC : RC h S) (hRM : RM h S) (kk : ∀ h' S', RC h' S' → RM h' S' → V Γ mL_law d 124 124 h' 1346 [some (.ref 1000), some (.ref 0), some (.ref 94), some (.int (nI j))] [] Q) : V Γ mL_law d 124 124 h 722 [some (.ref 1000), some (.ref 0), some (.ref 94), some (.int (nI j))] [] Q := by
  refine V_aloadn1 dL_law_722 ?_
  refine V_aloadn0 dL_law_723 ?_
  refine V_iloadn3 dL_law_724 ?_
  refine V_iconst (v := nI 1) dL_law_725 (by decide) ?_
  first | refine U_iadd dL_law_726 (by with_reducible rfl) (by with_reducible rfl) ?_ | refine V_iadd dL_law_726 ?_
  refine V_sld dL_law_727 (by omega) ?_
  refine V_aloadn0 dL_law_728 ?_
  refine V_iloadn3 dL_law_729 ?_
  refine V_iconst (v := nI 2) dL_law_730 (by decide) ?_
  first | refine U_iadd dL_law_731 (by with_reducible rfl) (by with_reducible rfl) ?_ | refine V_iadd dL_law_731 ?_
  refine V_sld dL_law_732 (by omega) ?_
  refine V_callV2 (μ' := mX9_insert) dL_law_733 okX9_insert lL_84 rfl (by first | assumption | rfl) (by first | decide | omega) (Nat.le_of_ble_eq_true rfl) (Nat.le_of_ble_eq_true rfl) (by omega) ?_
  refine c_insert (by omega) hRC (fun h1 r1 f1 => ?_)
  have hM1 := RM_C hRM f1
  dsimp only [gPush]
  refine V_aloadn2 dL_law_736 ?_
  refine V_aloadn0 dL_law_737 ?_
  refine V_iloadn3 dL_law_738 ?_
  refine V_iconst (v := nI 1) dL_law_739 (by decide) ?_
  first | refine U_iadd dL_law_740 (by with_reducible rfl) (by with_reducible rfl) ?_ | refine V_iadd dL_law_740 ?_
  refine V_sld dL_law_741 (by omega) ?_
  refine V_aloadn0 dL_law_742 ?_
  refine V_iloadn3 dL_law_743 ?_
  refine V_iconst (v := nI 2) dL_law_744 (by decide) ?_
  first | refine U_iadd dL_law_745 (by with_reducible rfl) (by with_reducible rfl) ?_ | refine V_iadd dL_law_745 ?_
  refine V_sld dL_law_746 (by omega) ?_
  refine V_callV2 (μ' := mX10_insert) dL_law_747 okX10_insert lL_87 rfl (by first | assumption | rfl) (by first | decide | omega) (Nat.le_of_ble_eq_true rfl) (Nat.le_of_ble_eq_true rfl) (by omega) ?_
  refine m_insert (by omega) hM1 hRC.2.1 (fun h2 r2 f2 => ?_)
  dsimp only [gPush]
  refine V_icmp_eq (tgt := 1346) dL_law_750 (by decide) (fun c750 => ?_) (fun c750 => ?_)
  · skip
    exact kk h2 _ (RC_D r1 f2) r2
  · skip
    exact absurd rfl c750
end C90

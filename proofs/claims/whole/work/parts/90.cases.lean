/-! the cases of the law -/
section
variable {Γ : GE} {d mc ms rc rs i : Nat} {QQ : List Frame → Array Value → State → State → Prop} {g : Sh} {P : HP} {I : HI}
abbrev LV (i : Nat) : List (Option Value) := [some (.ref 13), some (.ref 16), some (.ref 109), some (.int (nI i))]
theorem law_0 (hd : 200 ≤ d) (v1 : vp_in (nI i + 1) (gn Γ)) (v2 : vp_in (nI i + 2) (gn Γ)) (v3 : vp_in (nI i + 3) (gn Γ)) (v4 : vp_in (nI i + 4) (gn Γ)) (v5 : vp_in (nI i + 5) (gn Γ)) (hI : IV g P I) (ih : ∀ g P I, IV g P I → E Γ mL_law d mc ms QQ rc rs 1448 (LV i) [] g P I) : E Γ mL_law d mc ms QQ (0 + (0 + rc)) (0 + (0 + rs)) 208 (LV i) [] g P I := by
  have c0 := hI.1.1.gw
  refine E_aload_n (i := 1) dL_law_208 rfl rfl ?_
  refine E_aload_n (i := 0) dL_law_209 rfl rfl ?_
  refine E_iload_n (i := 3) dL_law_210 rfl rfl ?_
  refine E_iconst (v := 1) dL_law_211 (by decide) ?_
  refine E_iadd dL_law_212 ?_
  refine E_sld dL_law_213 v1 ?_
  refine E_aload_n (i := 0) dL_law_214 rfl rfl ?_
  refine E_iload_n (i := 3) dL_law_215 rfl rfl ?_
  refine E_iconst (v := 2) dL_law_216 (by decide) ?_
  refine E_iadd dL_law_217 ?_
  refine E_sld dL_law_218 v2 ?_
  refine k_L_law_219 (mc' := 0) (ms' := 0) (rc := 0 + rc) (rs := 0 + rs) (by omega) (Nat.le_of_ble_eq_true rfl) (by assumption) (p_wire g P I (d - 1) _ (by omega) hI (fun v g1 P1 J1 c1 hm => ?_))
  refine E_aload_n (i := 2) dL_law_222 rfl rfl ?_
  refine E_aload_n (i := 0) dL_law_223 rfl rfl ?_
  refine E_iload_n (i := 3) dL_law_224 rfl rfl ?_
  refine E_iconst (v := 1) dL_law_225 (by decide) ?_
  refine E_iadd dL_law_226 ?_
  refine E_sld dL_law_227 v1 ?_
  refine E_aload_n (i := 0) dL_law_228 rfl rfl ?_
  refine E_iload_n (i := 3) dL_law_229 rfl rfl ?_
  refine E_iconst (v := 2) dL_law_230 (by decide) ?_
  refine E_iadd dL_law_231 ?_
  refine E_sld dL_law_232 v2 ?_
  refine k_L_law_233 (mc' := 0) (ms' := 0) (rc := rc) (rs := rs) (by omega) (Nat.le_of_ble_eq_true rfl) (by assumption) (hm (d - 1) _ (by omega) (fun J2 hI2 => ?_))
  refine E_icmp_eq (tgt := 1448) dL_law_236 (by decide) (fun c_236 => ?_) (fun c_236 => absurd (rfl) c_236)
  exact ih _ _ _ hI2
theorem law_1 (hd : 200 ≤ d) (v1 : vp_in (nI i + 1) (gn Γ)) (v2 : vp_in (nI i + 2) (gn Γ)) (v3 : vp_in (nI i + 3) (gn Γ)) (v4 : vp_in (nI i + 4) (gn Γ)) (v5 : vp_in (nI i + 5) (gn Γ)) (hI : IV g P I) (ih : ∀ g P I, IV g P I → E Γ mL_law d mc ms QQ rc rs 1448 (LV i) [] g P I) : E Γ mL_law d mc ms QQ (0 + (0 + rc)) (0 + (0 + rs)) 241 (LV i) [] g P I := by
  have c0 := hI.1.1.gw
  refine E_aload_n (i := 1) dL_law_241 rfl rfl ?_
  refine E_aload_n (i := 0) dL_law_242 rfl rfl ?_
  refine E_iload_n (i := 3) dL_law_243 rfl rfl ?_
  refine E_iconst (v := 1) dL_law_244 (by decide) ?_
  refine E_iadd dL_law_245 ?_
  refine E_sld dL_law_246 v1 ?_
  refine E_aload_n (i := 0) dL_law_247 rfl rfl ?_
  refine E_iload_n (i := 3) dL_law_248 rfl rfl ?_
  refine E_iconst (v := 2) dL_law_249 (by decide) ?_
  refine E_iadd dL_law_250 ?_
  refine E_sld dL_law_251 v2 ?_
  refine k_L_law_252 (mc' := 0) (ms' := 0) (rc := 0 + rc) (rs := 0 + rs) (by omega) (Nat.le_of_ble_eq_true rfl) (by assumption) (p_depth g P I (d - 1) _ (by omega) hI (fun v g1 P1 J1 c1 hm => ?_))
  refine E_aload_n (i := 2) dL_law_255 rfl rfl ?_
  refine E_aload_n (i := 0) dL_law_256 rfl rfl ?_
  refine E_iload_n (i := 3) dL_law_257 rfl rfl ?_
  refine E_iconst (v := 1) dL_law_258 (by decide) ?_
  refine E_iadd dL_law_259 ?_
  refine E_sld dL_law_260 v1 ?_
  refine E_aload_n (i := 0) dL_law_261 rfl rfl ?_
  refine E_iload_n (i := 3) dL_law_262 rfl rfl ?_
  refine E_iconst (v := 2) dL_law_263 (by decide) ?_
  refine E_iadd dL_law_264 ?_
  refine E_sld dL_law_265 v2 ?_
  refine k_L_law_266 (mc' := 0) (ms' := 0) (rc := rc) (rs := rs) (by omega) (Nat.le_of_ble_eq_true rfl) (by assumption) (hm (d - 1) _ (by omega) (fun J2 hI2 => ?_))
  refine E_icmp_eq (tgt := 1448) dL_law_269 (by decide) (fun c_269 => ?_) (fun c_269 => absurd (rfl) c_269)
  exact ih _ _ _ hI2
theorem law_2 (hd : 200 ≤ d) (v1 : vp_in (nI i + 1) (gn Γ)) (v2 : vp_in (nI i + 2) (gn Γ)) (v3 : vp_in (nI i + 3) (gn Γ)) (v4 : vp_in (nI i + 4) (gn Γ)) (v5 : vp_in (nI i + 5) (gn Γ)) (hI : IV g P I) (ih : ∀ g P I, IV g P I → E Γ mL_law d mc ms QQ rc rs 1448 (LV i) [] g P I) : E Γ mL_law d mc ms QQ (0 + (0 + rc)) (0 + (0 + rs)) 274 (LV i) [] g P I := by
  have c0 := hI.1.1.gw
  refine E_aload_n (i := 1) dL_law_274 rfl rfl ?_
  refine E_aload_n (i := 0) dL_law_275 rfl rfl ?_
  refine E_iload_n (i := 3) dL_law_276 rfl rfl ?_
  refine E_iconst (v := 1) dL_law_277 (by decide) ?_
  refine E_iadd dL_law_278 ?_
  refine E_sld dL_law_279 v1 ?_
  refine E_aload_n (i := 0) dL_law_280 rfl rfl ?_
  refine E_iload_n (i := 3) dL_law_281 rfl rfl ?_
  refine E_iconst (v := 2) dL_law_282 (by decide) ?_
  refine E_iadd dL_law_283 ?_
  refine E_sld dL_law_284 v2 ?_
  refine k_L_law_285 (mc' := 0) (ms' := 0) (rc := 0 + rc) (rs := 0 + rs) (by omega) (Nat.le_of_ble_eq_true rfl) (by assumption) (p_steep g P I (d - 1) _ (by omega) hI (fun v g1 P1 J1 c1 hm => ?_))
  refine E_aload_n (i := 2) dL_law_288 rfl rfl ?_
  refine E_aload_n (i := 0) dL_law_289 rfl rfl ?_
  refine E_iload_n (i := 3) dL_law_290 rfl rfl ?_
  refine E_iconst (v := 1) dL_law_291 (by decide) ?_
  refine E_iadd dL_law_292 ?_
  refine E_sld dL_law_293 v1 ?_
  refine E_aload_n (i := 0) dL_law_294 rfl rfl ?_
  refine E_iload_n (i := 3) dL_law_295 rfl rfl ?_
  refine E_iconst (v := 2) dL_law_296 (by decide) ?_
  refine E_iadd dL_law_297 ?_
  refine E_sld dL_law_298 v2 ?_
  refine k_L_law_299 (mc' := 0) (ms' := 0) (rc := rc) (rs := rs) (by omega) (Nat.le_of_ble_eq_true rfl) (by assumption) (hm (d - 1) _ (by omega) (fun J2 hI2 => ?_))
  refine E_icmp_eq (tgt := 1448) dL_law_302 (by decide) (fun c_302 => ?_) (fun c_302 => absurd (rfl) c_302)
  exact ih _ _ _ hI2
theorem law_3 (hd : 200 ≤ d) (v1 : vp_in (nI i + 1) (gn Γ)) (v2 : vp_in (nI i + 2) (gn Γ)) (v3 : vp_in (nI i + 3) (gn Γ)) (v4 : vp_in (nI i + 4) (gn Γ)) (v5 : vp_in (nI i + 5) (gn Γ)) (hI : IV g P I) (ih : ∀ g P I, IV g P I → E Γ mL_law d mc ms QQ rc rs 1448 (LV i) [] g P I) : E Γ mL_law d mc ms QQ (0 + (0 + rc)) (0 + (0 + rs)) 307 (LV i) [] g P I := by
  have c0 := hI.1.1.gw
  refine E_aload_n (i := 1) dL_law_307 rfl rfl ?_
  refine E_aload_n (i := 0) dL_law_308 rfl rfl ?_
  refine E_iload_n (i := 3) dL_law_309 rfl rfl ?_
  refine E_iconst (v := 1) dL_law_310 (by decide) ?_
  refine E_iadd dL_law_311 ?_
  refine E_sld dL_law_312 v1 ?_
  refine E_aload_n (i := 0) dL_law_313 rfl rfl ?_
  refine E_iload_n (i := 3) dL_law_314 rfl rfl ?_
  refine E_iconst (v := 2) dL_law_315 (by decide) ?_
  refine E_iadd dL_law_316 ?_
  refine E_sld dL_law_317 v2 ?_
  refine k_L_law_318 (mc' := 0) (ms' := 0) (rc := 0 + rc) (rs := 0 + rs) (by omega) (Nat.le_of_ble_eq_true rfl) (by assumption) (p_pulled g P I (d - 1) _ (by omega) hI (fun v g1 P1 J1 c1 hm => ?_))
  refine E_aload_n (i := 2) dL_law_321 rfl rfl ?_
  refine E_aload_n (i := 0) dL_law_322 rfl rfl ?_
  refine E_iload_n (i := 3) dL_law_323 rfl rfl ?_
  refine E_iconst (v := 1) dL_law_324 (by decide) ?_
  refine E_iadd dL_law_325 ?_
  refine E_sld dL_law_326 v1 ?_
  refine E_aload_n (i := 0) dL_law_327 rfl rfl ?_
  refine E_iload_n (i := 3) dL_law_328 rfl rfl ?_
  refine E_iconst (v := 2) dL_law_329 (by decide) ?_
  refine E_iadd dL_law_330 ?_
  refine E_sld dL_law_331 v2 ?_
  refine k_L_law_332 (mc' := 0) (ms' := 0) (rc := rc) (rs := rs) (by omega) (Nat.le_of_ble_eq_true rfl) (by assumption) (hm (d - 1) _ (by omega) (fun J2 hI2 => ?_))
  refine E_icmp_eq (tgt := 1448) dL_law_335 (by decide) (fun c_335 => ?_) (fun c_335 => absurd (rfl) c_335)
  exact ih _ _ _ hI2
theorem law_4 (hd : 200 ≤ d) (v1 : vp_in (nI i + 1) (gn Γ)) (v2 : vp_in (nI i + 2) (gn Γ)) (v3 : vp_in (nI i + 3) (gn Γ)) (v4 : vp_in (nI i + 4) (gn Γ)) (v5 : vp_in (nI i + 5) (gn Γ)) (hI : IV g P I) (ih : ∀ g P I, IV g P I → E Γ mL_law d mc ms QQ rc rs 1448 (LV i) [] g P I) : E Γ mL_law d mc ms QQ (0 + (0 + rc)) (0 + (0 + rs)) 340 (LV i) [] g P I := by
  have c0 := hI.1.1.gw
  refine E_aload_n (i := 1) dL_law_340 rfl rfl ?_
  refine k_L_law_341 (mc' := 0) (ms' := 0) (rc := 0 + rc) (rs := 0 + rs) (by omega) (Nat.le_of_ble_eq_true rfl) (by assumption) (p_most g P I (d - 1) _ (by omega) hI (fun v g1 P1 J1 c1 hm => ?_))
  refine E_aload_n (i := 2) dL_law_344 rfl rfl ?_
  refine k_L_law_345 (mc' := 0) (ms' := 0) (rc := rc) (rs := rs) (by omega) (Nat.le_of_ble_eq_true rfl) (by assumption) (hm (d - 1) _ (by omega) (fun J2 hI2 => ?_))
  refine E_icmp_eq (tgt := 1448) dL_law_348 (by decide) (fun c_348 => ?_) (fun c_348 => absurd (rfl) c_348)
  exact ih _ _ _ hI2
theorem law_5 (hd : 200 ≤ d) (v1 : vp_in (nI i + 1) (gn Γ)) (v2 : vp_in (nI i + 2) (gn Γ)) (v3 : vp_in (nI i + 3) (gn Γ)) (v4 : vp_in (nI i + 4) (gn Γ)) (v5 : vp_in (nI i + 5) (gn Γ)) (hI : IV g P I) (ih : ∀ g P I, IV g P I → E Γ mL_law d mc ms QQ rc rs 1448 (LV i) [] g P I) : E Γ mL_law d mc ms QQ (0 + (0 + rc)) (0 + (0 + rs)) 353 (LV i) [] g P I := by
  have c0 := hI.1.1.gw
  refine E_aload_n (i := 1) dL_law_353 rfl rfl ?_
  refine k_L_law_354 (mc' := 0) (ms' := 0) (rc := 0 + rc) (rs := 0 + rs) (by omega) (Nat.le_of_ble_eq_true rfl) (by assumption) (p_tight g P I (d - 1) _ (by omega) hI (fun v g1 P1 J1 c1 hm => ?_))
  refine E_aload_n (i := 2) dL_law_357 rfl rfl ?_
  refine k_L_law_358 (mc' := 0) (ms' := 0) (rc := rc) (rs := rs) (by omega) (Nat.le_of_ble_eq_true rfl) (by assumption) (hm (d - 1) _ (by omega) (fun J2 hI2 => ?_))
  refine E_icmp_eq (tgt := 1448) dL_law_361 (by decide) (fun c_361 => ?_) (fun c_361 => absurd (rfl) c_361)
  exact ih _ _ _ hI2
theorem law_6 (hd : 200 ≤ d) (v1 : vp_in (nI i + 1) (gn Γ)) (v2 : vp_in (nI i + 2) (gn Γ)) (v3 : vp_in (nI i + 3) (gn Γ)) (v4 : vp_in (nI i + 4) (gn Γ)) (v5 : vp_in (nI i + 5) (gn Γ)) (hI : IV g P I) (ih : ∀ g P I, IV g P I → E Γ mL_law d mc ms QQ rc rs 1448 (LV i) [] g P I) : E Γ mL_law d mc ms QQ (1 + (0 + rc)) (5 + (0 + rs)) 366 (LV i) [] g P I := by
  have c0 := hI.1.1.gw
  refine E_aload_n (i := 1) dL_law_366 rfl rfl ?_
  refine E_aload_n (i := 0) dL_law_367 rfl rfl ?_
  refine E_iload_n (i := 3) dL_law_368 rfl rfl ?_
  refine E_iconst (v := 1) dL_law_369 (by decide) ?_
  refine E_iadd dL_law_370 ?_
  refine E_sld dL_law_371 v1 ?_
  refine E_aload_n (i := 0) dL_law_372 rfl rfl ?_
  refine E_iload_n (i := 3) dL_law_373 rfl rfl ?_
  refine E_iconst (v := 2) dL_law_374 (by decide) ?_
  refine E_iadd dL_law_375 ?_
  refine E_sld dL_law_376 v2 ?_
  refine E_aload_n (i := 0) dL_law_377 rfl rfl ?_
  refine E_iload_n (i := 3) dL_law_378 rfl rfl ?_
  refine E_iconst (v := 3) dL_law_379 (by decide) ?_
  refine E_iadd dL_law_380 ?_
  refine E_sld dL_law_381 v3 ?_
  refine k_L_law_382 (mc' := 1) (ms' := 5) (rc := 0 + rc) (rs := 0 + rs) (by omega) (Nat.le_of_ble_eq_true rfl) (by assumption) (p_ride g P I (d - 1) _ (by omega) hI (fun v g1 P1 J1 c1 hm => ?_))
  refine E_aload_n (i := 2) dL_law_385 rfl rfl ?_
  refine E_aload_n (i := 0) dL_law_386 rfl rfl ?_
  refine E_iload_n (i := 3) dL_law_387 rfl rfl ?_
  refine E_iconst (v := 1) dL_law_388 (by decide) ?_
  refine E_iadd dL_law_389 ?_
  refine E_sld dL_law_390 v1 ?_
  refine E_aload_n (i := 0) dL_law_391 rfl rfl ?_
  refine E_iload_n (i := 3) dL_law_392 rfl rfl ?_
  refine E_iconst (v := 2) dL_law_393 (by decide) ?_
  refine E_iadd dL_law_394 ?_
  refine E_sld dL_law_395 v2 ?_
  refine E_aload_n (i := 0) dL_law_396 rfl rfl ?_
  refine E_iload_n (i := 3) dL_law_397 rfl rfl ?_
  refine E_iconst (v := 3) dL_law_398 (by decide) ?_
  refine E_iadd dL_law_399 ?_
  refine E_sld dL_law_400 v3 ?_
  refine k_L_law_401 (mc' := 0) (ms' := 0) (rc := rc) (rs := rs) (by omega) (Nat.le_of_ble_eq_true rfl) (by assumption) (hm (d - 1) _ (by omega) (fun J2 hI2 => ?_))
  refine E_icmp_eq (tgt := 1448) dL_law_404 (by decide) (fun c_404 => ?_) (fun c_404 => absurd (rfl) c_404)
  exact ih _ _ _ hI2
theorem law_7 (hd : 200 ≤ d) (v1 : vp_in (nI i + 1) (gn Γ)) (v2 : vp_in (nI i + 2) (gn Γ)) (v3 : vp_in (nI i + 3) (gn Γ)) (v4 : vp_in (nI i + 4) (gn Γ)) (v5 : vp_in (nI i + 5) (gn Γ)) (hI : IV g P I) (ih : ∀ g P I, IV g P I → E Γ mL_law d mc ms QQ rc rs 1448 (LV i) [] g P I) : E Γ mL_law d mc ms QQ (0 + (0 + rc)) (0 + (0 + rs)) 409 (LV i) [] g P I := by
  have c0 := hI.1.1.gw
  refine E_aload_n (i := 1) dL_law_409 rfl rfl ?_
  refine E_aload_n (i := 0) dL_law_410 rfl rfl ?_
  refine E_iload_n (i := 3) dL_law_411 rfl rfl ?_
  refine E_iconst (v := 1) dL_law_412 (by decide) ?_
  refine E_iadd dL_law_413 ?_
  refine E_sld dL_law_414 v1 ?_
  refine E_aload_n (i := 0) dL_law_415 rfl rfl ?_
  refine E_iload_n (i := 3) dL_law_416 rfl rfl ?_
  refine E_iconst (v := 2) dL_law_417 (by decide) ?_
  refine E_iadd dL_law_418 ?_
  refine E_sld dL_law_419 v2 ?_
  refine k_L_law_420 (mc' := 0) (ms' := 0) (rc := 0 + rc) (rs := 0 + rs) (by omega) (Nat.le_of_ble_eq_true rfl) (by assumption) (p_ofRide g P I (d - 1) _ (by omega) hI (fun v g1 P1 J1 c1 hm => ?_))
  refine E_aload_n (i := 2) dL_law_423 rfl rfl ?_
  refine E_aload_n (i := 0) dL_law_424 rfl rfl ?_
  refine E_iload_n (i := 3) dL_law_425 rfl rfl ?_
  refine E_iconst (v := 1) dL_law_426 (by decide) ?_
  refine E_iadd dL_law_427 ?_
  refine E_sld dL_law_428 v1 ?_
  refine E_aload_n (i := 0) dL_law_429 rfl rfl ?_
  refine E_iload_n (i := 3) dL_law_430 rfl rfl ?_
  refine E_iconst (v := 2) dL_law_431 (by decide) ?_
  refine E_iadd dL_law_432 ?_
  refine E_sld dL_law_433 v2 ?_
  refine k_L_law_434 (mc' := 0) (ms' := 0) (rc := rc) (rs := rs) (by omega) (Nat.le_of_ble_eq_true rfl) (by assumption) (hm (d - 1) _ (by omega) (fun J2 hI2 => ?_))
  refine E_icmp_eq (tgt := 1448) dL_law_437 (by decide) (fun c_437 => ?_) (fun c_437 => absurd (rfl) c_437)
  exact ih _ _ _ hI2
theorem law_8 (hd : 200 ≤ d) (v1 : vp_in (nI i + 1) (gn Γ)) (v2 : vp_in (nI i + 2) (gn Γ)) (v3 : vp_in (nI i + 3) (gn Γ)) (v4 : vp_in (nI i + 4) (gn Γ)) (v5 : vp_in (nI i + 5) (gn Γ)) (hI : IV g P I) (ih : ∀ g P I, IV g P I → E Γ mL_law d mc ms QQ rc rs 1448 (LV i) [] g P I) : E Γ mL_law d mc ms QQ (0 + (0 + rc)) (0 + (0 + rs)) 442 (LV i) [] g P I := by
  have c0 := hI.1.1.gw
  refine E_aload_n (i := 1) dL_law_442 rfl rfl ?_
  refine E_aload_n (i := 0) dL_law_443 rfl rfl ?_
  refine E_iload_n (i := 3) dL_law_444 rfl rfl ?_
  refine E_iconst (v := 1) dL_law_445 (by decide) ?_
  refine E_iadd dL_law_446 ?_
  refine E_sld dL_law_447 v1 ?_
  refine E_aload_n (i := 0) dL_law_448 rfl rfl ?_
  refine E_iload_n (i := 3) dL_law_449 rfl rfl ?_
  refine E_iconst (v := 2) dL_law_450 (by decide) ?_
  refine E_iadd dL_law_451 ?_
  refine E_sld dL_law_452 v2 ?_
  refine k_L_law_453 (mc' := 0) (ms' := 0) (rc := 0 + rc) (rs := 0 + rs) (by omega) (Nat.le_of_ble_eq_true rfl) (by assumption) (p_as g P I (d - 1) _ (by omega) hI (fun v g1 P1 J1 c1 hm => ?_))
  refine E_aload_n (i := 2) dL_law_456 rfl rfl ?_
  refine E_aload_n (i := 0) dL_law_457 rfl rfl ?_
  refine E_iload_n (i := 3) dL_law_458 rfl rfl ?_
  refine E_iconst (v := 1) dL_law_459 (by decide) ?_
  refine E_iadd dL_law_460 ?_
  refine E_sld dL_law_461 v1 ?_
  refine E_aload_n (i := 0) dL_law_462 rfl rfl ?_
  refine E_iload_n (i := 3) dL_law_463 rfl rfl ?_
  refine E_iconst (v := 2) dL_law_464 (by decide) ?_
  refine E_iadd dL_law_465 ?_
  refine E_sld dL_law_466 v2 ?_
  refine k_L_law_467 (mc' := 0) (ms' := 0) (rc := rc) (rs := rs) (by omega) (Nat.le_of_ble_eq_true rfl) (by assumption) (hm (d - 1) _ (by omega) (fun J2 hI2 => ?_))
  refine E_icmp_eq (tgt := 1448) dL_law_470 (by decide) (fun c_470 => ?_) (fun c_470 => absurd (rfl) c_470)
  exact ih _ _ _ hI2
theorem law_9 (hd : 200 ≤ d) (v1 : vp_in (nI i + 1) (gn Γ)) (v2 : vp_in (nI i + 2) (gn Γ)) (v3 : vp_in (nI i + 3) (gn Γ)) (v4 : vp_in (nI i + 4) (gn Γ)) (v5 : vp_in (nI i + 5) (gn Γ)) (hI : IV g P I) (ih : ∀ g P I, IV g P I → E Γ mL_law d mc ms QQ rc rs 1448 (LV i) [] g P I) : E Γ mL_law d mc ms QQ (0 + (0 + rc)) (0 + (0 + rs)) 475 (LV i) [] g P I := by
  have c0 := hI.1.1.gw
  refine E_aload_n (i := 1) dL_law_475 rfl rfl ?_
  refine E_aload_n (i := 0) dL_law_476 rfl rfl ?_
  refine E_iload_n (i := 3) dL_law_477 rfl rfl ?_
  refine E_iconst (v := 1) dL_law_478 (by decide) ?_
  refine E_iadd dL_law_479 ?_
  refine E_sld dL_law_480 v1 ?_
  refine E_aload_n (i := 0) dL_law_481 rfl rfl ?_
  refine E_iload_n (i := 3) dL_law_482 rfl rfl ?_
  refine E_iconst (v := 2) dL_law_483 (by decide) ?_
  refine E_iadd dL_law_484 ?_
  refine E_sld dL_law_485 v2 ?_
  refine E_aload_n (i := 0) dL_law_486 rfl rfl ?_
  refine E_iload_n (i := 3) dL_law_487 rfl rfl ?_
  refine E_iconst (v := 3) dL_law_488 (by decide) ?_
  refine E_iadd dL_law_489 ?_
  refine E_sld dL_law_490 v3 ?_
  refine k_L_law_491 (mc' := 0) (ms' := 0) (rc := 0 + rc) (rs := 0 + rs) (by omega) (Nat.le_of_ble_eq_true rfl) (by assumption) (p_start g P I (d - 1) _ (by omega) hI (fun v g1 P1 J1 c1 hm => ?_))
  refine E_aload_n (i := 2) dL_law_494 rfl rfl ?_
  refine E_aload_n (i := 0) dL_law_495 rfl rfl ?_
  refine E_iload_n (i := 3) dL_law_496 rfl rfl ?_
  refine E_iconst (v := 1) dL_law_497 (by decide) ?_
  refine E_iadd dL_law_498 ?_
  refine E_sld dL_law_499 v1 ?_
  refine E_aload_n (i := 0) dL_law_500 rfl rfl ?_
  refine E_iload_n (i := 3) dL_law_501 rfl rfl ?_
  refine E_iconst (v := 2) dL_law_502 (by decide) ?_
  refine E_iadd dL_law_503 ?_
  refine E_sld dL_law_504 v2 ?_
  refine E_aload_n (i := 0) dL_law_505 rfl rfl ?_
  refine E_iload_n (i := 3) dL_law_506 rfl rfl ?_
  refine E_iconst (v := 3) dL_law_507 (by decide) ?_
  refine E_iadd dL_law_508 ?_
  refine E_sld dL_law_509 v3 ?_
  refine k_L_law_510 (mc' := 0) (ms' := 0) (rc := rc) (rs := rs) (by omega) (Nat.le_of_ble_eq_true rfl) (by assumption) (hm (d - 1) _ (by omega) (fun J2 hI2 => ?_))
  refine E_icmp_eq (tgt := 1448) dL_law_513 (by decide) (fun c_513 => ?_) (fun c_513 => absurd (rfl) c_513)
  exact ih _ _ _ hI2
theorem law_10 (hd : 200 ≤ d) (v1 : vp_in (nI i + 1) (gn Γ)) (v2 : vp_in (nI i + 2) (gn Γ)) (v3 : vp_in (nI i + 3) (gn Γ)) (v4 : vp_in (nI i + 4) (gn Γ)) (v5 : vp_in (nI i + 5) (gn Γ)) (hI : IV g P I) (ih : ∀ g P I, IV g P I → E Γ mL_law d mc ms QQ rc rs 1448 (LV i) [] g P I) : E Γ mL_law d mc ms QQ (0 + (0 + rc)) (0 + (0 + rs)) 518 (LV i) [] g P I := by
  have c0 := hI.1.1.gw
  refine E_aload_n (i := 1) dL_law_518 rfl rfl ?_
  refine E_aload_n (i := 0) dL_law_519 rfl rfl ?_
  refine E_iload_n (i := 3) dL_law_520 rfl rfl ?_
  refine E_iconst (v := 1) dL_law_521 (by decide) ?_
  refine E_iadd dL_law_522 ?_
  refine E_sld dL_law_523 v1 ?_
  refine E_i2l dL_law_524 ?_
  refine E_bipush (v := 32) dL_law_525 (by decide) ?_
  refine E_lshl dL_law_527 ?_
  refine E_aload_n (i := 0) dL_law_528 rfl rfl ?_
  refine E_iload_n (i := 3) dL_law_529 rfl rfl ?_
  refine E_iconst (v := 2) dL_law_530 (by decide) ?_
  refine E_iadd dL_law_531 ?_
  refine E_sld dL_law_532 v2 ?_
  refine E_i2l dL_law_533 ?_
  refine E_ldc2 (v := 4294967295) dL_law_534 w_1582 ?_
  refine E_land dL_law_537 ?_
  refine E_lor dL_law_538 ?_
  refine E_aload_n (i := 0) dL_law_539 rfl rfl ?_
  refine E_iload_n (i := 3) dL_law_540 rfl rfl ?_
  refine E_iconst (v := 3) dL_law_541 (by decide) ?_
  refine E_iadd dL_law_542 ?_
  refine E_sld dL_law_543 v3 ?_
  refine k_L_law_544 (mc' := 0) (ms' := 0) (rc := 0 + rc) (rs := 0 + rs) (by omega) (Nat.le_of_ble_eq_true rfl) (by assumption) (p_feed g P I (d - 1) _ (by omega) hI (fun v g1 P1 J1 c1 hm => ?_))
  refine E_aload_n (i := 2) dL_law_547 rfl rfl ?_
  refine E_aload_n (i := 0) dL_law_548 rfl rfl ?_
  refine E_iload_n (i := 3) dL_law_549 rfl rfl ?_
  refine E_iconst (v := 1) dL_law_550 (by decide) ?_
  refine E_iadd dL_law_551 ?_
  refine E_sld dL_law_552 v1 ?_
  refine E_i2l dL_law_553 ?_
  refine E_bipush (v := 32) dL_law_554 (by decide) ?_
  refine E_lshl dL_law_556 ?_
  refine E_aload_n (i := 0) dL_law_557 rfl rfl ?_
  refine E_iload_n (i := 3) dL_law_558 rfl rfl ?_
  refine E_iconst (v := 2) dL_law_559 (by decide) ?_
  refine E_iadd dL_law_560 ?_
  refine E_sld dL_law_561 v2 ?_
  refine E_i2l dL_law_562 ?_
  refine E_ldc2 (v := 4294967295) dL_law_563 w_1582 ?_
  refine E_land dL_law_566 ?_
  refine E_lor dL_law_567 ?_
  refine E_aload_n (i := 0) dL_law_568 rfl rfl ?_
  refine E_iload_n (i := 3) dL_law_569 rfl rfl ?_
  refine E_iconst (v := 3) dL_law_570 (by decide) ?_
  refine E_iadd dL_law_571 ?_
  refine E_sld dL_law_572 v3 ?_
  refine k_L_law_573 (mc' := 0) (ms' := 0) (rc := rc) (rs := rs) (by omega) (Nat.le_of_ble_eq_true rfl) (by assumption) (hm (d - 1) _ (by omega) (fun J2 hI2 => ?_))
  refine E_icmp_eq (tgt := 1448) dL_law_576 (by decide) (fun c_576 => ?_) (fun c_576 => absurd (rfl) c_576)
  exact ih _ _ _ hI2
theorem law_11 (hd : 200 ≤ d) (v1 : vp_in (nI i + 1) (gn Γ)) (v2 : vp_in (nI i + 2) (gn Γ)) (v3 : vp_in (nI i + 3) (gn Γ)) (v4 : vp_in (nI i + 4) (gn Γ)) (v5 : vp_in (nI i + 5) (gn Γ)) (hI : IV g P I) (ih : ∀ g P I, IV g P I → E Γ mL_law d mc ms QQ rc rs 1448 (LV i) [] g P I) : E Γ mL_law d mc ms QQ (0 + (0 + rc)) (0 + (0 + rs)) 581 (LV i) [] g P I := by
  have c0 := hI.1.1.gw
  refine E_aload_n (i := 1) dL_law_581 rfl rfl ?_
  refine E_aload_n (i := 0) dL_law_582 rfl rfl ?_
  refine E_iload_n (i := 3) dL_law_583 rfl rfl ?_
  refine E_iconst (v := 1) dL_law_584 (by decide) ?_
  refine E_iadd dL_law_585 ?_
  refine E_sld dL_law_586 v1 ?_
  refine k_L_law_587 (mc' := 0) (ms' := 0) (rc := 0 + rc) (rs := 0 + rs) (by omega) (Nat.le_of_ble_eq_true rfl) (by assumption) (p_text g P I (d - 1) _ (by omega) hI (fun v g1 P1 J1 c1 hm => ?_))
  refine E_aload_n (i := 2) dL_law_590 rfl rfl ?_
  refine E_aload_n (i := 0) dL_law_591 rfl rfl ?_
  refine E_iload_n (i := 3) dL_law_592 rfl rfl ?_
  refine E_iconst (v := 1) dL_law_593 (by decide) ?_
  refine E_iadd dL_law_594 ?_
  refine E_sld dL_law_595 v1 ?_
  refine k_L_law_596 (mc' := 0) (ms' := 0) (rc := rc) (rs := rs) (by omega) (Nat.le_of_ble_eq_true rfl) (by assumption) (hm (d - 1) _ (by omega) (fun J2 hI2 => ?_))
  refine E_icmp_eq (tgt := 1448) dL_law_599 (by decide) (fun c_599 => ?_) (fun c_599 => absurd (rfl) c_599)
  exact ih _ _ _ hI2
theorem law_12 (hd : 200 ≤ d) (v1 : vp_in (nI i + 1) (gn Γ)) (v2 : vp_in (nI i + 2) (gn Γ)) (v3 : vp_in (nI i + 3) (gn Γ)) (v4 : vp_in (nI i + 4) (gn Γ)) (v5 : vp_in (nI i + 5) (gn Γ)) (hI : IV g P I) (ih : ∀ g P I, IV g P I → E Γ mL_law d mc ms QQ rc rs 1448 (LV i) [] g P I) : E Γ mL_law d mc ms QQ (0 + (0 + rc)) (0 + (0 + rs)) 604 (LV i) [] g P I := by
  have c0 := hI.1.1.gw
  refine E_aload_n (i := 1) dL_law_604 rfl rfl ?_
  refine E_aload_n (i := 0) dL_law_605 rfl rfl ?_
  refine E_iload_n (i := 3) dL_law_606 rfl rfl ?_
  refine E_iconst (v := 1) dL_law_607 (by decide) ?_
  refine E_iadd dL_law_608 ?_
  refine E_sld dL_law_609 v1 ?_
  refine E_aload_n (i := 0) dL_law_610 rfl rfl ?_
  refine E_iload_n (i := 3) dL_law_611 rfl rfl ?_
  refine E_iconst (v := 2) dL_law_612 (by decide) ?_
  refine E_iadd dL_law_613 ?_
  refine E_sld dL_law_614 v2 ?_
  refine E_aload_n (i := 0) dL_law_615 rfl rfl ?_
  refine E_iload_n (i := 3) dL_law_616 rfl rfl ?_
  refine E_iconst (v := 3) dL_law_617 (by decide) ?_
  refine E_iadd dL_law_618 ?_
  refine E_sld dL_law_619 v3 ?_
  refine E_aload_n (i := 0) dL_law_620 rfl rfl ?_
  refine E_iload_n (i := 3) dL_law_621 rfl rfl ?_
  refine E_iconst (v := 4) dL_law_622 (by decide) ?_
  refine E_iadd dL_law_623 ?_
  refine E_sld dL_law_624 v4 ?_
  refine E_aload_n (i := 0) dL_law_625 rfl rfl ?_
  refine E_iload_n (i := 3) dL_law_626 rfl rfl ?_
  refine E_iconst (v := 5) dL_law_627 (by decide) ?_
  refine E_iadd dL_law_628 ?_
  refine E_sld dL_law_629 v5 ?_
  refine k_L_law_630 (mc' := 0) (ms' := 0) (rc := 0 + rc) (rs := 0 + rs) (by omega) (Nat.le_of_ble_eq_true rfl) (by assumption) (p_law g P I (d - 1) _ (by omega) hI (fun v g1 P1 J1 c1 hm => ?_))
  refine E_aload_n (i := 2) dL_law_633 rfl rfl ?_
  refine E_aload_n (i := 0) dL_law_634 rfl rfl ?_
  refine E_iload_n (i := 3) dL_law_635 rfl rfl ?_
  refine E_iconst (v := 1) dL_law_636 (by decide) ?_
  refine E_iadd dL_law_637 ?_
  refine E_sld dL_law_638 v1 ?_
  refine E_aload_n (i := 0) dL_law_639 rfl rfl ?_
  refine E_iload_n (i := 3) dL_law_640 rfl rfl ?_
  refine E_iconst (v := 2) dL_law_641 (by decide) ?_
  refine E_iadd dL_law_642 ?_
  refine E_sld dL_law_643 v2 ?_
  refine E_aload_n (i := 0) dL_law_644 rfl rfl ?_
  refine E_iload_n (i := 3) dL_law_645 rfl rfl ?_
  refine E_iconst (v := 3) dL_law_646 (by decide) ?_
  refine E_iadd dL_law_647 ?_
  refine E_sld dL_law_648 v3 ?_
  refine E_aload_n (i := 0) dL_law_649 rfl rfl ?_
  refine E_iload_n (i := 3) dL_law_650 rfl rfl ?_
  refine E_iconst (v := 4) dL_law_651 (by decide) ?_
  refine E_iadd dL_law_652 ?_
  refine E_sld dL_law_653 v4 ?_
  refine E_aload_n (i := 0) dL_law_654 rfl rfl ?_
  refine E_iload_n (i := 3) dL_law_655 rfl rfl ?_
  refine E_iconst (v := 5) dL_law_656 (by decide) ?_
  refine E_iadd dL_law_657 ?_
  refine E_sld dL_law_658 v5 ?_
  refine k_L_law_659 (mc' := 0) (ms' := 0) (rc := rc) (rs := rs) (by omega) (Nat.le_of_ble_eq_true rfl) (by assumption) (hm (d - 1) _ (by omega) (fun J2 hI2 => ?_))
  refine E_icmp_eq (tgt := 1448) dL_law_662 (by decide) (fun c_662 => ?_) (fun c_662 => absurd (rfl) c_662)
  exact ih _ _ _ hI2
theorem law_13 (hd : 200 ≤ d) (v1 : vp_in (nI i + 1) (gn Γ)) (v2 : vp_in (nI i + 2) (gn Γ)) (v3 : vp_in (nI i + 3) (gn Γ)) (v4 : vp_in (nI i + 4) (gn Γ)) (v5 : vp_in (nI i + 5) (gn Γ)) (hI : IV g P I) (ih : ∀ g P I, IV g P I → E Γ mL_law d mc ms QQ rc rs 1448 (LV i) [] g P I) : E Γ mL_law d mc ms QQ (0 + (0 + rc)) (0 + (0 + rs)) 667 (LV i) [] g P I := by
  have c0 := hI.1.1.gw
  refine E_aload_n (i := 1) dL_law_667 rfl rfl ?_
  refine E_aload_n (i := 0) dL_law_668 rfl rfl ?_
  refine E_iload_n (i := 3) dL_law_669 rfl rfl ?_
  refine E_iconst (v := 1) dL_law_670 (by decide) ?_
  refine E_iadd dL_law_671 ?_
  refine E_sld dL_law_672 v1 ?_
  refine k_L_law_673 (mc' := 0) (ms' := 0) (rc := 0 + rc) (rs := 0 + rs) (by omega) (Nat.le_of_ble_eq_true rfl) (by assumption) (p_ticks g P I (d - 1) _ (by omega) hI (fun v g1 P1 J1 c1 hm => ?_))
  refine E_aload_n (i := 2) dL_law_676 rfl rfl ?_
  refine E_aload_n (i := 0) dL_law_677 rfl rfl ?_
  refine E_iload_n (i := 3) dL_law_678 rfl rfl ?_
  refine E_iconst (v := 1) dL_law_679 (by decide) ?_
  refine E_iadd dL_law_680 ?_
  refine E_sld dL_law_681 v1 ?_
  refine k_L_law_682 (mc' := 0) (ms' := 0) (rc := rc) (rs := rs) (by omega) (Nat.le_of_ble_eq_true rfl) (by assumption) (hm (d - 1) _ (by omega) (fun J2 hI2 => ?_))
  refine E_icmp_eq (tgt := 1448) dL_law_685 (by decide) (fun c_685 => ?_) (fun c_685 => absurd (rfl) c_685)
  exact ih _ _ _ hI2
theorem law_14 (hd : 200 ≤ d) (v1 : vp_in (nI i + 1) (gn Γ)) (v2 : vp_in (nI i + 2) (gn Γ)) (v3 : vp_in (nI i + 3) (gn Γ)) (v4 : vp_in (nI i + 4) (gn Γ)) (v5 : vp_in (nI i + 5) (gn Γ)) (hI : IV g P I) (ih : ∀ g P I, IV g P I → E Γ mL_law d mc ms QQ rc rs 1448 (LV i) [] g P I) : E Γ mL_law d mc ms QQ (0 + (0 + rc)) (0 + (0 + rs)) 690 (LV i) [] g P I := by
  have c0 := hI.1.1.gw
  refine E_aload_n (i := 1) dL_law_690 rfl rfl ?_
  refine E_aload_n (i := 0) dL_law_691 rfl rfl ?_
  refine E_iload_n (i := 3) dL_law_692 rfl rfl ?_
  refine E_iconst (v := 1) dL_law_693 (by decide) ?_
  refine E_iadd dL_law_694 ?_
  refine E_sld dL_law_695 v1 ?_
  refine k_L_law_696 (mc' := 0) (ms' := 0) (rc := 0 + rc) (rs := 0 + rs) (by omega) (Nat.le_of_ble_eq_true rfl) (by assumption) (p_gusts g P I (d - 1) _ (by omega) hI (fun v g1 P1 J1 c1 hm => ?_))
  refine E_aload_n (i := 2) dL_law_699 rfl rfl ?_
  refine E_aload_n (i := 0) dL_law_700 rfl rfl ?_
  refine E_iload_n (i := 3) dL_law_701 rfl rfl ?_
  refine E_iconst (v := 1) dL_law_702 (by decide) ?_
  refine E_iadd dL_law_703 ?_
  refine E_sld dL_law_704 v1 ?_
  refine k_L_law_705 (mc' := 0) (ms' := 0) (rc := rc) (rs := rs) (by omega) (Nat.le_of_ble_eq_true rfl) (by assumption) (hm (d - 1) _ (by omega) (fun J2 hI2 => ?_))
  refine E_icmp_eq (tgt := 1448) dL_law_708 (by decide) (fun c_708 => ?_) (fun c_708 => absurd (rfl) c_708)
  exact ih _ _ _ hI2
theorem law_15 (hd : 200 ≤ d) (v1 : vp_in (nI i + 1) (gn Γ)) (v2 : vp_in (nI i + 2) (gn Γ)) (v3 : vp_in (nI i + 3) (gn Γ)) (v4 : vp_in (nI i + 4) (gn Γ)) (v5 : vp_in (nI i + 5) (gn Γ)) (hI : IV g P I) (ih : ∀ g P I, IV g P I → E Γ mL_law d mc ms QQ rc rs 1448 (LV i) [] g P I) : E Γ mL_law d mc ms QQ (0 + (0 + rc)) (0 + (0 + rs)) 713 (LV i) [] g P I := by
  have c0 := hI.1.1.gw
  refine E_aload_n (i := 1) dL_law_713 rfl rfl ?_
  refine E_aload_n (i := 0) dL_law_714 rfl rfl ?_
  refine E_iload_n (i := 3) dL_law_715 rfl rfl ?_
  refine E_iconst (v := 1) dL_law_716 (by decide) ?_
  refine E_iadd dL_law_717 ?_
  refine E_sld dL_law_718 v1 ?_
  refine E_aload_n (i := 0) dL_law_719 rfl rfl ?_
  refine E_iload_n (i := 3) dL_law_720 rfl rfl ?_
  refine E_iconst (v := 2) dL_law_721 (by decide) ?_
  refine E_iadd dL_law_722 ?_
  refine E_sld dL_law_723 v2 ?_
  refine E_aload_n (i := 0) dL_law_724 rfl rfl ?_
  refine E_iload_n (i := 3) dL_law_725 rfl rfl ?_
  refine E_iconst (v := 3) dL_law_726 (by decide) ?_
  refine E_iadd dL_law_727 ?_
  refine E_sld dL_law_728 v3 ?_
  refine k_L_law_729 (mc' := 0) (ms' := 0) (rc := 0 + rc) (rs := 0 + rs) (by omega) (Nat.le_of_ble_eq_true rfl) (by assumption) (p_then g P I (d - 1) _ (by omega) hI (fun v g1 P1 J1 c1 hm => ?_))
  refine E_aload_n (i := 2) dL_law_732 rfl rfl ?_
  refine E_aload_n (i := 0) dL_law_733 rfl rfl ?_
  refine E_iload_n (i := 3) dL_law_734 rfl rfl ?_
  refine E_iconst (v := 1) dL_law_735 (by decide) ?_
  refine E_iadd dL_law_736 ?_
  refine E_sld dL_law_737 v1 ?_
  refine E_aload_n (i := 0) dL_law_738 rfl rfl ?_
  refine E_iload_n (i := 3) dL_law_739 rfl rfl ?_
  refine E_iconst (v := 2) dL_law_740 (by decide) ?_
  refine E_iadd dL_law_741 ?_
  refine E_sld dL_law_742 v2 ?_
  refine E_aload_n (i := 0) dL_law_743 rfl rfl ?_
  refine E_iload_n (i := 3) dL_law_744 rfl rfl ?_
  refine E_iconst (v := 3) dL_law_745 (by decide) ?_
  refine E_iadd dL_law_746 ?_
  refine E_sld dL_law_747 v3 ?_
  refine k_L_law_748 (mc' := 0) (ms' := 0) (rc := rc) (rs := rs) (by omega) (Nat.le_of_ble_eq_true rfl) (by assumption) (hm (d - 1) _ (by omega) (fun J2 hI2 => ?_))
  refine E_icmp_eq (tgt := 1448) dL_law_751 (by decide) (fun c_751 => ?_) (fun c_751 => absurd (rfl) c_751)
  exact ih _ _ _ hI2
theorem law_16 (hd : 200 ≤ d) (v1 : vp_in (nI i + 1) (gn Γ)) (v2 : vp_in (nI i + 2) (gn Γ)) (v3 : vp_in (nI i + 3) (gn Γ)) (v4 : vp_in (nI i + 4) (gn Γ)) (v5 : vp_in (nI i + 5) (gn Γ)) (hI : IV g P I) (ih : ∀ g P I, IV g P I → E Γ mL_law d mc ms QQ rc rs 1448 (LV i) [] g P I) : E Γ mL_law d mc ms QQ (0 + (0 + rc)) (0 + (0 + rs)) 756 (LV i) [] g P I := by
  have c0 := hI.1.1.gw
  refine E_aload_n (i := 1) dL_law_756 rfl rfl ?_
  refine E_aload_n (i := 0) dL_law_757 rfl rfl ?_
  refine E_iload_n (i := 3) dL_law_758 rfl rfl ?_
  refine E_iconst (v := 1) dL_law_759 (by decide) ?_
  refine E_iadd dL_law_760 ?_
  refine E_sld dL_law_761 v1 ?_
  refine k_L_law_762 (mc' := 0) (ms' := 0) (rc := 0 + rc) (rs := 0 + rs) (by omega) (Nat.le_of_ble_eq_true rfl) (by assumption) (p_strands g P I (d - 1) _ (by omega) hI (fun v g1 P1 J1 c1 hm => ?_))
  refine E_aload_n (i := 2) dL_law_765 rfl rfl ?_
  refine E_aload_n (i := 0) dL_law_766 rfl rfl ?_
  refine E_iload_n (i := 3) dL_law_767 rfl rfl ?_
  refine E_iconst (v := 1) dL_law_768 (by decide) ?_
  refine E_iadd dL_law_769 ?_
  refine E_sld dL_law_770 v1 ?_
  refine k_L_law_771 (mc' := 0) (ms' := 0) (rc := rc) (rs := rs) (by omega) (Nat.le_of_ble_eq_true rfl) (by assumption) (hm (d - 1) _ (by omega) (fun J2 hI2 => ?_))
  refine E_icmp_eq (tgt := 1448) dL_law_774 (by decide) (fun c_774 => ?_) (fun c_774 => absurd (rfl) c_774)
  exact ih _ _ _ hI2
theorem law_17 (hd : 200 ≤ d) (v1 : vp_in (nI i + 1) (gn Γ)) (v2 : vp_in (nI i + 2) (gn Γ)) (v3 : vp_in (nI i + 3) (gn Γ)) (v4 : vp_in (nI i + 4) (gn Γ)) (v5 : vp_in (nI i + 5) (gn Γ)) (hI : IV g P I) (ih : ∀ g P I, IV g P I → E Γ mL_law d mc ms QQ rc rs 1448 (LV i) [] g P I) : E Γ mL_law d mc ms QQ (0 + (0 + rc)) (0 + (0 + rs)) 779 (LV i) [] g P I := by
  have c0 := hI.1.1.gw
  refine E_aload_n (i := 1) dL_law_779 rfl rfl ?_
  refine E_aload_n (i := 0) dL_law_780 rfl rfl ?_
  refine E_iload_n (i := 3) dL_law_781 rfl rfl ?_
  refine E_iconst (v := 1) dL_law_782 (by decide) ?_
  refine E_iadd dL_law_783 ?_
  refine E_sld dL_law_784 v1 ?_
  refine k_L_law_785 (mc' := 0) (ms' := 0) (rc := 0 + rc) (rs := 0 + rs) (by omega) (Nat.le_of_ble_eq_true rfl) (by assumption) (p_stands g P I (d - 1) _ (by omega) hI (fun v g1 P1 J1 c1 hm => ?_))
  refine E_aload_n (i := 2) dL_law_788 rfl rfl ?_
  refine E_aload_n (i := 0) dL_law_789 rfl rfl ?_
  refine E_iload_n (i := 3) dL_law_790 rfl rfl ?_
  refine E_iconst (v := 1) dL_law_791 (by decide) ?_
  refine E_iadd dL_law_792 ?_
  refine E_sld dL_law_793 v1 ?_
  refine k_L_law_794 (mc' := 0) (ms' := 0) (rc := rc) (rs := rs) (by omega) (Nat.le_of_ble_eq_true rfl) (by assumption) (hm (d - 1) _ (by omega) (fun J2 hI2 => ?_))
  refine E_icmp_eq (tgt := 1448) dL_law_797 (by decide) (fun c_797 => ?_) (fun c_797 => absurd (rfl) c_797)
  exact ih _ _ _ hI2
theorem law_18 (hd : 200 ≤ d) (v1 : vp_in (nI i + 1) (gn Γ)) (v2 : vp_in (nI i + 2) (gn Γ)) (v3 : vp_in (nI i + 3) (gn Γ)) (v4 : vp_in (nI i + 4) (gn Γ)) (v5 : vp_in (nI i + 5) (gn Γ)) (hI : IV g P I) (ih : ∀ g P I, IV g P I → E Γ mL_law d mc ms QQ rc rs 1448 (LV i) [] g P I) : E Γ mL_law d mc ms QQ (0 + (0 + rc)) (0 + (0 + rs)) 802 (LV i) [] g P I := by
  have c0 := hI.1.1.gw
  refine E_aload_n (i := 1) dL_law_802 rfl rfl ?_
  refine E_aload_n (i := 0) dL_law_803 rfl rfl ?_
  refine E_iload_n (i := 3) dL_law_804 rfl rfl ?_
  refine E_iconst (v := 1) dL_law_805 (by decide) ?_
  refine E_iadd dL_law_806 ?_
  refine E_sld dL_law_807 v1 ?_
  refine k_L_law_808 (mc' := 0) (ms' := 0) (rc := 0 + rc) (rs := 0 + rs) (by omega) (Nat.le_of_ble_eq_true rfl) (by assumption) (p_comes g P I (d - 1) _ (by omega) hI (fun v g1 P1 J1 c1 hm => ?_))
  refine E_aload_n (i := 2) dL_law_811 rfl rfl ?_
  refine E_aload_n (i := 0) dL_law_812 rfl rfl ?_
  refine E_iload_n (i := 3) dL_law_813 rfl rfl ?_
  refine E_iconst (v := 1) dL_law_814 (by decide) ?_
  refine E_iadd dL_law_815 ?_
  refine E_sld dL_law_816 v1 ?_
  refine k_L_law_817 (mc' := 0) (ms' := 0) (rc := rc) (rs := rs) (by omega) (Nat.le_of_ble_eq_true rfl) (by assumption) (hm (d - 1) _ (by omega) (fun J2 hI2 => ?_))
  refine E_icmp_eq (tgt := 1448) dL_law_820 (by decide) (fun c_820 => ?_) (fun c_820 => absurd (rfl) c_820)
  exact ih _ _ _ hI2
theorem law_19 (hd : 200 ≤ d) (v1 : vp_in (nI i + 1) (gn Γ)) (v2 : vp_in (nI i + 2) (gn Γ)) (v3 : vp_in (nI i + 3) (gn Γ)) (v4 : vp_in (nI i + 4) (gn Γ)) (v5 : vp_in (nI i + 5) (gn Γ)) (hI : IV g P I) (ih : ∀ g P I, IV g P I → E Γ mL_law d mc ms QQ rc rs 1448 (LV i) [] g P I) : E Γ mL_law d mc ms QQ (0 + (0 + rc)) (0 + (0 + rs)) 825 (LV i) [] g P I := by
  have c0 := hI.1.1.gw
  refine E_aload_n (i := 1) dL_law_825 rfl rfl ?_
  refine E_aload_n (i := 0) dL_law_826 rfl rfl ?_
  refine E_iload_n (i := 3) dL_law_827 rfl rfl ?_
  refine E_iconst (v := 1) dL_law_828 (by decide) ?_
  refine E_iadd dL_law_829 ?_
  refine E_sld dL_law_830 v1 ?_
  refine E_aload_n (i := 0) dL_law_831 rfl rfl ?_
  refine E_iload_n (i := 3) dL_law_832 rfl rfl ?_
  refine E_iconst (v := 2) dL_law_833 (by decide) ?_
  refine E_iadd dL_law_834 ?_
  refine E_sld dL_law_835 v2 ?_
  refine E_aload_n (i := 0) dL_law_836 rfl rfl ?_
  refine E_iload_n (i := 3) dL_law_837 rfl rfl ?_
  refine E_iconst (v := 3) dL_law_838 (by decide) ?_
  refine E_iadd dL_law_839 ?_
  refine E_sld dL_law_840 v3 ?_
  refine k_L_law_841 (mc' := 0) (ms' := 0) (rc := 0 + rc) (rs := 0 + rs) (by omega) (Nat.le_of_ble_eq_true rfl) (by assumption) (p_snug g P I (d - 1) _ (by omega) hI (fun v g1 P1 J1 c1 hm => ?_))
  refine E_aload_n (i := 2) dL_law_844 rfl rfl ?_
  refine E_aload_n (i := 0) dL_law_845 rfl rfl ?_
  refine E_iload_n (i := 3) dL_law_846 rfl rfl ?_
  refine E_iconst (v := 1) dL_law_847 (by decide) ?_
  refine E_iadd dL_law_848 ?_
  refine E_sld dL_law_849 v1 ?_
  refine E_aload_n (i := 0) dL_law_850 rfl rfl ?_
  refine E_iload_n (i := 3) dL_law_851 rfl rfl ?_
  refine E_iconst (v := 2) dL_law_852 (by decide) ?_
  refine E_iadd dL_law_853 ?_
  refine E_sld dL_law_854 v2 ?_
  refine E_aload_n (i := 0) dL_law_855 rfl rfl ?_
  refine E_iload_n (i := 3) dL_law_856 rfl rfl ?_
  refine E_iconst (v := 3) dL_law_857 (by decide) ?_
  refine E_iadd dL_law_858 ?_
  refine E_sld dL_law_859 v3 ?_
  refine k_L_law_860 (mc' := 0) (ms' := 0) (rc := rc) (rs := rs) (by omega) (Nat.le_of_ble_eq_true rfl) (by assumption) (hm (d - 1) _ (by omega) (fun J2 hI2 => ?_))
  refine E_icmp_eq (tgt := 1448) dL_law_863 (by decide) (fun c_863 => ?_) (fun c_863 => absurd (rfl) c_863)
  exact ih _ _ _ hI2
theorem law_20 (hd : 200 ≤ d) (v1 : vp_in (nI i + 1) (gn Γ)) (v2 : vp_in (nI i + 2) (gn Γ)) (v3 : vp_in (nI i + 3) (gn Γ)) (v4 : vp_in (nI i + 4) (gn Γ)) (v5 : vp_in (nI i + 5) (gn Γ)) (hI : IV g P I) (ih : ∀ g P I, IV g P I → E Γ mL_law d mc ms QQ rc rs 1448 (LV i) [] g P I) : E Γ mL_law d mc ms QQ (0 + (0 + rc)) (0 + (0 + rs)) 868 (LV i) [] g P I := by
  have c0 := hI.1.1.gw
  refine E_aload_n (i := 1) dL_law_868 rfl rfl ?_
  refine E_aload_n (i := 0) dL_law_869 rfl rfl ?_
  refine E_iload_n (i := 3) dL_law_870 rfl rfl ?_
  refine E_iconst (v := 1) dL_law_871 (by decide) ?_
  refine E_iadd dL_law_872 ?_
  refine E_sld dL_law_873 v1 ?_
  refine E_aload_n (i := 0) dL_law_874 rfl rfl ?_
  refine E_iload_n (i := 3) dL_law_875 rfl rfl ?_
  refine E_iconst (v := 2) dL_law_876 (by decide) ?_
  refine E_iadd dL_law_877 ?_
  refine E_sld dL_law_878 v2 ?_
  refine k_L_law_879 (mc' := 0) (ms' := 0) (rc := 0 + rc) (rs := 0 + rs) (by omega) (Nat.le_of_ble_eq_true rfl) (by assumption) (p_lower g P I (d - 1) _ (by omega) hI (fun v g1 P1 J1 c1 hm => ?_))
  refine E_aload_n (i := 2) dL_law_882 rfl rfl ?_
  refine E_aload_n (i := 0) dL_law_883 rfl rfl ?_
  refine E_iload_n (i := 3) dL_law_884 rfl rfl ?_
  refine E_iconst (v := 1) dL_law_885 (by decide) ?_
  refine E_iadd dL_law_886 ?_
  refine E_sld dL_law_887 v1 ?_
  refine E_aload_n (i := 0) dL_law_888 rfl rfl ?_
  refine E_iload_n (i := 3) dL_law_889 rfl rfl ?_
  refine E_iconst (v := 2) dL_law_890 (by decide) ?_
  refine E_iadd dL_law_891 ?_
  refine E_sld dL_law_892 v2 ?_
  refine k_L_law_893 (mc' := 0) (ms' := 0) (rc := rc) (rs := rs) (by omega) (Nat.le_of_ble_eq_true rfl) (by assumption) (hm (d - 1) _ (by omega) (fun J2 hI2 => ?_))
  refine E_icmp_eq (tgt := 1448) dL_law_896 (by decide) (fun c_896 => ?_) (fun c_896 => absurd (rfl) c_896)
  exact ih _ _ _ hI2
theorem law_21 (hd : 200 ≤ d) (v1 : vp_in (nI i + 1) (gn Γ)) (v2 : vp_in (nI i + 2) (gn Γ)) (v3 : vp_in (nI i + 3) (gn Γ)) (v4 : vp_in (nI i + 4) (gn Γ)) (v5 : vp_in (nI i + 5) (gn Γ)) (hI : IV g P I) (ih : ∀ g P I, IV g P I → E Γ mL_law d mc ms QQ rc rs 1448 (LV i) [] g P I) : E Γ mL_law d mc ms QQ (0 + (0 + rc)) (0 + (0 + rs)) 901 (LV i) [] g P I := by
  have c0 := hI.1.1.gw
  refine E_aload_n (i := 1) dL_law_901 rfl rfl ?_
  refine E_aload_n (i := 0) dL_law_902 rfl rfl ?_
  refine E_iload_n (i := 3) dL_law_903 rfl rfl ?_
  refine E_iconst (v := 1) dL_law_904 (by decide) ?_
  refine E_iadd dL_law_905 ?_
  refine E_sld dL_law_906 v1 ?_
  refine E_aload_n (i := 0) dL_law_907 rfl rfl ?_
  refine E_iload_n (i := 3) dL_law_908 rfl rfl ?_
  refine E_iconst (v := 2) dL_law_909 (by decide) ?_
  refine E_iadd dL_law_910 ?_
  refine E_sld dL_law_911 v2 ?_
  refine k_L_law_912 (mc' := 0) (ms' := 0) (rc := 0 + rc) (rs := 0 + rs) (by omega) (Nat.le_of_ble_eq_true rfl) (by assumption) (p_line g P I (d - 1) _ (by omega) hI (fun v g1 P1 J1 c1 hm => ?_))
  refine E_aload_n (i := 2) dL_law_915 rfl rfl ?_
  refine E_aload_n (i := 0) dL_law_916 rfl rfl ?_
  refine E_iload_n (i := 3) dL_law_917 rfl rfl ?_
  refine E_iconst (v := 1) dL_law_918 (by decide) ?_
  refine E_iadd dL_law_919 ?_
  refine E_sld dL_law_920 v1 ?_
  refine E_aload_n (i := 0) dL_law_921 rfl rfl ?_
  refine E_iload_n (i := 3) dL_law_922 rfl rfl ?_
  refine E_iconst (v := 2) dL_law_923 (by decide) ?_
  refine E_iadd dL_law_924 ?_
  refine E_sld dL_law_925 v2 ?_
  refine k_L_law_926 (mc' := 0) (ms' := 0) (rc := rc) (rs := rs) (by omega) (Nat.le_of_ble_eq_true rfl) (by assumption) (hm (d - 1) _ (by omega) (fun J2 hI2 => ?_))
  refine E_icmp_eq (tgt := 1448) dL_law_929 (by decide) (fun c_929 => ?_) (fun c_929 => absurd (rfl) c_929)
  exact ih _ _ _ hI2
theorem law_22 (hd : 200 ≤ d) (v1 : vp_in (nI i + 1) (gn Γ)) (v2 : vp_in (nI i + 2) (gn Γ)) (v3 : vp_in (nI i + 3) (gn Γ)) (v4 : vp_in (nI i + 4) (gn Γ)) (v5 : vp_in (nI i + 5) (gn Γ)) (hI : IV g P I) (ih : ∀ g P I, IV g P I → E Γ mL_law d mc ms QQ rc rs 1448 (LV i) [] g P I) : E Γ mL_law d mc ms QQ (0 + (0 + rc)) (0 + (0 + rs)) 934 (LV i) [] g P I := by
  have c0 := hI.1.1.gw
  refine E_aload_n (i := 1) dL_law_934 rfl rfl ?_
  refine E_aload_n (i := 0) dL_law_935 rfl rfl ?_
  refine E_iload_n (i := 3) dL_law_936 rfl rfl ?_
  refine E_iconst (v := 1) dL_law_937 (by decide) ?_
  refine E_iadd dL_law_938 ?_
  refine E_sld dL_law_939 v1 ?_
  refine k_L_law_940 (mc' := 0) (ms' := 0) (rc := 0 + rc) (rs := 0 + rs) (by omega) (Nat.le_of_ble_eq_true rfl) (by assumption) (p_lines g P I (d - 1) _ (by omega) hI (fun v g1 P1 J1 c1 hm => ?_))
  refine E_aload_n (i := 2) dL_law_943 rfl rfl ?_
  refine E_aload_n (i := 0) dL_law_944 rfl rfl ?_
  refine E_iload_n (i := 3) dL_law_945 rfl rfl ?_
  refine E_iconst (v := 1) dL_law_946 (by decide) ?_
  refine E_iadd dL_law_947 ?_
  refine E_sld dL_law_948 v1 ?_
  refine k_L_law_949 (mc' := 0) (ms' := 0) (rc := rc) (rs := rs) (by omega) (Nat.le_of_ble_eq_true rfl) (by assumption) (hm (d - 1) _ (by omega) (fun J2 hI2 => ?_))
  refine E_icmp_eq (tgt := 1448) dL_law_952 (by decide) (fun c_952 => ?_) (fun c_952 => absurd (rfl) c_952)
  exact ih _ _ _ hI2
theorem law_23 (hd : 200 ≤ d) (v1 : vp_in (nI i + 1) (gn Γ)) (v2 : vp_in (nI i + 2) (gn Γ)) (v3 : vp_in (nI i + 3) (gn Γ)) (v4 : vp_in (nI i + 4) (gn Γ)) (v5 : vp_in (nI i + 5) (gn Γ)) (hI : IV g P I) (ih : ∀ g P I, IV g P I → E Γ mL_law d mc ms QQ rc rs 1448 (LV i) [] g P I) : E Γ mL_law d mc ms QQ (0 + (0 + rc)) (0 + (0 + rs)) 957 (LV i) [] g P I := by
  have c0 := hI.1.1.gw
  refine E_aload_n (i := 1) dL_law_957 rfl rfl ?_
  refine E_aload_n (i := 0) dL_law_958 rfl rfl ?_
  refine E_iload_n (i := 3) dL_law_959 rfl rfl ?_
  refine E_iconst (v := 1) dL_law_960 (by decide) ?_
  refine E_iadd dL_law_961 ?_
  refine E_sld dL_law_962 v1 ?_
  refine E_aload_n (i := 0) dL_law_963 rfl rfl ?_
  refine E_iload_n (i := 3) dL_law_964 rfl rfl ?_
  refine E_iconst (v := 2) dL_law_965 (by decide) ?_
  refine E_iadd dL_law_966 ?_
  refine E_sld dL_law_967 v2 ?_
  refine k_L_law_968 (mc' := 0) (ms' := 0) (rc := 0 + rc) (rs := 0 + rs) (by omega) (Nat.le_of_ble_eq_true rfl) (by assumption) (p_over g P I (d - 1) _ (by omega) hI (fun v g1 P1 J1 c1 hm => ?_))
  refine E_aload_n (i := 2) dL_law_971 rfl rfl ?_
  refine E_aload_n (i := 0) dL_law_972 rfl rfl ?_
  refine E_iload_n (i := 3) dL_law_973 rfl rfl ?_
  refine E_iconst (v := 1) dL_law_974 (by decide) ?_
  refine E_iadd dL_law_975 ?_
  refine E_sld dL_law_976 v1 ?_
  refine E_aload_n (i := 0) dL_law_977 rfl rfl ?_
  refine E_iload_n (i := 3) dL_law_978 rfl rfl ?_
  refine E_iconst (v := 2) dL_law_979 (by decide) ?_
  refine E_iadd dL_law_980 ?_
  refine E_sld dL_law_981 v2 ?_
  refine k_L_law_982 (mc' := 0) (ms' := 0) (rc := rc) (rs := rs) (by omega) (Nat.le_of_ble_eq_true rfl) (by assumption) (hm (d - 1) _ (by omega) (fun J2 hI2 => ?_))
  refine E_icmp_eq (tgt := 1448) dL_law_985 (by decide) (fun c_985 => ?_) (fun c_985 => absurd (rfl) c_985)
  exact ih _ _ _ hI2
theorem law_24 (hd : 200 ≤ d) (v1 : vp_in (nI i + 1) (gn Γ)) (v2 : vp_in (nI i + 2) (gn Γ)) (v3 : vp_in (nI i + 3) (gn Γ)) (v4 : vp_in (nI i + 4) (gn Γ)) (v5 : vp_in (nI i + 5) (gn Γ)) (hI : IV g P I) (ih : ∀ g P I, IV g P I → E Γ mL_law d mc ms QQ rc rs 1448 (LV i) [] g P I) : E Γ mL_law d mc ms QQ (0 + (0 + rc)) (0 + (0 + rs)) 990 (LV i) [] g P I := by
  have c0 := hI.1.1.gw
  refine E_aload_n (i := 1) dL_law_990 rfl rfl ?_
  refine E_aload_n (i := 0) dL_law_991 rfl rfl ?_
  refine E_iload_n (i := 3) dL_law_992 rfl rfl ?_
  refine E_iconst (v := 1) dL_law_993 (by decide) ?_
  refine E_iadd dL_law_994 ?_
  refine E_sld dL_law_995 v1 ?_
  refine E_aload_n (i := 0) dL_law_996 rfl rfl ?_
  refine E_iload_n (i := 3) dL_law_997 rfl rfl ?_
  refine E_iconst (v := 2) dL_law_998 (by decide) ?_
  refine E_iadd dL_law_999 ?_
  refine E_sld dL_law_1000 v2 ?_
  refine k_L_law_1001 (mc' := 0) (ms' := 0) (rc := 0 + rc) (rs := 0 + rs) (by omega) (Nat.le_of_ble_eq_true rfl) (by assumption) (p_load g P I (d - 1) _ (by omega) hI (fun v g1 P1 J1 c1 hm => ?_))
  refine E_aload_n (i := 2) dL_law_1004 rfl rfl ?_
  refine E_aload_n (i := 0) dL_law_1005 rfl rfl ?_
  refine E_iload_n (i := 3) dL_law_1006 rfl rfl ?_
  refine E_iconst (v := 1) dL_law_1007 (by decide) ?_
  refine E_iadd dL_law_1008 ?_
  refine E_sld dL_law_1009 v1 ?_
  refine E_aload_n (i := 0) dL_law_1010 rfl rfl ?_
  refine E_iload_n (i := 3) dL_law_1011 rfl rfl ?_
  refine E_iconst (v := 2) dL_law_1012 (by decide) ?_
  refine E_iadd dL_law_1013 ?_
  refine E_sld dL_law_1014 v2 ?_
  refine k_L_law_1015 (mc' := 0) (ms' := 0) (rc := rc) (rs := rs) (by omega) (Nat.le_of_ble_eq_true rfl) (by assumption) (hm (d - 1) _ (by omega) (fun J2 hI2 => ?_))
  refine E_icmp_eq (tgt := 1448) dL_law_1018 (by decide) (fun c_1018 => ?_) (fun c_1018 => absurd (rfl) c_1018)
  exact ih _ _ _ hI2
theorem law_25 (hd : 200 ≤ d) (v1 : vp_in (nI i + 1) (gn Γ)) (v2 : vp_in (nI i + 2) (gn Γ)) (v3 : vp_in (nI i + 3) (gn Γ)) (v4 : vp_in (nI i + 4) (gn Γ)) (v5 : vp_in (nI i + 5) (gn Γ)) (hI : IV g P I) (ih : ∀ g P I, IV g P I → E Γ mL_law d mc ms QQ rc rs 1448 (LV i) [] g P I) : E Γ mL_law d mc ms QQ (0 + (0 + rc)) (0 + (0 + rs)) 1023 (LV i) [] g P I := by
  have c0 := hI.1.1.gw
  refine E_aload_n (i := 1) dL_law_1023 rfl rfl ?_
  refine k_L_law_1024 (mc' := 0) (ms' := 0) (rc := 0 + rc) (rs := 0 + rs) (by omega) (Nat.le_of_ble_eq_true rfl) (by assumption) (p_unload g P I (d - 1) _ (by omega) hI (fun v g1 P1 J1 c1 hm => ?_))
  refine E_aload_n (i := 2) dL_law_1027 rfl rfl ?_
  refine k_L_law_1028 (mc' := 0) (ms' := 0) (rc := rc) (rs := rs) (by omega) (Nat.le_of_ble_eq_true rfl) (by assumption) (hm (d - 1) _ (by omega) (fun J2 hI2 => ?_))
  refine E_icmp_eq (tgt := 1448) dL_law_1031 (by decide) (fun c_1031 => ?_) (fun c_1031 => absurd (rfl) c_1031)
  exact ih _ _ _ hI2
theorem law_26 (hd : 200 ≤ d) (v1 : vp_in (nI i + 1) (gn Γ)) (v2 : vp_in (nI i + 2) (gn Γ)) (v3 : vp_in (nI i + 3) (gn Γ)) (v4 : vp_in (nI i + 4) (gn Γ)) (v5 : vp_in (nI i + 5) (gn Γ)) (hI : IV g P I) (ih : ∀ g P I, IV g P I → E Γ mL_law d mc ms QQ rc rs 1448 (LV i) [] g P I) : E Γ mL_law d mc ms QQ (0 + (0 + rc)) (0 + (0 + rs)) 1036 (LV i) [] g P I := by
  have c0 := hI.1.1.gw
  refine E_aload_n (i := 1) dL_law_1036 rfl rfl ?_
  refine E_aload_n (i := 0) dL_law_1037 rfl rfl ?_
  refine E_iload_n (i := 3) dL_law_1038 rfl rfl ?_
  refine E_iconst (v := 1) dL_law_1039 (by decide) ?_
  refine E_iadd dL_law_1040 ?_
  refine E_sld dL_law_1041 v1 ?_
  refine k_L_law_1042 (mc' := 0) (ms' := 0) (rc := 0 + rc) (rs := 0 + rs) (by omega) (Nat.le_of_ble_eq_true rfl) (by assumption) (p_order g P I (d - 1) _ (by omega) hI (fun v g1 P1 J1 c1 hm => ?_))
  refine E_aload_n (i := 2) dL_law_1045 rfl rfl ?_
  refine E_aload_n (i := 0) dL_law_1046 rfl rfl ?_
  refine E_iload_n (i := 3) dL_law_1047 rfl rfl ?_
  refine E_iconst (v := 1) dL_law_1048 (by decide) ?_
  refine E_iadd dL_law_1049 ?_
  refine E_sld dL_law_1050 v1 ?_
  refine k_L_law_1051 (mc' := 0) (ms' := 0) (rc := rc) (rs := rs) (by omega) (Nat.le_of_ble_eq_true rfl) (by assumption) (hm (d - 1) _ (by omega) (fun J2 hI2 => ?_))
  refine E_icmp_eq (tgt := 1448) dL_law_1054 (by decide) (fun c_1054 => ?_) (fun c_1054 => absurd (rfl) c_1054)
  exact ih _ _ _ hI2
theorem law_27 (hd : 200 ≤ d) (v1 : vp_in (nI i + 1) (gn Γ)) (v2 : vp_in (nI i + 2) (gn Γ)) (v3 : vp_in (nI i + 3) (gn Γ)) (v4 : vp_in (nI i + 4) (gn Γ)) (v5 : vp_in (nI i + 5) (gn Γ)) (hI : IV g P I) (ih : ∀ g P I, IV g P I → E Γ mL_law d mc ms QQ rc rs 1448 (LV i) [] g P I) : E Γ mL_law d mc ms QQ (0 + (0 + rc)) (0 + (0 + rs)) 1059 (LV i) [] g P I := by
  have c0 := hI.1.1.gw
  refine E_aload_n (i := 1) dL_law_1059 rfl rfl ?_
  refine E_aload_n (i := 0) dL_law_1060 rfl rfl ?_
  refine E_iload_n (i := 3) dL_law_1061 rfl rfl ?_
  refine E_iconst (v := 1) dL_law_1062 (by decide) ?_
  refine E_iadd dL_law_1063 ?_
  refine E_sld dL_law_1064 v1 ?_
  refine E_aload_n (i := 0) dL_law_1065 rfl rfl ?_
  refine E_iload_n (i := 3) dL_law_1066 rfl rfl ?_
  refine E_iconst (v := 2) dL_law_1067 (by decide) ?_
  refine E_iadd dL_law_1068 ?_
  refine E_sld dL_law_1069 v2 ?_
  refine k_L_law_1070 (mc' := 0) (ms' := 0) (rc := 0 + rc) (rs := 0 + rs) (by omega) (Nat.le_of_ble_eq_true rfl) (by assumption) (p_bridge g P I (d - 1) _ (by omega) hI (fun v g1 P1 J1 c1 hm => ?_))
  refine E_aload_n (i := 2) dL_law_1073 rfl rfl ?_
  refine E_aload_n (i := 0) dL_law_1074 rfl rfl ?_
  refine E_iload_n (i := 3) dL_law_1075 rfl rfl ?_
  refine E_iconst (v := 1) dL_law_1076 (by decide) ?_
  refine E_iadd dL_law_1077 ?_
  refine E_sld dL_law_1078 v1 ?_
  refine E_aload_n (i := 0) dL_law_1079 rfl rfl ?_
  refine E_iload_n (i := 3) dL_law_1080 rfl rfl ?_
  refine E_iconst (v := 2) dL_law_1081 (by decide) ?_
  refine E_iadd dL_law_1082 ?_
  refine E_sld dL_law_1083 v2 ?_
  refine k_L_law_1084 (mc' := 0) (ms' := 0) (rc := rc) (rs := rs) (by omega) (Nat.le_of_ble_eq_true rfl) (by assumption) (hm (d - 1) _ (by omega) (fun J2 hI2 => ?_))
  refine E_icmp_eq (tgt := 1448) dL_law_1087 (by decide) (fun c_1087 => ?_) (fun c_1087 => absurd (rfl) c_1087)
  exact ih _ _ _ hI2
theorem law_28 (hd : 200 ≤ d) (v1 : vp_in (nI i + 1) (gn Γ)) (v2 : vp_in (nI i + 2) (gn Γ)) (v3 : vp_in (nI i + 3) (gn Γ)) (v4 : vp_in (nI i + 4) (gn Γ)) (v5 : vp_in (nI i + 5) (gn Γ)) (hI : IV g P I) (ih : ∀ g P I, IV g P I → E Γ mL_law d mc ms QQ rc rs 1448 (LV i) [] g P I) : E Γ mL_law d mc ms QQ (0 + (0 + rc)) (0 + (0 + rs)) 1092 (LV i) [] g P I := by
  have c0 := hI.1.1.gw
  refine E_aload_n (i := 1) dL_law_1092 rfl rfl ?_
  refine E_aload_n (i := 0) dL_law_1093 rfl rfl ?_
  refine E_iload_n (i := 3) dL_law_1094 rfl rfl ?_
  refine E_iconst (v := 1) dL_law_1095 (by decide) ?_
  refine E_iadd dL_law_1096 ?_
  refine E_sld dL_law_1097 v1 ?_
  refine k_L_law_1098 (mc' := 0) (ms' := 0) (rc := 0 + rc) (rs := 0 + rs) (by omega) (Nat.le_of_ble_eq_true rfl) (by assumption) (p_seed g P I (d - 1) _ (by omega) hI (fun v g1 P1 J1 c1 hm => ?_))
  refine E_aload_n (i := 2) dL_law_1101 rfl rfl ?_
  refine E_aload_n (i := 0) dL_law_1102 rfl rfl ?_
  refine E_iload_n (i := 3) dL_law_1103 rfl rfl ?_
  refine E_iconst (v := 1) dL_law_1104 (by decide) ?_
  refine E_iadd dL_law_1105 ?_
  refine E_sld dL_law_1106 v1 ?_
  refine k_L_law_1107 (mc' := 0) (ms' := 0) (rc := rc) (rs := rs) (by omega) (Nat.le_of_ble_eq_true rfl) (by assumption) (hm (d - 1) _ (by omega) (fun J2 hI2 => ?_))
  refine E_icmp_eq (tgt := 1448) dL_law_1110 (by decide) (fun c_1110 => ?_) (fun c_1110 => absurd (rfl) c_1110)
  exact ih _ _ _ hI2
theorem law_29 (hd : 200 ≤ d) (v1 : vp_in (nI i + 1) (gn Γ)) (v2 : vp_in (nI i + 2) (gn Γ)) (v3 : vp_in (nI i + 3) (gn Γ)) (v4 : vp_in (nI i + 4) (gn Γ)) (v5 : vp_in (nI i + 5) (gn Γ)) (hI : IV g P I) (ih : ∀ g P I, IV g P I → E Γ mL_law d mc ms QQ rc rs 1448 (LV i) [] g P I) : E Γ mL_law d mc ms QQ (0 + (0 + rc)) (0 + (0 + rs)) 1115 (LV i) [] g P I := by
  have c0 := hI.1.1.gw
  refine E_aload_n (i := 1) dL_law_1115 rfl rfl ?_
  refine E_aload_n (i := 0) dL_law_1116 rfl rfl ?_
  refine E_iload_n (i := 3) dL_law_1117 rfl rfl ?_
  refine E_iconst (v := 1) dL_law_1118 (by decide) ?_
  refine E_iadd dL_law_1119 ?_
  refine E_sld dL_law_1120 v1 ?_
  refine E_aload_n (i := 0) dL_law_1121 rfl rfl ?_
  refine E_iload_n (i := 3) dL_law_1122 rfl rfl ?_
  refine E_iconst (v := 2) dL_law_1123 (by decide) ?_
  refine E_iadd dL_law_1124 ?_
  refine E_sld dL_law_1125 v2 ?_
  refine E_aload_n (i := 0) dL_law_1126 rfl rfl ?_
  refine E_iload_n (i := 3) dL_law_1127 rfl rfl ?_
  refine E_iconst (v := 3) dL_law_1128 (by decide) ?_
  refine E_iadd dL_law_1129 ?_
  refine E_sld dL_law_1130 v3 ?_
  refine k_L_law_1131 (mc' := 0) (ms' := 0) (rc := 0 + rc) (rs := 0 + rs) (by omega) (Nat.le_of_ble_eq_true rfl) (by assumption) (p_voice g P I (d - 1) _ (by omega) hI (fun v g1 P1 J1 c1 hm => ?_))
  refine E_aload_n (i := 2) dL_law_1134 rfl rfl ?_
  refine E_aload_n (i := 0) dL_law_1135 rfl rfl ?_
  refine E_iload_n (i := 3) dL_law_1136 rfl rfl ?_
  refine E_iconst (v := 1) dL_law_1137 (by decide) ?_
  refine E_iadd dL_law_1138 ?_
  refine E_sld dL_law_1139 v1 ?_
  refine E_aload_n (i := 0) dL_law_1140 rfl rfl ?_
  refine E_iload_n (i := 3) dL_law_1141 rfl rfl ?_
  refine E_iconst (v := 2) dL_law_1142 (by decide) ?_
  refine E_iadd dL_law_1143 ?_
  refine E_sld dL_law_1144 v2 ?_
  refine E_aload_n (i := 0) dL_law_1145 rfl rfl ?_
  refine E_iload_n (i := 3) dL_law_1146 rfl rfl ?_
  refine E_iconst (v := 3) dL_law_1147 (by decide) ?_
  refine E_iadd dL_law_1148 ?_
  refine E_sld dL_law_1149 v3 ?_
  refine k_L_law_1150 (mc' := 0) (ms' := 0) (rc := rc) (rs := rs) (by omega) (Nat.le_of_ble_eq_true rfl) (by assumption) (hm (d - 1) _ (by omega) (fun J2 hI2 => ?_))
  refine E_icmp_eq (tgt := 1448) dL_law_1153 (by decide) (fun c_1153 => ?_) (fun c_1153 => absurd (rfl) c_1153)
  exact ih _ _ _ hI2
theorem law_30 (hd : 200 ≤ d) (v1 : vp_in (nI i + 1) (gn Γ)) (v2 : vp_in (nI i + 2) (gn Γ)) (v3 : vp_in (nI i + 3) (gn Γ)) (v4 : vp_in (nI i + 4) (gn Γ)) (v5 : vp_in (nI i + 5) (gn Γ)) (hI : IV g P I) (ih : ∀ g P I, IV g P I → E Γ mL_law d mc ms QQ rc rs 1448 (LV i) [] g P I) : E Γ mL_law d mc ms QQ (0 + (0 + rc)) (0 + (0 + rs)) 1158 (LV i) [] g P I := by
  have c0 := hI.1.1.gw
  refine E_aload_n (i := 1) dL_law_1158 rfl rfl ?_
  refine E_aload_n (i := 0) dL_law_1159 rfl rfl ?_
  refine E_iload_n (i := 3) dL_law_1160 rfl rfl ?_
  refine E_iconst (v := 1) dL_law_1161 (by decide) ?_
  refine E_iadd dL_law_1162 ?_
  refine E_sld dL_law_1163 v1 ?_
  refine k_L_law_1164 (mc' := 0) (ms' := 0) (rc := 0 + rc) (rs := 0 + rs) (by omega) (Nat.le_of_ble_eq_true rfl) (by assumption) (p_trace g P I (d - 1) _ (by omega) hI (fun v g1 P1 J1 c1 hm => ?_))
  refine E_aload_n (i := 2) dL_law_1167 rfl rfl ?_
  refine E_aload_n (i := 0) dL_law_1168 rfl rfl ?_
  refine E_iload_n (i := 3) dL_law_1169 rfl rfl ?_
  refine E_iconst (v := 1) dL_law_1170 (by decide) ?_
  refine E_iadd dL_law_1171 ?_
  refine E_sld dL_law_1172 v1 ?_
  refine k_L_law_1173 (mc' := 0) (ms' := 0) (rc := rc) (rs := rs) (by omega) (Nat.le_of_ble_eq_true rfl) (by assumption) (hm (d - 1) _ (by omega) (fun J2 hI2 => ?_))
  refine E_icmp_eq (tgt := 1448) dL_law_1176 (by decide) (fun c_1176 => ?_) (fun c_1176 => absurd (rfl) c_1176)
  exact ih _ _ _ hI2
theorem law_31 (hd : 200 ≤ d) (v1 : vp_in (nI i + 1) (gn Γ)) (v2 : vp_in (nI i + 2) (gn Γ)) (v3 : vp_in (nI i + 3) (gn Γ)) (v4 : vp_in (nI i + 4) (gn Γ)) (v5 : vp_in (nI i + 5) (gn Γ)) (hI : IV g P I) (ih : ∀ g P I, IV g P I → E Γ mL_law d mc ms QQ rc rs 1448 (LV i) [] g P I) : E Γ mL_law d mc ms QQ (0 + (0 + rc)) (0 + (0 + rs)) 1181 (LV i) [] g P I := by
  have c0 := hI.1.1.gw
  refine E_aload_n (i := 1) dL_law_1181 rfl rfl ?_
  refine E_aload_n (i := 0) dL_law_1182 rfl rfl ?_
  refine E_iload_n (i := 3) dL_law_1183 rfl rfl ?_
  refine E_iconst (v := 1) dL_law_1184 (by decide) ?_
  refine E_iadd dL_law_1185 ?_
  refine E_sld dL_law_1186 v1 ?_
  refine E_aload_n (i := 0) dL_law_1187 rfl rfl ?_
  refine E_iload_n (i := 3) dL_law_1188 rfl rfl ?_
  refine E_iconst (v := 2) dL_law_1189 (by decide) ?_
  refine E_iadd dL_law_1190 ?_
  refine E_sld dL_law_1191 v2 ?_
  refine E_aload_n (i := 0) dL_law_1192 rfl rfl ?_
  refine E_iload_n (i := 3) dL_law_1193 rfl rfl ?_
  refine E_iconst (v := 3) dL_law_1194 (by decide) ?_
  refine E_iadd dL_law_1195 ?_
  refine E_sld dL_law_1196 v3 ?_
  refine k_L_law_1197 (mc' := 0) (ms' := 0) (rc := 0 + rc) (rs := 0 + rs) (by omega) (Nat.le_of_ble_eq_true rfl) (by assumption) (p_sheet g P I (d - 1) _ (by omega) hI (fun v g1 P1 J1 c1 hm => ?_))
  refine E_aload_n (i := 2) dL_law_1200 rfl rfl ?_
  refine E_aload_n (i := 0) dL_law_1201 rfl rfl ?_
  refine E_iload_n (i := 3) dL_law_1202 rfl rfl ?_
  refine E_iconst (v := 1) dL_law_1203 (by decide) ?_
  refine E_iadd dL_law_1204 ?_
  refine E_sld dL_law_1205 v1 ?_
  refine E_aload_n (i := 0) dL_law_1206 rfl rfl ?_
  refine E_iload_n (i := 3) dL_law_1207 rfl rfl ?_
  refine E_iconst (v := 2) dL_law_1208 (by decide) ?_
  refine E_iadd dL_law_1209 ?_
  refine E_sld dL_law_1210 v2 ?_
  refine E_aload_n (i := 0) dL_law_1211 rfl rfl ?_
  refine E_iload_n (i := 3) dL_law_1212 rfl rfl ?_
  refine E_iconst (v := 3) dL_law_1213 (by decide) ?_
  refine E_iadd dL_law_1214 ?_
  refine E_sld dL_law_1215 v3 ?_
  refine k_L_law_1216 (mc' := 0) (ms' := 0) (rc := rc) (rs := rs) (by omega) (Nat.le_of_ble_eq_true rfl) (by assumption) (hm (d - 1) _ (by omega) (fun J2 hI2 => ?_))
  refine E_icmp_eq (tgt := 1448) dL_law_1219 (by decide) (fun c_1219 => ?_) (fun c_1219 => absurd (rfl) c_1219)
  exact ih _ _ _ hI2
theorem law_32 (hd : 200 ≤ d) (v1 : vp_in (nI i + 1) (gn Γ)) (v2 : vp_in (nI i + 2) (gn Γ)) (v3 : vp_in (nI i + 3) (gn Γ)) (v4 : vp_in (nI i + 4) (gn Γ)) (v5 : vp_in (nI i + 5) (gn Γ)) (hI : IV g P I) (ih : ∀ g P I, IV g P I → E Γ mL_law d mc ms QQ rc rs 1448 (LV i) [] g P I) : E Γ mL_law d mc ms QQ (0 + (0 + rc)) (0 + (0 + rs)) 1224 (LV i) [] g P I := by
  have c0 := hI.1.1.gw
  refine E_aload_n (i := 1) dL_law_1224 rfl rfl ?_
  refine E_aload_n (i := 0) dL_law_1225 rfl rfl ?_
  refine E_iload_n (i := 3) dL_law_1226 rfl rfl ?_
  refine E_iconst (v := 1) dL_law_1227 (by decide) ?_
  refine E_iadd dL_law_1228 ?_
  refine E_sld dL_law_1229 v1 ?_
  refine E_aload_n (i := 0) dL_law_1230 rfl rfl ?_
  refine E_iload_n (i := 3) dL_law_1231 rfl rfl ?_
  refine E_iconst (v := 2) dL_law_1232 (by decide) ?_
  refine E_iadd dL_law_1233 ?_
  refine E_sld dL_law_1234 v2 ?_
  refine E_aload_n (i := 0) dL_law_1235 rfl rfl ?_
  refine E_iload_n (i := 3) dL_law_1236 rfl rfl ?_
  refine E_iconst (v := 3) dL_law_1237 (by decide) ?_
  refine E_iadd dL_law_1238 ?_
  refine E_sld dL_law_1239 v3 ?_
  refine k_L_law_1240 (mc' := 0) (ms' := 0) (rc := 0 + rc) (rs := 0 + rs) (by omega) (Nat.le_of_ble_eq_true rfl) (by assumption) (p_put g P I (d - 1) _ (by omega) hI (fun v g1 P1 J1 c1 hm => ?_))
  refine E_aload_n (i := 2) dL_law_1243 rfl rfl ?_
  refine E_aload_n (i := 0) dL_law_1244 rfl rfl ?_
  refine E_iload_n (i := 3) dL_law_1245 rfl rfl ?_
  refine E_iconst (v := 1) dL_law_1246 (by decide) ?_
  refine E_iadd dL_law_1247 ?_
  refine E_sld dL_law_1248 v1 ?_
  refine E_aload_n (i := 0) dL_law_1249 rfl rfl ?_
  refine E_iload_n (i := 3) dL_law_1250 rfl rfl ?_
  refine E_iconst (v := 2) dL_law_1251 (by decide) ?_
  refine E_iadd dL_law_1252 ?_
  refine E_sld dL_law_1253 v2 ?_
  refine E_aload_n (i := 0) dL_law_1254 rfl rfl ?_
  refine E_iload_n (i := 3) dL_law_1255 rfl rfl ?_
  refine E_iconst (v := 3) dL_law_1256 (by decide) ?_
  refine E_iadd dL_law_1257 ?_
  refine E_sld dL_law_1258 v3 ?_
  refine k_L_law_1259 (mc' := 0) (ms' := 0) (rc := rc) (rs := rs) (by omega) (Nat.le_of_ble_eq_true rfl) (by assumption) (hm (d - 1) _ (by omega) (fun J2 hI2 => ?_))
  refine E_icmp_eq (tgt := 1448) dL_law_1262 (by decide) (fun c_1262 => ?_) (fun c_1262 => absurd (rfl) c_1262)
  exact ih _ _ _ hI2
theorem law_33 (hd : 200 ≤ d) (v1 : vp_in (nI i + 1) (gn Γ)) (v2 : vp_in (nI i + 2) (gn Γ)) (v3 : vp_in (nI i + 3) (gn Γ)) (v4 : vp_in (nI i + 4) (gn Γ)) (v5 : vp_in (nI i + 5) (gn Γ)) (hI : IV g P I) (ih : ∀ g P I, IV g P I → E Γ mL_law d mc ms QQ rc rs 1448 (LV i) [] g P I) : E Γ mL_law d mc ms QQ (0 + (0 + rc)) (0 + (0 + rs)) 1267 (LV i) [] g P I := by
  have c0 := hI.1.1.gw
  refine E_aload_n (i := 1) dL_law_1267 rfl rfl ?_
  refine E_aload_n (i := 0) dL_law_1268 rfl rfl ?_
  refine E_iload_n (i := 3) dL_law_1269 rfl rfl ?_
  refine E_iconst (v := 1) dL_law_1270 (by decide) ?_
  refine E_iadd dL_law_1271 ?_
  refine E_sld dL_law_1272 v1 ?_
  refine E_aload_n (i := 0) dL_law_1273 rfl rfl ?_
  refine E_iload_n (i := 3) dL_law_1274 rfl rfl ?_
  refine E_iconst (v := 2) dL_law_1275 (by decide) ?_
  refine E_iadd dL_law_1276 ?_
  refine E_sld dL_law_1277 v2 ?_
  refine E_aload_n (i := 0) dL_law_1278 rfl rfl ?_
  refine E_iload_n (i := 3) dL_law_1279 rfl rfl ?_
  refine E_iconst (v := 3) dL_law_1280 (by decide) ?_
  refine E_iadd dL_law_1281 ?_
  refine E_sld dL_law_1282 v3 ?_
  refine E_aload_n (i := 0) dL_law_1283 rfl rfl ?_
  refine E_iload_n (i := 3) dL_law_1284 rfl rfl ?_
  refine E_iconst (v := 4) dL_law_1285 (by decide) ?_
  refine E_iadd dL_law_1286 ?_
  refine E_sld dL_law_1287 v4 ?_
  refine E_aload_n (i := 0) dL_law_1288 rfl rfl ?_
  refine E_iload_n (i := 3) dL_law_1289 rfl rfl ?_
  refine E_iconst (v := 5) dL_law_1290 (by decide) ?_
  refine E_iadd dL_law_1291 ?_
  refine E_sld dL_law_1292 v5 ?_
  refine k_L_law_1293 (mc' := 0) (ms' := 0) (rc := 0 + rc) (rs := 0 + rs) (by omega) (Nat.le_of_ble_eq_true rfl) (by assumption) (p_move g P I (d - 1) _ (by omega) hI (fun v g1 P1 J1 c1 hm => ?_))
  refine E_aload_n (i := 2) dL_law_1296 rfl rfl ?_
  refine E_aload_n (i := 0) dL_law_1297 rfl rfl ?_
  refine E_iload_n (i := 3) dL_law_1298 rfl rfl ?_
  refine E_iconst (v := 1) dL_law_1299 (by decide) ?_
  refine E_iadd dL_law_1300 ?_
  refine E_sld dL_law_1301 v1 ?_
  refine E_aload_n (i := 0) dL_law_1302 rfl rfl ?_
  refine E_iload_n (i := 3) dL_law_1303 rfl rfl ?_
  refine E_iconst (v := 2) dL_law_1304 (by decide) ?_
  refine E_iadd dL_law_1305 ?_
  refine E_sld dL_law_1306 v2 ?_
  refine E_aload_n (i := 0) dL_law_1307 rfl rfl ?_
  refine E_iload_n (i := 3) dL_law_1308 rfl rfl ?_
  refine E_iconst (v := 3) dL_law_1309 (by decide) ?_
  refine E_iadd dL_law_1310 ?_
  refine E_sld dL_law_1311 v3 ?_
  refine E_aload_n (i := 0) dL_law_1312 rfl rfl ?_
  refine E_iload_n (i := 3) dL_law_1313 rfl rfl ?_
  refine E_iconst (v := 4) dL_law_1314 (by decide) ?_
  refine E_iadd dL_law_1315 ?_
  refine E_sld dL_law_1316 v4 ?_
  refine E_aload_n (i := 0) dL_law_1317 rfl rfl ?_
  refine E_iload_n (i := 3) dL_law_1318 rfl rfl ?_
  refine E_iconst (v := 5) dL_law_1319 (by decide) ?_
  refine E_iadd dL_law_1320 ?_
  refine E_sld dL_law_1321 v5 ?_
  refine k_L_law_1322 (mc' := 0) (ms' := 0) (rc := rc) (rs := rs) (by omega) (Nat.le_of_ble_eq_true rfl) (by assumption) (hm (d - 1) _ (by omega) (fun J2 hI2 => ?_))
  refine E_icmp_eq (tgt := 1448) dL_law_1325 (by decide) (fun c_1325 => ?_) (fun c_1325 => absurd (rfl) c_1325)
  exact ih _ _ _ hI2
theorem law_34 (hd : 200 ≤ d) (v1 : vp_in (nI i + 1) (gn Γ)) (v2 : vp_in (nI i + 2) (gn Γ)) (v3 : vp_in (nI i + 3) (gn Γ)) (v4 : vp_in (nI i + 4) (gn Γ)) (v5 : vp_in (nI i + 5) (gn Γ)) (hI : IV g P I) (ih : ∀ g P I, IV g P I → E Γ mL_law d mc ms QQ rc rs 1448 (LV i) [] g P I) : E Γ mL_law d mc ms QQ (0 + (0 + rc)) (0 + (0 + rs)) 1330 (LV i) [] g P I := by
  have c0 := hI.1.1.gw
  refine E_aload_n (i := 1) dL_law_1330 rfl rfl ?_
  refine k_L_law_1331 (mc' := 0) (ms' := 0) (rc := 0 + rc) (rs := 0 + rs) (by omega) (Nat.le_of_ble_eq_true rfl) (by assumption) (p_image g P I (d - 1) _ (by omega) hI (fun v g1 P1 J1 c1 hm => ?_))
  refine E_aload_n (i := 2) dL_law_1334 rfl rfl ?_
  refine k_L_law_1335 (mc' := 0) (ms' := 0) (rc := rc) (rs := rs) (by omega) (Nat.le_of_ble_eq_true rfl) (by assumption) (hm (d - 1) _ (by omega) (fun J2 hI2 => ?_))
  refine E_icmp_eq (tgt := 1448) dL_law_1338 (by decide) (fun c_1338 => ?_) (fun c_1338 => absurd (rfl) c_1338)
  exact ih _ _ _ hI2
theorem law_35 (hd : 200 ≤ d) (v1 : vp_in (nI i + 1) (gn Γ)) (v2 : vp_in (nI i + 2) (gn Γ)) (v3 : vp_in (nI i + 3) (gn Γ)) (v4 : vp_in (nI i + 4) (gn Γ)) (v5 : vp_in (nI i + 5) (gn Γ)) (hI : IV g P I) (ih : ∀ g P I, IV g P I → E Γ mL_law d mc ms QQ rc rs 1448 (LV i) [] g P I) : E Γ mL_law d mc ms QQ (0 + (0 + rc)) (0 + (0 + rs)) 1343 (LV i) [] g P I := by
  have c0 := hI.1.1.gw
  refine E_aload_n (i := 1) dL_law_1343 rfl rfl ?_
  refine k_L_law_1344 (mc' := 0) (ms' := 0) (rc := 0 + rc) (rs := 0 + rs) (by omega) (Nat.le_of_ble_eq_true rfl) (by assumption) (p_restore g P I (d - 1) _ (by omega) hI (fun v g1 P1 J1 c1 hm => ?_))
  refine E_aload_n (i := 2) dL_law_1347 rfl rfl ?_
  refine k_L_law_1348 (mc' := 0) (ms' := 0) (rc := rc) (rs := rs) (by omega) (Nat.le_of_ble_eq_true rfl) (by assumption) (hm (d - 1) _ (by omega) (fun J2 hI2 => ?_))
  refine E_icmp_eq (tgt := 1448) dL_law_1351 (by decide) (fun c_1351 => ?_) (fun c_1351 => absurd (rfl) c_1351)
  exact ih _ _ _ hI2
theorem law_36 (hd : 200 ≤ d) (v1 : vp_in (nI i + 1) (gn Γ)) (v2 : vp_in (nI i + 2) (gn Γ)) (v3 : vp_in (nI i + 3) (gn Γ)) (v4 : vp_in (nI i + 4) (gn Γ)) (v5 : vp_in (nI i + 5) (gn Γ)) (hI : IV g P I) (ih : ∀ g P I, IV g P I → E Γ mL_law d mc ms QQ rc rs 1448 (LV i) [] g P I) : E Γ mL_law d mc ms QQ (0 + (0 + rc)) (0 + (0 + rs)) 1356 (LV i) [] g P I := by
  have c0 := hI.1.1.gw
  refine E_aload_n (i := 1) dL_law_1356 rfl rfl ?_
  refine E_aload_n (i := 0) dL_law_1357 rfl rfl ?_
  refine E_iload_n (i := 3) dL_law_1358 rfl rfl ?_
  refine E_iconst (v := 1) dL_law_1359 (by decide) ?_
  refine E_iadd dL_law_1360 ?_
  refine E_sld dL_law_1361 v1 ?_
  refine k_L_law_1362 (mc' := 0) (ms' := 0) (rc := 0 + rc) (rs := 0 + rs) (by omega) (Nat.le_of_ble_eq_true rfl) (by assumption) (p_tell g P I (d - 1) _ (by omega) hI (fun v g1 P1 J1 c1 hm => ?_))
  refine E_aload_n (i := 2) dL_law_1365 rfl rfl ?_
  refine E_aload_n (i := 0) dL_law_1366 rfl rfl ?_
  refine E_iload_n (i := 3) dL_law_1367 rfl rfl ?_
  refine E_iconst (v := 1) dL_law_1368 (by decide) ?_
  refine E_iadd dL_law_1369 ?_
  refine E_sld dL_law_1370 v1 ?_
  refine k_L_law_1371 (mc' := 0) (ms' := 0) (rc := rc) (rs := rs) (by omega) (Nat.le_of_ble_eq_true rfl) (by assumption) (hm (d - 1) _ (by omega) (fun J2 hI2 => ?_))
  refine E_icmp_eq (tgt := 1448) dL_law_1374 (by decide) (fun c_1374 => ?_) (fun c_1374 => absurd (rfl) c_1374)
  exact ih _ _ _ hI2
theorem law_37 (hd : 200 ≤ d) (v1 : vp_in (nI i + 1) (gn Γ)) (v2 : vp_in (nI i + 2) (gn Γ)) (v3 : vp_in (nI i + 3) (gn Γ)) (v4 : vp_in (nI i + 4) (gn Γ)) (v5 : vp_in (nI i + 5) (gn Γ)) (hI : IV g P I) (ih : ∀ g P I, IV g P I → E Γ mL_law d mc ms QQ rc rs 1448 (LV i) [] g P I) : E Γ mL_law d mc ms QQ (0 + (0 + rc)) (0 + (0 + rs)) 1379 (LV i) [] g P I := by
  have c0 := hI.1.1.gw
  refine E_aload_n (i := 1) dL_law_1379 rfl rfl ?_
  refine E_aload_n (i := 0) dL_law_1380 rfl rfl ?_
  refine E_iload_n (i := 3) dL_law_1381 rfl rfl ?_
  refine E_iconst (v := 1) dL_law_1382 (by decide) ?_
  refine E_iadd dL_law_1383 ?_
  refine E_sld dL_law_1384 v1 ?_
  refine k_L_law_1385 (mc' := 0) (ms' := 0) (rc := 0 + rc) (rs := 0 + rs) (by omega) (Nat.le_of_ble_eq_true rfl) (by assumption) (p_check g P I (d - 1) _ (by omega) hI (fun v g1 P1 J1 c1 hm => ?_))
  refine E_aload_n (i := 2) dL_law_1388 rfl rfl ?_
  refine E_aload_n (i := 0) dL_law_1389 rfl rfl ?_
  refine E_iload_n (i := 3) dL_law_1390 rfl rfl ?_
  refine E_iconst (v := 1) dL_law_1391 (by decide) ?_
  refine E_iadd dL_law_1392 ?_
  refine E_sld dL_law_1393 v1 ?_
  refine k_L_law_1394 (mc' := 0) (ms' := 0) (rc := rc) (rs := rs) (by omega) (Nat.le_of_ble_eq_true rfl) (by assumption) (hm (d - 1) _ (by omega) (fun J2 hI2 => ?_))
  refine E_icmp_eq (tgt := 1448) dL_law_1397 (by decide) (fun c_1397 => ?_) (fun c_1397 => absurd (rfl) c_1397)
  exact ih _ _ _ hI2
theorem law_38 (hd : 200 ≤ d) (v1 : vp_in (nI i + 1) (gn Γ)) (v2 : vp_in (nI i + 2) (gn Γ)) (v3 : vp_in (nI i + 3) (gn Γ)) (v4 : vp_in (nI i + 4) (gn Γ)) (v5 : vp_in (nI i + 5) (gn Γ)) (hI : IV g P I) (ih : ∀ g P I, IV g P I → E Γ mL_law d mc ms QQ rc rs 1448 (LV i) [] g P I) : E Γ mL_law d mc ms QQ (0 + (0 + rc)) (0 + (0 + rs)) 1402 (LV i) [] g P I := by
  have c0 := hI.1.1.gw
  refine E_aload_n (i := 1) dL_law_1402 rfl rfl ?_
  refine E_aload_n (i := 0) dL_law_1403 rfl rfl ?_
  refine E_iload_n (i := 3) dL_law_1404 rfl rfl ?_
  refine E_iconst (v := 1) dL_law_1405 (by decide) ?_
  refine E_iadd dL_law_1406 ?_
  refine E_sld dL_law_1407 v1 ?_
  refine k_L_law_1408 (mc' := 0) (ms' := 0) (rc := 0 + rc) (rs := 0 + rs) (by omega) (Nat.le_of_ble_eq_true rfl) (by assumption) (p_count g P I (d - 1) _ (by omega) hI (fun v g1 P1 J1 c1 hm => ?_))
  refine E_aload_n (i := 2) dL_law_1411 rfl rfl ?_
  refine E_aload_n (i := 0) dL_law_1412 rfl rfl ?_
  refine E_iload_n (i := 3) dL_law_1413 rfl rfl ?_
  refine E_iconst (v := 1) dL_law_1414 (by decide) ?_
  refine E_iadd dL_law_1415 ?_
  refine E_sld dL_law_1416 v1 ?_
  refine k_L_law_1417 (mc' := 0) (ms' := 0) (rc := rc) (rs := rs) (by omega) (Nat.le_of_ble_eq_true rfl) (by assumption) (hm (d - 1) _ (by omega) (fun J2 hI2 => ?_))
  refine E_icmp_eq (tgt := 1448) dL_law_1420 (by decide) (fun c_1420 => ?_) (fun c_1420 => absurd (rfl) c_1420)
  exact ih _ _ _ hI2
theorem law_39 (hd : 200 ≤ d) (v1 : vp_in (nI i + 1) (gn Γ)) (v2 : vp_in (nI i + 2) (gn Γ)) (v3 : vp_in (nI i + 3) (gn Γ)) (v4 : vp_in (nI i + 4) (gn Γ)) (v5 : vp_in (nI i + 5) (gn Γ)) (hI : IV g P I) (ih : ∀ g P I, IV g P I → E Γ mL_law d mc ms QQ rc rs 1448 (LV i) [] g P I) : E Γ mL_law d mc ms QQ (0 + (0 + rc)) (0 + (0 + rs)) 1425 (LV i) [] g P I := by
  have c0 := hI.1.1.gw
  refine E_aload_n (i := 1) dL_law_1425 rfl rfl ?_
  refine E_aload_n (i := 0) dL_law_1426 rfl rfl ?_
  refine E_iload_n (i := 3) dL_law_1427 rfl rfl ?_
  refine E_iconst (v := 1) dL_law_1428 (by decide) ?_
  refine E_iadd dL_law_1429 ?_
  refine E_sld dL_law_1430 v1 ?_
  refine k_L_law_1431 (mc' := 0) (ms' := 0) (rc := 0 + rc) (rs := 0 + rs) (by omega) (Nat.le_of_ble_eq_true rfl) (by assumption) (p_told g P I (d - 1) _ (by omega) hI (fun v g1 P1 J1 c1 hm => ?_))
  refine E_aload_n (i := 2) dL_law_1434 rfl rfl ?_
  refine E_aload_n (i := 0) dL_law_1435 rfl rfl ?_
  refine E_iload_n (i := 3) dL_law_1436 rfl rfl ?_
  refine E_iconst (v := 1) dL_law_1437 (by decide) ?_
  refine E_iadd dL_law_1438 ?_
  refine E_sld dL_law_1439 v1 ?_
  refine k_L_law_1440 (mc' := 0) (ms' := 0) (rc := rc) (rs := rs) (by omega) (Nat.le_of_ble_eq_true rfl) (by assumption) (hm (d - 1) _ (by omega) (fun J2 hI2 => ?_))
  refine E_icmp_eq (tgt := 1448) dL_law_1443 (by decide) (fun c_1443 => ?_) (fun c_1443 => absurd (rfl) c_1443)
  exact ih _ _ _ hI2
end

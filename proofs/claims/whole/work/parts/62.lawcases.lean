section LK
variable {σ σ1 : jS}
theorem okG_hi (h : okG σ) (e : ∀ q, 36 ≤ q → σ1 q = σ q) : okG σ1 := by
  intro c a b
  rw [e 36 (by omega)] at b
  rw [e 36 (by omega), e 41 (by omega)]
  exact h c a b
theorem okRd_hi (h : okRd σ) (e : ∀ q, 36 ≤ q → σ1 q = σ q) : okRd σ1 := by
  intro c a b
  rw [e 36 (by omega)] at b
  rw [e 36 (by omega), e 59 (by omega)]
  exact h c a b
theorem Rel_g0 (h : RelV σ) (h1 : 0 < σ 1 1) : 0 < vC σ 1 0 0 := by
  have := h.2 0 (by omega) h1
  omega
end LK
section LCS
variable {p : Program} {l : Launch} {e : Env} {s : State} {m : MethodId} {below : List Frame} {meth : Method} {c : Code} {b L : Nat} {xs : Nat → Int32} {P : jP} {i : Int} {pc : Nat} {st : List Value} {σ : jS}
theorem L_winter (hC : lC P p s m meth c b L xs) (h0 : 0 ≤ i) (h6 : i + 6 ≤ (L : Int)) (hR : Rel σ) (hk : ∀ σ2, Rel σ2 → JL P p l e s m below meth c b i 1279 [] σ2) : JL P p l e s m below meth c b i 196 [] σ := by
  refine L_bd (fun hB => ?_)
  refine L_ald 197 hC dL_law_196 rfl rfl (List.mem_of_getElem? (i := 1) rfl) ?_
  refine L_arg (k := 1) 202 hC h0 h6 (by decide) dL_law_197 dL_law_198 dL_law_199 dL_law_200 dL_law_201 rfl ?_
  refine L_arg (k := 2) 207 hC h0 h6 (by decide) dL_law_202 dL_law_203 dL_law_204 dL_law_205 dL_law_206 rfl ?_
  refine L_arg (k := 3) 212 hC h0 h6 (by decide) dL_law_207 dL_law_208 dL_law_209 dL_law_210 dL_law_211 rfl ?_
  refine L_arg (k := 4) 217 hC h0 h6 (by decide) dL_law_212 dL_law_213 dL_law_214 dL_law_215 dL_law_216 rfl ?_
  refine L_calli 220 hC dL_law_217 rfl kL_13 mX8_winter rfl rfl rfl (c_X8_winter (hw := rfl) (hx := av_in xs i 1) (hl := av_in xs i 2) (hi := av_in xs i 3) (hn := av_in xs i 4)) (by decide) rfl rfl (Nat.le_of_ble_eq_true rfl) (fun z1 σ1 h1 hB1 => ?_)
  refine L_ald 221 hC dL_law_220 rfl rfl (List.mem_of_getElem? (i := 2) rfl) ?_
  refine L_arg (k := 1) 226 hC h0 h6 (by decide) dL_law_221 dL_law_222 dL_law_223 dL_law_224 dL_law_225 rfl ?_
  refine L_arg (k := 2) 231 hC h0 h6 (by decide) dL_law_226 dL_law_227 dL_law_228 dL_law_229 dL_law_230 rfl ?_
  refine L_arg (k := 3) 236 hC h0 h6 (by decide) dL_law_231 dL_law_232 dL_law_233 dL_law_234 dL_law_235 rfl ?_
  refine L_arg (k := 4) 241 hC h0 h6 (by decide) dL_law_236 dL_law_237 dL_law_238 dL_law_239 dL_law_240 rfl ?_
  refine L_calli 244 hC dL_law_241 rfl kL_17 mX9_winter rfl rfl rfl (c_X9_winter (hx := av_in xs i 1) (hl := av_in xs i 2) (hi := av_in xs i 3) (hn := av_in xs i 4) (u := vC σ 8)) (by decide) rfl rfl (Nat.le_of_ble_eq_true rfl) (fun z2 σ2 h2 hB2 => ?_)
  obtain ⟨hz, hr⟩ := o_winter hR hB2 rfl h1 h2
  exact L_eqi hC hz dL_law_244 rfl (hk σ2 hr)
theorem L_ofComer (hC : lC P p s m meth c b L xs) (h0 : 0 ≤ i) (h6 : i + 6 ≤ (L : Int)) (hR : Rel σ) (hk : ∀ σ2, Rel σ2 → JL P p l e s m below meth c b i 1279 [] σ2) : JL P p l e s m below meth c b i 249 [] σ := by
  refine L_bd (fun hB => ?_)
  refine L_ald 250 hC dL_law_249 rfl rfl (List.mem_of_getElem? (i := 1) rfl) ?_
  refine L_arg (k := 1) 255 hC h0 h6 (by decide) dL_law_250 dL_law_251 dL_law_252 dL_law_253 dL_law_254 rfl ?_
  refine L_arg (k := 2) 260 hC h0 h6 (by decide) dL_law_255 dL_law_256 dL_law_257 dL_law_258 dL_law_259 rfl ?_
  refine L_calli 263 hC dL_law_260 rfl kL_18 mX8_ofComer rfl rfl rfl (c_X8_ofComer (hc := av_in xs i 1) (hx := av_in xs i 2)) (by decide) rfl rfl (Nat.le_of_ble_eq_true rfl) (fun z1 σ1 h1 hB1 => ?_)
  refine L_ald 264 hC dL_law_263 rfl rfl (List.mem_of_getElem? (i := 2) rfl) ?_
  refine L_arg (k := 1) 269 hC h0 h6 (by decide) dL_law_264 dL_law_265 dL_law_266 dL_law_267 dL_law_268 rfl ?_
  refine L_arg (k := 2) 274 hC h0 h6 (by decide) dL_law_269 dL_law_270 dL_law_271 dL_law_272 dL_law_273 rfl ?_
  refine L_calli 277 hC dL_law_274 rfl kL_22 mX9_ofComer rfl rfl rfl (c_X9_ofComer (hok := okG_hi (Rel_okG hR.1) (fun q _ => by rw [h1.2])) (hc := av_in xs i 1) (hx := av_in xs i 2)) (by decide) rfl rfl (Nat.le_of_ble_eq_true rfl) (fun z2 σ2 h2 hB2 => ?_)
  obtain ⟨hz, hr⟩ := o_ofComer hR h1 h2
  exact L_eqi hC hz dL_law_277 rfl (hk σ2 hr)
theorem L_ofGate (hC : lC P p s m meth c b L xs) (h0 : 0 ≤ i) (h6 : i + 6 ≤ (L : Int)) (hR : Rel σ) (hk : ∀ σ2, Rel σ2 → JL P p l e s m below meth c b i 1279 [] σ2) : JL P p l e s m below meth c b i 282 [] σ := by
  refine L_bd (fun hB => ?_)
  refine L_ald 283 hC dL_law_282 rfl rfl (List.mem_of_getElem? (i := 1) rfl) ?_
  refine L_arg (k := 1) 288 hC h0 h6 (by decide) dL_law_283 dL_law_284 dL_law_285 dL_law_286 dL_law_287 rfl ?_
  refine L_arg (k := 2) 293 hC h0 h6 (by decide) dL_law_288 dL_law_289 dL_law_290 dL_law_291 dL_law_292 rfl ?_
  refine L_calli 296 hC dL_law_293 rfl kL_23 mX8_ofGate rfl rfl rfl (c_X8_ofGate (hc := av_in xs i 1) (hx := av_in xs i 2)) (by decide) rfl rfl (Nat.le_of_ble_eq_true rfl) (fun z1 σ1 h1 hB1 => ?_)
  refine L_ald 297 hC dL_law_296 rfl rfl (List.mem_of_getElem? (i := 2) rfl) ?_
  refine L_arg (k := 1) 302 hC h0 h6 (by decide) dL_law_297 dL_law_298 dL_law_299 dL_law_300 dL_law_301 rfl ?_
  refine L_arg (k := 2) 307 hC h0 h6 (by decide) dL_law_302 dL_law_303 dL_law_304 dL_law_305 dL_law_306 rfl ?_
  refine L_calli 310 hC dL_law_307 rfl kL_26 mX9_ofGate rfl rfl rfl (c_X9_ofGate (hok := okG_hi (Rel_okG hR.1) (fun q _ => by rw [h1.2])) (hc := av_in xs i 1) (hx := av_in xs i 2)) (by decide) rfl rfl (Nat.le_of_ble_eq_true rfl) (fun z2 σ2 h2 hB2 => ?_)
  obtain ⟨hz, hr⟩ := o_ofGate hR h1 h2
  exact L_eqi hC hz dL_law_310 rfl (hk σ2 hr)
theorem L_show (hC : lC P p s m meth c b L xs) (h0 : 0 ≤ i) (h6 : i + 6 ≤ (L : Int)) (hR : Rel σ) (hk : ∀ σ2, Rel σ2 → JL P p l e s m below meth c b i 1279 [] σ2) : JL P p l e s m below meth c b i 315 [] σ := by
  refine L_bd (fun hB => ?_)
  refine L_ald 316 hC dL_law_315 rfl rfl (List.mem_of_getElem? (i := 1) rfl) ?_
  refine L_arg (k := 1) 321 hC h0 h6 (by decide) dL_law_316 dL_law_317 dL_law_318 dL_law_319 dL_law_320 rfl ?_
  refine L_arg (k := 2) 326 hC h0 h6 (by decide) dL_law_321 dL_law_322 dL_law_323 dL_law_324 dL_law_325 rfl ?_
  refine L_calli 329 hC dL_law_326 rfl kL_27 mX8_show rfl rfl rfl (c_X8_show (hc := av_in xs i 1) (hx := av_in xs i 2)) (by decide) rfl rfl (Nat.le_of_ble_eq_true rfl) (fun z1 σ1 h1 hB1 => ?_)
  refine L_ald 330 hC dL_law_329 rfl rfl (List.mem_of_getElem? (i := 2) rfl) ?_
  refine L_arg (k := 1) 335 hC h0 h6 (by decide) dL_law_330 dL_law_331 dL_law_332 dL_law_333 dL_law_334 rfl ?_
  refine L_arg (k := 2) 340 hC h0 h6 (by decide) dL_law_335 dL_law_336 dL_law_337 dL_law_338 dL_law_339 rfl ?_
  refine L_calli 343 hC dL_law_340 rfl kL_30 mX9_show rfl rfl rfl (c_X9_show (hc := av_in xs i 1) (hx := av_in xs i 2)) (by decide) rfl rfl (Nat.le_of_ble_eq_true rfl) (fun z2 σ2 h2 hB2 => ?_)
  obtain ⟨hz, hr⟩ := o_show hR h1 h2
  exact L_eqi hC hz dL_law_343 rfl (hk σ2 hr)
theorem L_lead (hC : lC P p s m meth c b L xs) (h0 : 0 ≤ i) (h6 : i + 6 ≤ (L : Int)) (hR : Rel σ) (hk : ∀ σ2, Rel σ2 → JL P p l e s m below meth c b i 1279 [] σ2) : JL P p l e s m below meth c b i 348 [] σ := by
  refine L_bd (fun hB => ?_)
  refine L_ald 349 hC dL_law_348 rfl rfl (List.mem_of_getElem? (i := 1) rfl) ?_
  refine L_arg (k := 1) 354 hC h0 h6 (by decide) dL_law_349 dL_law_350 dL_law_351 dL_law_352 dL_law_353 rfl ?_
  refine L_arg (k := 2) 359 hC h0 h6 (by decide) dL_law_354 dL_law_355 dL_law_356 dL_law_357 dL_law_358 rfl ?_
  refine L_calli 362 hC dL_law_359 rfl kL_31 mX8_lead rfl rfl rfl (c_X8_lead (hc := av_in xs i 1) (hx := av_in xs i 2)) (by decide) rfl rfl (Nat.le_of_ble_eq_true rfl) (fun z1 σ1 h1 hB1 => ?_)
  refine L_ald 363 hC dL_law_362 rfl rfl (List.mem_of_getElem? (i := 2) rfl) ?_
  refine L_arg (k := 1) 368 hC h0 h6 (by decide) dL_law_363 dL_law_364 dL_law_365 dL_law_366 dL_law_367 rfl ?_
  refine L_arg (k := 2) 373 hC h0 h6 (by decide) dL_law_368 dL_law_369 dL_law_370 dL_law_371 dL_law_372 rfl ?_
  refine L_calli 376 hC dL_law_373 rfl kL_34 mX9_lead rfl rfl rfl (c_X9_lead (hc := av_in xs i 1) (hx := av_in xs i 2)) (by decide) rfl rfl (Nat.le_of_ble_eq_true rfl) (fun z2 σ2 h2 hB2 => ?_)
  obtain ⟨hz, hr⟩ := o_lead hR h1 h2
  exact L_eqi hC hz dL_law_376 rfl (hk σ2 hr)
theorem L_bake (hC : lC P p s m meth c b L xs) (h0 : 0 ≤ i) (h6 : i + 6 ≤ (L : Int)) (hR : Rel σ) (hk : ∀ σ2, Rel σ2 → JL P p l e s m below meth c b i 1279 [] σ2) : JL P p l e s m below meth c b i 381 [] σ := by
  refine L_bd (fun hB => ?_)
  refine L_ald 382 hC dL_law_381 rfl rfl (List.mem_of_getElem? (i := 1) rfl) ?_
  refine L_arg (k := 1) 387 hC h0 h6 (by decide) dL_law_382 dL_law_383 dL_law_384 dL_law_385 dL_law_386 rfl ?_
  refine L_arg (k := 2) 392 hC h0 h6 (by decide) dL_law_387 dL_law_388 dL_law_389 dL_law_390 dL_law_391 rfl ?_
  refine L_calli 395 hC dL_law_392 rfl kL_35 mX8_bake rfl rfl rfl (c_X8_bake (hc := av_in xs i 1) (hx := av_in xs i 2)) (by decide) rfl rfl (Nat.le_of_ble_eq_true rfl) (fun z1 σ1 h1 hB1 => ?_)
  refine L_ald 396 hC dL_law_395 rfl rfl (List.mem_of_getElem? (i := 2) rfl) ?_
  refine L_arg (k := 1) 401 hC h0 h6 (by decide) dL_law_396 dL_law_397 dL_law_398 dL_law_399 dL_law_400 rfl ?_
  refine L_arg (k := 2) 406 hC h0 h6 (by decide) dL_law_401 dL_law_402 dL_law_403 dL_law_404 dL_law_405 rfl ?_
  refine L_calli 409 hC dL_law_406 rfl kL_38 mX9_bake rfl rfl rfl (c_X9_bake (hc := av_in xs i 1) (hx := av_in xs i 2)) (by decide) rfl rfl (Nat.le_of_ble_eq_true rfl) (fun z2 σ2 h2 hB2 => ?_)
  obtain ⟨hz, hr⟩ := o_bake hR h1 h2
  exact L_eqi hC hz dL_law_409 rfl (hk σ2 hr)
theorem L_manner (hC : lC P p s m meth c b L xs) (h0 : 0 ≤ i) (h6 : i + 6 ≤ (L : Int)) (hR : Rel σ) (hk : ∀ σ2, Rel σ2 → JL P p l e s m below meth c b i 1279 [] σ2) : JL P p l e s m below meth c b i 414 [] σ := by
  refine L_bd (fun hB => ?_)
  refine L_ald 415 hC dL_law_414 rfl rfl (List.mem_of_getElem? (i := 1) rfl) ?_
  refine L_arg (k := 1) 420 hC h0 h6 (by decide) dL_law_415 dL_law_416 dL_law_417 dL_law_418 dL_law_419 rfl ?_
  refine L_calli 423 hC dL_law_420 rfl kL_39 mX8_manner rfl rfl rfl (c_X8_manner (hx := av_in xs i 1)) (by decide) rfl rfl (Nat.le_of_ble_eq_true rfl) (fun z1 σ1 h1 hB1 => ?_)
  refine L_ald 424 hC dL_law_423 rfl rfl (List.mem_of_getElem? (i := 2) rfl) ?_
  refine L_arg (k := 1) 429 hC h0 h6 (by decide) dL_law_424 dL_law_425 dL_law_426 dL_law_427 dL_law_428 rfl ?_
  refine L_calli 432 hC dL_law_429 rfl kL_43 mX9_manner rfl rfl rfl (c_X9_manner (hx := av_in xs i 1)) (by decide) rfl rfl (Nat.le_of_ble_eq_true rfl) (fun z2 σ2 h2 hB2 => ?_)
  obtain ⟨hz, hr⟩ := o_manner hR h1 h2
  exact L_eqi hC hz dL_law_432 rfl (hk σ2 hr)
theorem L_chalk (hC : lC P p s m meth c b L xs) (h0 : 0 ≤ i) (h6 : i + 6 ≤ (L : Int)) (hR : Rel σ) (hk : ∀ σ2, Rel σ2 → JL P p l e s m below meth c b i 1279 [] σ2) : JL P p l e s m below meth c b i 437 [] σ := by
  refine L_bd (fun hB => ?_)
  refine L_ald 438 hC dL_law_437 rfl rfl (List.mem_of_getElem? (i := 1) rfl) ?_
  refine L_arg (k := 1) 443 hC h0 h6 (by decide) dL_law_438 dL_law_439 dL_law_440 dL_law_441 dL_law_442 rfl ?_
  refine L_calli 446 hC dL_law_443 rfl kL_44 mX8_chalk rfl rfl rfl (c_X8_chalk (hx := av_in xs i 1)) (by decide) rfl rfl (Nat.le_of_ble_eq_true rfl) (fun z1 σ1 h1 hB1 => ?_)
  refine L_ald 447 hC dL_law_446 rfl rfl (List.mem_of_getElem? (i := 2) rfl) ?_
  refine L_arg (k := 1) 452 hC h0 h6 (by decide) dL_law_447 dL_law_448 dL_law_449 dL_law_450 dL_law_451 rfl ?_
  refine L_calli 455 hC dL_law_452 rfl kL_47 mX9_chalk rfl rfl rfl (c_X9_chalk (hx := av_in xs i 1)) (by decide) rfl rfl (Nat.le_of_ble_eq_true rfl) (fun z2 σ2 h2 hB2 => ?_)
  obtain ⟨hz, hr⟩ := o_chalk hR h1 h2
  exact L_eqi hC hz dL_law_455 rfl (hk σ2 hr)
theorem L_day (hC : lC P p s m meth c b L xs) (h0 : 0 ≤ i) (h6 : i + 6 ≤ (L : Int)) (hR : Rel σ) (hk : ∀ σ2, Rel σ2 → JL P p l e s m below meth c b i 1279 [] σ2) : JL P p l e s m below meth c b i 460 [] σ := by
  refine L_bd (fun hB => ?_)
  refine L_ald 461 hC dL_law_460 rfl rfl (List.mem_of_getElem? (i := 1) rfl) ?_
  refine L_arg (k := 1) 466 hC h0 h6 (by decide) dL_law_461 dL_law_462 dL_law_463 dL_law_464 dL_law_465 rfl ?_
  refine L_arg (k := 2) 471 hC h0 h6 (by decide) dL_law_466 dL_law_467 dL_law_468 dL_law_469 dL_law_470 rfl ?_
  refine L_arg (k := 3) 476 hC h0 h6 (by decide) dL_law_471 dL_law_472 dL_law_473 dL_law_474 dL_law_475 rfl ?_
  refine L_arg (k := 4) 481 hC h0 h6 (by decide) dL_law_476 dL_law_477 dL_law_478 dL_law_479 dL_law_480 rfl ?_
  refine L_arg (k := 5) 486 hC h0 h6 (by decide) dL_law_481 dL_law_482 dL_law_483 dL_law_484 dL_law_485 rfl ?_
  refine L_calli 489 hC dL_law_486 rfl kL_48 mX8_day rfl rfl rfl (c_X8_day (hw := rfl) (hx := av_in xs i 1) (hl := av_in xs i 2) (hi := av_in xs i 3) (hn := av_in xs i 4) (hy := av_in xs i 5)) (by decide) rfl rfl (Nat.le_of_ble_eq_true rfl) (fun z1 σ1 h1 hB1 => ?_)
  refine L_ald 490 hC dL_law_489 rfl rfl (List.mem_of_getElem? (i := 2) rfl) ?_
  refine L_arg (k := 1) 495 hC h0 h6 (by decide) dL_law_490 dL_law_491 dL_law_492 dL_law_493 dL_law_494 rfl ?_
  refine L_arg (k := 2) 500 hC h0 h6 (by decide) dL_law_495 dL_law_496 dL_law_497 dL_law_498 dL_law_499 rfl ?_
  refine L_arg (k := 3) 505 hC h0 h6 (by decide) dL_law_500 dL_law_501 dL_law_502 dL_law_503 dL_law_504 rfl ?_
  refine L_arg (k := 4) 510 hC h0 h6 (by decide) dL_law_505 dL_law_506 dL_law_507 dL_law_508 dL_law_509 rfl ?_
  refine L_arg (k := 5) 515 hC h0 h6 (by decide) dL_law_510 dL_law_511 dL_law_512 dL_law_513 dL_law_514 rfl ?_
  refine L_calli 518 hC dL_law_515 rfl kL_52 mX9_day rfl rfl rfl (c_X9_day (hok := okG_hi (Rel_okG hR.1) (fun q hq => (h1.2 q (by omega)).trans (jup_ne (by omega)))) (hx := av_in xs i 1) (hl := av_in xs i 2) (hi := av_in xs i 3) (hn := av_in xs i 4) (hy := av_in xs i 5)) (by decide) rfl rfl (Nat.le_of_ble_eq_true rfl) (fun z2 σ2 h2 hB2 => ?_)
  obtain ⟨hz, hr⟩ := o_day hR rfl h1 h2
  exact L_eqi hC hz dL_law_518 rfl (hk σ2 hr)
theorem L_know (hC : lC P p s m meth c b L xs) (h0 : 0 ≤ i) (h6 : i + 6 ≤ (L : Int)) (hR : Rel σ) (hk : ∀ σ2, Rel σ2 → JL P p l e s m below meth c b i 1279 [] σ2) : JL P p l e s m below meth c b i 523 [] σ := by
  refine L_bd (fun hB => ?_)
  refine L_ald 524 hC dL_law_523 rfl rfl (List.mem_of_getElem? (i := 1) rfl) ?_
  refine L_arg (k := 1) 529 hC h0 h6 (by decide) dL_law_524 dL_law_525 dL_law_526 dL_law_527 dL_law_528 rfl ?_
  refine L_arg (k := 2) 534 hC h0 h6 (by decide) dL_law_529 dL_law_530 dL_law_531 dL_law_532 dL_law_533 rfl ?_
  refine L_calli 537 hC dL_law_534 rfl kL_53 mX8_know rfl rfl rfl (c_X8_know (hc := av_in xs i 1) (hx := av_in xs i 2)) (by decide) rfl rfl (Nat.le_of_ble_eq_true rfl) (fun z1 σ1 h1 hB1 => ?_)
  refine L_ald 538 hC dL_law_537 rfl rfl (List.mem_of_getElem? (i := 2) rfl) ?_
  refine L_arg (k := 1) 543 hC h0 h6 (by decide) dL_law_538 dL_law_539 dL_law_540 dL_law_541 dL_law_542 rfl ?_
  refine L_arg (k := 2) 548 hC h0 h6 (by decide) dL_law_543 dL_law_544 dL_law_545 dL_law_546 dL_law_547 rfl ?_
  refine L_calli 551 hC dL_law_548 rfl kL_56 mX9_know rfl rfl rfl (c_X9_know (hc := av_in xs i 1) (hx := av_in xs i 2)) (by decide) rfl rfl (Nat.le_of_ble_eq_true rfl) (fun z2 σ2 h2 hB2 => ?_)
  obtain ⟨hz, hr⟩ := o_know hR hB h1 h2
  exact L_eqi hC hz dL_law_551 rfl (hk σ2 hr)
theorem L_far (hC : lC P p s m meth c b L xs) (h0 : 0 ≤ i) (h6 : i + 6 ≤ (L : Int)) (hR : Rel σ) (hk : ∀ σ2, Rel σ2 → JL P p l e s m below meth c b i 1279 [] σ2) : JL P p l e s m below meth c b i 556 [] σ := by
  refine L_bd (fun hB => ?_)
  refine L_ald 557 hC dL_law_556 rfl rfl (List.mem_of_getElem? (i := 1) rfl) ?_
  refine L_arg (k := 1) 562 hC h0 h6 (by decide) dL_law_557 dL_law_558 dL_law_559 dL_law_560 dL_law_561 rfl ?_
  refine L_arg (k := 2) 567 hC h0 h6 (by decide) dL_law_562 dL_law_563 dL_law_564 dL_law_565 dL_law_566 rfl ?_
  refine L_calli 570 hC dL_law_567 rfl kL_57 mX8_far rfl rfl rfl (c_X8_far (hc := av_in xs i 1) (hx := av_in xs i 2)) (by decide) rfl rfl (Nat.le_of_ble_eq_true rfl) (fun z1 σ1 h1 hB1 => ?_)
  refine L_ald 571 hC dL_law_570 rfl rfl (List.mem_of_getElem? (i := 2) rfl) ?_
  refine L_arg (k := 1) 576 hC h0 h6 (by decide) dL_law_571 dL_law_572 dL_law_573 dL_law_574 dL_law_575 rfl ?_
  refine L_arg (k := 2) 581 hC h0 h6 (by decide) dL_law_576 dL_law_577 dL_law_578 dL_law_579 dL_law_580 rfl ?_
  refine L_calli 584 hC dL_law_581 rfl kL_60 mX9_far rfl rfl rfl (c_X9_far (hc := av_in xs i 1) (hx := av_in xs i 2)) (by decide) rfl rfl (Nat.le_of_ble_eq_true rfl) (fun z2 σ2 h2 hB2 => ?_)
  obtain ⟨hz, hr⟩ := o_far hR hB h1 h2
  exact L_eqi hC hz dL_law_584 rfl (hk σ2 hr)
theorem L_lantern (hC : lC P p s m meth c b L xs) (h0 : 0 ≤ i) (h6 : i + 6 ≤ (L : Int)) (hR : Rel σ) (hk : ∀ σ2, Rel σ2 → JL P p l e s m below meth c b i 1279 [] σ2) : JL P p l e s m below meth c b i 589 [] σ := by
  refine L_bd (fun hB => ?_)
  refine L_ald 590 hC dL_law_589 rfl rfl (List.mem_of_getElem? (i := 1) rfl) ?_
  refine L_arg (k := 1) 595 hC h0 h6 (by decide) dL_law_590 dL_law_591 dL_law_592 dL_law_593 dL_law_594 rfl ?_
  refine L_arg (k := 2) 600 hC h0 h6 (by decide) dL_law_595 dL_law_596 dL_law_597 dL_law_598 dL_law_599 rfl ?_
  refine L_calli 603 hC dL_law_600 rfl kL_61 mX8_lantern rfl rfl rfl (c_X8_lantern (hc := av_in xs i 1) (hx := av_in xs i 2)) (by decide) rfl rfl (Nat.le_of_ble_eq_true rfl) (fun z1 σ1 h1 hB1 => ?_)
  refine L_ald 604 hC dL_law_603 rfl rfl (List.mem_of_getElem? (i := 2) rfl) ?_
  refine L_arg (k := 1) 609 hC h0 h6 (by decide) dL_law_604 dL_law_605 dL_law_606 dL_law_607 dL_law_608 rfl ?_
  refine L_arg (k := 2) 614 hC h0 h6 (by decide) dL_law_609 dL_law_610 dL_law_611 dL_law_612 dL_law_613 rfl ?_
  refine L_calli 617 hC dL_law_614 rfl kL_64 mX9_lantern rfl rfl rfl (c_X9_lantern (hc := av_in xs i 1) (hx := av_in xs i 2)) (by decide) rfl rfl (Nat.le_of_ble_eq_true rfl) (fun z2 σ2 h2 hB2 => ?_)
  obtain ⟨hz, hr⟩ := o_lantern hR h1 h2
  exact L_eqi hC hz dL_law_617 rfl (hk σ2 hr)
theorem L_best (hC : lC P p s m meth c b L xs) (h0 : 0 ≤ i) (h6 : i + 6 ≤ (L : Int)) (hR : Rel σ) (hk : ∀ σ2, Rel σ2 → JL P p l e s m below meth c b i 1279 [] σ2) : JL P p l e s m below meth c b i 622 [] σ := by
  refine L_bd (fun hB => ?_)
  refine L_ald 623 hC dL_law_622 rfl rfl (List.mem_of_getElem? (i := 1) rfl) ?_
  refine L_calli 626 hC dL_law_623 rfl kL_65 mX8_best rfl rfl rfl (c_X8_best ) (by decide) rfl rfl (Nat.le_of_ble_eq_true rfl) (fun z1 σ1 h1 hB1 => ?_)
  refine L_ald 627 hC dL_law_626 rfl rfl (List.mem_of_getElem? (i := 2) rfl) ?_
  refine L_calli 630 hC dL_law_627 rfl kL_69 mX9_best rfl rfl rfl (c_X9_best ) (by decide) rfl rfl (Nat.le_of_ble_eq_true rfl) (fun z2 σ2 h2 hB2 => ?_)
  obtain ⟨hz, hr⟩ := o_best hR h1 h2
  exact L_eqi hC hz dL_law_630 rfl (hk σ2 hr)
theorem L_without (hC : lC P p s m meth c b L xs) (h0 : 0 ≤ i) (h6 : i + 6 ≤ (L : Int)) (hR : Rel σ) (hk : ∀ σ2, Rel σ2 → JL P p l e s m below meth c b i 1279 [] σ2) : JL P p l e s m below meth c b i 635 [] σ := by
  refine L_bd (fun hB => ?_)
  refine L_ald 636 hC dL_law_635 rfl rfl (List.mem_of_getElem? (i := 1) rfl) ?_
  refine L_arg (k := 1) 641 hC h0 h6 (by decide) dL_law_636 dL_law_637 dL_law_638 dL_law_639 dL_law_640 rfl ?_
  refine L_calli 644 hC dL_law_641 rfl kL_70 mX8_without rfl rfl rfl (c_X8_without (hx := av_in xs i 1)) (by decide) rfl rfl (Nat.le_of_ble_eq_true rfl) (fun z1 σ1 h1 hB1 => ?_)
  refine L_ald 645 hC dL_law_644 rfl rfl (List.mem_of_getElem? (i := 2) rfl) ?_
  refine L_arg (k := 1) 650 hC h0 h6 (by decide) dL_law_645 dL_law_646 dL_law_647 dL_law_648 dL_law_649 rfl ?_
  refine L_calli 653 hC dL_law_650 rfl kL_73 mX9_without rfl rfl rfl (c_X9_without (hok := okG_hi (Rel_okG hR.1) (fun q hq => h1.2 q (by omega))) (hx := av_in xs i 1)) (by decide) rfl rfl (Nat.le_of_ble_eq_true rfl) (fun z2 σ2 h2 hB2 => ?_)
  obtain ⟨hz, hr⟩ := o_without hR h1 h2
  exact L_eqi hC hz dL_law_653 rfl (hk σ2 hr)
theorem L_gain (hC : lC P p s m meth c b L xs) (h0 : 0 ≤ i) (h6 : i + 6 ≤ (L : Int)) (hR : Rel σ) (hk : ∀ σ2, Rel σ2 → JL P p l e s m below meth c b i 1279 [] σ2) : JL P p l e s m below meth c b i 658 [] σ := by
  refine L_bd (fun hB => ?_)
  refine L_ald 659 hC dL_law_658 rfl rfl (List.mem_of_getElem? (i := 1) rfl) ?_
  refine L_arg (k := 1) 664 hC h0 h6 (by decide) dL_law_659 dL_law_660 dL_law_661 dL_law_662 dL_law_663 rfl ?_
  refine L_calli 667 hC dL_law_664 rfl kL_74 mX8_gain rfl rfl rfl (c_X8_gain (hc := av_in xs i 1)) (by decide) rfl rfl (Nat.le_of_ble_eq_true rfl) (fun z1 σ1 h1 hB1 => ?_)
  refine L_ald 668 hC dL_law_667 rfl rfl (List.mem_of_getElem? (i := 2) rfl) ?_
  refine L_arg (k := 1) 673 hC h0 h6 (by decide) dL_law_668 dL_law_669 dL_law_670 dL_law_671 dL_law_672 rfl ?_
  refine L_calli 676 hC dL_law_673 rfl kL_77 mX9_gain rfl rfl rfl (c_X9_gain (hok := okG_hi (Rel_okG hR.1) (fun q hq => h1.2 q (by omega))) (hc := av_in xs i 1)) (by decide) rfl rfl (Nat.le_of_ble_eq_true rfl) (fun z2 σ2 h2 hB2 => ?_)
  obtain ⟨hz, hr⟩ := o_gain hR h1 h2
  exact L_eqi hC hz dL_law_676 rfl (hk σ2 hr)
theorem L_needs (hC : lC P p s m meth c b L xs) (h0 : 0 ≤ i) (h6 : i + 6 ≤ (L : Int)) (hR : Rel σ) (hk : ∀ σ2, Rel σ2 → JL P p l e s m below meth c b i 1279 [] σ2) : JL P p l e s m below meth c b i 681 [] σ := by
  refine L_bd (fun hB => ?_)
  refine L_ald 682 hC dL_law_681 rfl rfl (List.mem_of_getElem? (i := 1) rfl) ?_
  refine L_arg (k := 1) 687 hC h0 h6 (by decide) dL_law_682 dL_law_683 dL_law_684 dL_law_685 dL_law_686 rfl ?_
  refine L_calli 690 hC dL_law_687 rfl kL_78 mX8_needs rfl rfl rfl (c_X8_needs (hc := av_in xs i 1)) (by decide) rfl rfl (Nat.le_of_ble_eq_true rfl) (fun z1 σ1 h1 hB1 => ?_)
  refine L_ald 691 hC dL_law_690 rfl rfl (List.mem_of_getElem? (i := 2) rfl) ?_
  refine L_arg (k := 1) 696 hC h0 h6 (by decide) dL_law_691 dL_law_692 dL_law_693 dL_law_694 dL_law_695 rfl ?_
  refine L_calli 699 hC dL_law_696 rfl kL_81 mX9_needs rfl rfl rfl (c_X9_needs (hok := okG_hi (Rel_okG hR.1) (fun q hq => h1.2 q (by omega))) (hc := av_in xs i 1)) (by decide) rfl rfl (Nat.le_of_ble_eq_true rfl) (fun z2 σ2 h2 hB2 => ?_)
  obtain ⟨hz, hr⟩ := o_needs hR h1 h2
  exact L_eqi hC hz dL_law_699 rfl (hk σ2 hr)
theorem L_parted (hC : lC P p s m meth c b L xs) (h0 : 0 ≤ i) (h6 : i + 6 ≤ (L : Int)) (hR : Rel σ) (hk : ∀ σ2, Rel σ2 → JL P p l e s m below meth c b i 1279 [] σ2) : JL P p l e s m below meth c b i 704 [] σ := by
  refine L_bd (fun hB => ?_)
  refine L_ald 705 hC dL_law_704 rfl rfl (List.mem_of_getElem? (i := 1) rfl) ?_
  refine L_arg (k := 1) 710 hC h0 h6 (by decide) dL_law_705 dL_law_706 dL_law_707 dL_law_708 dL_law_709 rfl ?_
  refine L_calli 713 hC dL_law_710 rfl kL_82 mX8_parted rfl rfl rfl (c_X8_parted (hx := av_in xs i 1) (hP := fun z => parM_ne (vC_B hB (Or.inl rfl)) (Rel_g0 hR.1 z))) (by decide) rfl rfl (Nat.le_of_ble_eq_true rfl) (fun z1 σ1 h1 hB1 => ?_)
  refine L_ald 714 hC dL_law_713 rfl rfl (List.mem_of_getElem? (i := 2) rfl) ?_
  refine L_arg (k := 1) 719 hC h0 h6 (by decide) dL_law_714 dL_law_715 dL_law_716 dL_law_717 dL_law_718 rfl ?_
  refine L_calli 722 hC dL_law_719 rfl kL_85 mX9_parted rfl rfl rfl (c_X9_parted (hok := okG_hi (Rel_okG hR.1) (fun q hq => h1.2 q (by omega))) (hx := av_in xs i 1)) (by decide) rfl rfl (Nat.le_of_ble_eq_true rfl) (fun z2 σ2 h2 hB2 => ?_)
  obtain ⟨hz, hr⟩ := o_parted hR h1 h2
  exact L_eqi hC hz dL_law_722 rfl (hk σ2 hr)
theorem L_given (hC : lC P p s m meth c b L xs) (h0 : 0 ≤ i) (h6 : i + 6 ≤ (L : Int)) (hR : Rel σ) (hk : ∀ σ2, Rel σ2 → JL P p l e s m below meth c b i 1279 [] σ2) : JL P p l e s m below meth c b i 727 [] σ := by
  refine L_bd (fun hB => ?_)
  refine L_ald 728 hC dL_law_727 rfl rfl (List.mem_of_getElem? (i := 1) rfl) ?_
  refine L_calli 731 hC dL_law_728 rfl kL_86 mX8_given rfl rfl rfl (c_X8_given ) (by decide) rfl rfl (Nat.le_of_ble_eq_true rfl) (fun z1 σ1 h1 hB1 => ?_)
  refine L_ald 732 hC dL_law_731 rfl rfl (List.mem_of_getElem? (i := 2) rfl) ?_
  refine L_calli 735 hC dL_law_732 rfl kL_89 mX9_given rfl rfl rfl (c_X9_given (hok := okG_hi (Rel_okG hR.1) (fun q hq => h1.2 q (by omega)))) (by decide) rfl rfl (Nat.le_of_ble_eq_true rfl) (fun z2 σ2 h2 hB2 => ?_)
  obtain ⟨hz, hr⟩ := o_given hR hB1 h1 h2
  exact L_eqi hC hz dL_law_735 rfl (hk σ2 hr)
theorem L_settles (hC : lC P p s m meth c b L xs) (h0 : 0 ≤ i) (h6 : i + 6 ≤ (L : Int)) (hR : Rel σ) (hk : ∀ σ2, Rel σ2 → JL P p l e s m below meth c b i 1279 [] σ2) : JL P p l e s m below meth c b i 740 [] σ := by
  refine L_bd (fun hB => ?_)
  refine L_ald 741 hC dL_law_740 rfl rfl (List.mem_of_getElem? (i := 1) rfl) ?_
  refine L_arg (k := 1) 746 hC h0 h6 (by decide) dL_law_741 dL_law_742 dL_law_743 dL_law_744 dL_law_745 rfl ?_
  refine L_calli 749 hC dL_law_746 rfl kL_90 mX8_settles rfl rfl rfl (c_X8_settles (hx := av_in xs i 1)) (by decide) rfl rfl (Nat.le_of_ble_eq_true rfl) (fun z1 σ1 h1 hB1 => ?_)
  refine L_ald 750 hC dL_law_749 rfl rfl (List.mem_of_getElem? (i := 2) rfl) ?_
  refine L_arg (k := 1) 755 hC h0 h6 (by decide) dL_law_750 dL_law_751 dL_law_752 dL_law_753 dL_law_754 rfl ?_
  refine L_calli 758 hC dL_law_755 rfl kL_93 mX9_settles rfl rfl rfl (c_X9_settles (hok := okG_hi (Rel_okG hR.1) (fun q hq => h1.2 q (by omega))) (hx := av_in xs i 1)) (by decide) rfl rfl (Nat.le_of_ble_eq_true rfl) (fun z2 σ2 h2 hB2 => ?_)
  obtain ⟨hz, hr⟩ := o_settles hR h1 h2
  exact L_eqi hC hz dL_law_758 rfl (hk σ2 hr)
theorem L_more (hC : lC P p s m meth c b L xs) (h0 : 0 ≤ i) (h6 : i + 6 ≤ (L : Int)) (hR : Rel σ) (hk : ∀ σ2, Rel σ2 → JL P p l e s m below meth c b i 1279 [] σ2) : JL P p l e s m below meth c b i 763 [] σ := by
  refine L_bd (fun hB => ?_)
  refine L_ald 764 hC dL_law_763 rfl rfl (List.mem_of_getElem? (i := 1) rfl) ?_
  refine L_arg (k := 1) 769 hC h0 h6 (by decide) dL_law_764 dL_law_765 dL_law_766 dL_law_767 dL_law_768 rfl ?_
  refine L_calli 772 hC dL_law_769 rfl kL_94 mX8_more rfl rfl rfl (c_X8_more (hx := av_in xs i 1)) (by decide) rfl rfl (Nat.le_of_ble_eq_true rfl) (fun z1 σ1 h1 hB1 => ?_)
  refine L_ald 773 hC dL_law_772 rfl rfl (List.mem_of_getElem? (i := 2) rfl) ?_
  refine L_arg (k := 1) 778 hC h0 h6 (by decide) dL_law_773 dL_law_774 dL_law_775 dL_law_776 dL_law_777 rfl ?_
  refine L_calli 781 hC dL_law_778 rfl kL_97 mX9_more rfl rfl rfl (c_X9_more (hok := okG_hi (Rel_okG hR.1) (fun q hq => by rw [← h1.2]; split; exact jset_ne (by omega); rfl)) (hx := av_in xs i 1)) (by decide) rfl rfl (Nat.le_of_ble_eq_true rfl) (fun z2 σ2 h2 hB2 => ?_)
  obtain ⟨hz, hr⟩ := o_more hR h1 h2
  exact L_eqi hC hz dL_law_781 rfl (hk σ2 hr)
theorem L_reading (hC : lC P p s m meth c b L xs) (h0 : 0 ≤ i) (h6 : i + 6 ≤ (L : Int)) (hR : Rel σ) (hk : ∀ σ2, Rel σ2 → JL P p l e s m below meth c b i 1279 [] σ2) : JL P p l e s m below meth c b i 786 [] σ := by
  refine L_bd (fun hB => ?_)
  refine L_ald 787 hC dL_law_786 rfl rfl (List.mem_of_getElem? (i := 1) rfl) ?_
  refine L_arg (k := 1) 792 hC h0 h6 (by decide) dL_law_787 dL_law_788 dL_law_789 dL_law_790 dL_law_791 rfl ?_
  refine L_arg (k := 2) 797 hC h0 h6 (by decide) dL_law_792 dL_law_793 dL_law_794 dL_law_795 dL_law_796 rfl ?_
  refine L_calli 800 hC dL_law_797 rfl kL_98 mX8_reading rfl rfl rfl (c_X8_reading (hc := av_in xs i 1) (hx := av_in xs i 2)) (by decide) rfl rfl (Nat.le_of_ble_eq_true rfl) (fun z1 σ1 h1 hB1 => ?_)
  refine L_ald 801 hC dL_law_800 rfl rfl (List.mem_of_getElem? (i := 2) rfl) ?_
  refine L_arg (k := 1) 806 hC h0 h6 (by decide) dL_law_801 dL_law_802 dL_law_803 dL_law_804 dL_law_805 rfl ?_
  refine L_arg (k := 2) 811 hC h0 h6 (by decide) dL_law_806 dL_law_807 dL_law_808 dL_law_809 dL_law_810 rfl ?_
  refine L_calli 814 hC dL_law_811 rfl kL_101 mX9_reading rfl rfl rfl (c_X9_reading (hc := av_in xs i 1) (hx := av_in xs i 2)) (by decide) rfl rfl (Nat.le_of_ble_eq_true rfl) (fun z2 σ2 h2 hB2 => ?_)
  obtain ⟨hz, hr⟩ := o_reading hR hB h1 h2
  exact L_eqi hC hz dL_law_814 rfl (hk σ2 hr)
theorem L_back (hC : lC P p s m meth c b L xs) (h0 : 0 ≤ i) (h6 : i + 6 ≤ (L : Int)) (hR : Rel σ) (hk : ∀ σ2, Rel σ2 → JL P p l e s m below meth c b i 1279 [] σ2) : JL P p l e s m below meth c b i 819 [] σ := by
  refine L_bd (fun hB => ?_)
  refine L_ald 820 hC dL_law_819 rfl rfl (List.mem_of_getElem? (i := 1) rfl) ?_
  refine L_arg (k := 1) 825 hC h0 h6 (by decide) dL_law_820 dL_law_821 dL_law_822 dL_law_823 dL_law_824 rfl ?_
  refine L_calli 828 hC dL_law_825 rfl kL_102 mX8_back rfl rfl rfl (c_X8_back (hx := av_in xs i 1)) (by decide) rfl rfl (Nat.le_of_ble_eq_true rfl) (fun z1 σ1 h1 hB1 => ?_)
  refine L_ald 829 hC dL_law_828 rfl rfl (List.mem_of_getElem? (i := 2) rfl) ?_
  refine L_arg (k := 1) 834 hC h0 h6 (by decide) dL_law_829 dL_law_830 dL_law_831 dL_law_832 dL_law_833 rfl ?_
  refine L_calli 837 hC dL_law_834 rfl kL_105 mX9_back rfl rfl rfl (c_X9_back (hx := av_in xs i 1)) (by decide) rfl rfl (Nat.le_of_ble_eq_true rfl) (fun z2 σ2 h2 hB2 => ?_)
  obtain ⟨hz, hr⟩ := o_back hR h1 h2
  exact L_eqi hC hz dL_law_837 rfl (hk σ2 hr)
theorem L_kinds (hC : lC P p s m meth c b L xs) (h0 : 0 ≤ i) (h6 : i + 6 ≤ (L : Int)) (hR : Rel σ) (hk : ∀ σ2, Rel σ2 → JL P p l e s m below meth c b i 1279 [] σ2) : JL P p l e s m below meth c b i 842 [] σ := by
  refine L_bd (fun hB => ?_)
  refine L_ald 843 hC dL_law_842 rfl rfl (List.mem_of_getElem? (i := 1) rfl) ?_
  refine L_arg (k := 1) 848 hC h0 h6 (by decide) dL_law_843 dL_law_844 dL_law_845 dL_law_846 dL_law_847 rfl ?_
  refine L_calli 851 hC dL_law_848 rfl kL_106 mX8_kinds rfl rfl rfl (c_X8_kinds (hc := av_in xs i 1)) (by decide) rfl rfl (Nat.le_of_ble_eq_true rfl) (fun z1 σ1 h1 hB1 => ?_)
  refine L_ald 852 hC dL_law_851 rfl rfl (List.mem_of_getElem? (i := 2) rfl) ?_
  refine L_arg (k := 1) 857 hC h0 h6 (by decide) dL_law_852 dL_law_853 dL_law_854 dL_law_855 dL_law_856 rfl ?_
  refine L_calli 860 hC dL_law_857 rfl kL_109 mX9_kinds rfl rfl rfl (c_X9_kinds (hok := okG_hi (Rel_okG hR.1) (fun q hq => h1.2 q (by omega))) (hrd := okRd_hi (Rel_okRd hR) (fun q hq => h1.2 q (by omega))) (hc := av_in xs i 1)) (by decide) rfl rfl (Nat.le_of_ble_eq_true rfl) (fun z2 σ2 h2 hB2 => ?_)
  obtain ⟨hz, hr⟩ := o_kinds hR hB1 h1 h2
  exact L_eqi hC hz dL_law_860 rfl (hk σ2 hr)
theorem L_shows (hC : lC P p s m meth c b L xs) (h0 : 0 ≤ i) (h6 : i + 6 ≤ (L : Int)) (hR : Rel σ) (hk : ∀ σ2, Rel σ2 → JL P p l e s m below meth c b i 1279 [] σ2) : JL P p l e s m below meth c b i 865 [] σ := by
  refine L_bd (fun hB => ?_)
  refine L_ald 866 hC dL_law_865 rfl rfl (List.mem_of_getElem? (i := 1) rfl) ?_
  refine L_arg (k := 1) 871 hC h0 h6 (by decide) dL_law_866 dL_law_867 dL_law_868 dL_law_869 dL_law_870 rfl ?_
  refine L_calli 874 hC dL_law_871 rfl kL_110 mX8_shows rfl rfl rfl (c_X8_shows (hc := av_in xs i 1)) (by decide) rfl rfl (Nat.le_of_ble_eq_true rfl) (fun z1 σ1 h1 hB1 => ?_)
  refine L_ald 875 hC dL_law_874 rfl rfl (List.mem_of_getElem? (i := 2) rfl) ?_
  refine L_arg (k := 1) 880 hC h0 h6 (by decide) dL_law_875 dL_law_876 dL_law_877 dL_law_878 dL_law_879 rfl ?_
  refine L_calli 883 hC dL_law_880 rfl kL_113 mX9_shows rfl rfl rfl (c_X9_shows (hok := okG_hi (Rel_okG hR.1) (fun q hq => h1.2 q (by omega))) (hrd := okRd_hi (Rel_okRd hR) (fun q hq => h1.2 q (by omega))) (hc := av_in xs i 1)) (by decide) rfl rfl (Nat.le_of_ble_eq_true rfl) (fun z2 σ2 h2 hB2 => ?_)
  obtain ⟨hz, hr⟩ := o_shows hR hB1 h1 h2
  exact L_eqi hC hz dL_law_883 rfl (hk σ2 hr)
theorem L_chalks (hC : lC P p s m meth c b L xs) (h0 : 0 ≤ i) (h6 : i + 6 ≤ (L : Int)) (hR : Rel σ) (hk : ∀ σ2, Rel σ2 → JL P p l e s m below meth c b i 1279 [] σ2) : JL P p l e s m below meth c b i 888 [] σ := by
  refine L_bd (fun hB => ?_)
  refine L_ald 889 hC dL_law_888 rfl rfl (List.mem_of_getElem? (i := 1) rfl) ?_
  refine L_calli 892 hC dL_law_889 rfl kL_114 mX8_chalks rfl rfl rfl (c_X8_chalks ) (by decide) rfl rfl (Nat.le_of_ble_eq_true rfl) (fun z1 σ1 h1 hB1 => ?_)
  refine L_ald 893 hC dL_law_892 rfl rfl (List.mem_of_getElem? (i := 2) rfl) ?_
  refine L_calli 896 hC dL_law_893 rfl kL_117 mX9_chalks rfl rfl rfl (c_X9_chalks (hok := okG_hi (Rel_okG hR.1) (fun q hq => h1.2 q (by omega))) (hrd := okRd_hi (Rel_okRd hR) (fun q hq => h1.2 q (by omega)))) (by decide) rfl rfl (Nat.le_of_ble_eq_true rfl) (fun z2 σ2 h2 hB2 => ?_)
  obtain ⟨hz, hr⟩ := o_chalks hR hB1 h1 h2
  exact L_eqi hC hz dL_law_896 rfl (hk σ2 hr)
theorem L_odds (hC : lC P p s m meth c b L xs) (h0 : 0 ≤ i) (h6 : i + 6 ≤ (L : Int)) (hR : Rel σ) (hk : ∀ σ2, Rel σ2 → JL P p l e s m below meth c b i 1279 [] σ2) : JL P p l e s m below meth c b i 901 [] σ := by
  refine L_bd (fun hB => ?_)
  refine L_ald 902 hC dL_law_901 rfl rfl (List.mem_of_getElem? (i := 1) rfl) ?_
  refine L_arg (k := 1) 907 hC h0 h6 (by decide) dL_law_902 dL_law_903 dL_law_904 dL_law_905 dL_law_906 rfl ?_
  refine L_arg (k := 2) 912 hC h0 h6 (by decide) dL_law_907 dL_law_908 dL_law_909 dL_law_910 dL_law_911 rfl ?_
  refine L_calll 915 hC dL_law_912 rfl kL_118 mX8_odds rfl rfl rfl (c_X8_odds (hc := av_in xs i 1) (hx := av_in xs i 2)) (by decide) rfl rfl (Nat.le_of_ble_eq_true rfl) (fun z1 σ1 h1 hB1 => ?_)
  refine L_ald 916 hC dL_law_915 rfl rfl (List.mem_of_getElem? (i := 2) rfl) ?_
  refine L_arg (k := 1) 921 hC h0 h6 (by decide) dL_law_916 dL_law_917 dL_law_918 dL_law_919 dL_law_920 rfl ?_
  refine L_arg (k := 2) 926 hC h0 h6 (by decide) dL_law_921 dL_law_922 dL_law_923 dL_law_924 dL_law_925 rfl ?_
  refine L_calll 929 hC dL_law_926 rfl kL_122 mX9_odds rfl rfl rfl (c_X9_odds (hok := okG_hi (Rel_okG hR.1) (fun q hq => h1.2 q (by omega))) (hc := av_in xs i 1) (hx := av_in xs i 2)) (by decide) rfl rfl (Nat.le_of_ble_eq_true rfl) (fun z2 σ2 h2 hB2 => ?_)
  obtain ⟨hz, hr⟩ := o_odds hR h1 h2
  exact L_eql hC hz dL_law_929 dL_law_930 rfl (hk σ2 hr)
theorem L_sheet (hC : lC P p s m meth c b L xs) (h0 : 0 ≤ i) (h6 : i + 6 ≤ (L : Int)) (hR : Rel σ) (hk : ∀ σ2, Rel σ2 → JL P p l e s m below meth c b i 1279 [] σ2) : JL P p l e s m below meth c b i 935 [] σ := by
  refine L_bd (fun hB => ?_)
  refine L_ald 936 hC dL_law_935 rfl rfl (List.mem_of_getElem? (i := 1) rfl) ?_
  refine L_arg (k := 1) 941 hC h0 h6 (by decide) dL_law_936 dL_law_937 dL_law_938 dL_law_939 dL_law_940 rfl ?_
  refine L_arg (k := 2) 946 hC h0 h6 (by decide) dL_law_941 dL_law_942 dL_law_943 dL_law_944 dL_law_945 rfl ?_
  refine L_arg (k := 3) 951 hC h0 h6 (by decide) dL_law_946 dL_law_947 dL_law_948 dL_law_949 dL_law_950 rfl ?_
  refine L_calli 954 hC dL_law_951 rfl kL_123 mX8_sheet rfl rfl rfl (c_X8_sheet (hw := rfl) (hx := av_in xs i 1) (hl := av_in xs i 2) (hn := av_in xs i 3)) (by decide) rfl rfl (Nat.le_of_ble_eq_true rfl) (fun z1 σ1 h1 hB1 => ?_)
  refine L_ald 955 hC dL_law_954 rfl rfl (List.mem_of_getElem? (i := 2) rfl) ?_
  refine L_arg (k := 1) 960 hC h0 h6 (by decide) dL_law_955 dL_law_956 dL_law_957 dL_law_958 dL_law_959 rfl ?_
  refine L_arg (k := 2) 965 hC h0 h6 (by decide) dL_law_960 dL_law_961 dL_law_962 dL_law_963 dL_law_964 rfl ?_
  refine L_arg (k := 3) 970 hC h0 h6 (by decide) dL_law_965 dL_law_966 dL_law_967 dL_law_968 dL_law_969 rfl ?_
  refine L_calli 973 hC dL_law_970 rfl kL_127 mX9_sheet rfl rfl rfl (c_X9_sheet (hx := av_in xs i 1) (hl := av_in xs i 2) (hn := av_in xs i 3)) (by decide) rfl rfl (Nat.le_of_ble_eq_true rfl) (fun z2 σ2 h2 hB2 => ?_)
  obtain ⟨hz, hr⟩ := o_sheet hR hB rfl h1 h2
  exact L_eqi hC hz dL_law_973 rfl (hk σ2 hr)
theorem L_lose (hC : lC P p s m meth c b L xs) (h0 : 0 ≤ i) (h6 : i + 6 ≤ (L : Int)) (hR : Rel σ) (hk : ∀ σ2, Rel σ2 → JL P p l e s m below meth c b i 1279 [] σ2) : JL P p l e s m below meth c b i 978 [] σ := by
  refine L_bd (fun hB => ?_)
  refine L_ald 979 hC dL_law_978 rfl rfl (List.mem_of_getElem? (i := 1) rfl) ?_
  refine L_arg (k := 1) 984 hC h0 h6 (by decide) dL_law_979 dL_law_980 dL_law_981 dL_law_982 dL_law_983 rfl ?_
  refine L_calli 987 hC dL_law_984 rfl kL_128 mX8_lose rfl rfl rfl (c_X8_lose (hw := rfl) (hx := av_in xs i 1)) (by decide) rfl rfl (Nat.le_of_ble_eq_true rfl) (fun z1 σ1 h1 hB1 => ?_)
  refine L_ald 988 hC dL_law_987 rfl rfl (List.mem_of_getElem? (i := 2) rfl) ?_
  refine L_arg (k := 1) 993 hC h0 h6 (by decide) dL_law_988 dL_law_989 dL_law_990 dL_law_991 dL_law_992 rfl ?_
  refine L_calli 996 hC dL_law_993 rfl kL_131 mX9_lose rfl rfl rfl (c_X9_lose (hx := av_in xs i 1)) (by decide) rfl rfl (Nat.le_of_ble_eq_true rfl) (fun z2 σ2 h2 hB2 => ?_)
  obtain ⟨hz, hr⟩ := o_lose hR hB rfl h1 h2
  exact L_eqi hC hz dL_law_996 rfl (hk σ2 hr)
theorem L_put (hC : lC P p s m meth c b L xs) (h0 : 0 ≤ i) (h6 : i + 6 ≤ (L : Int)) (hR : Rel σ) (hk : ∀ σ2, Rel σ2 → JL P p l e s m below meth c b i 1279 [] σ2) : JL P p l e s m below meth c b i 1001 [] σ := by
  refine L_bd (fun hB => ?_)
  refine L_ald 1002 hC dL_law_1001 rfl rfl (List.mem_of_getElem? (i := 1) rfl) ?_
  refine L_arg (k := 1) 1007 hC h0 h6 (by decide) dL_law_1002 dL_law_1003 dL_law_1004 dL_law_1005 dL_law_1006 rfl ?_
  refine L_arg (k := 2) 1012 hC h0 h6 (by decide) dL_law_1007 dL_law_1008 dL_law_1009 dL_law_1010 dL_law_1011 rfl ?_
  refine L_arg (k := 3) 1017 hC h0 h6 (by decide) dL_law_1012 dL_law_1013 dL_law_1014 dL_law_1015 dL_law_1016 rfl ?_
  refine L_calli 1020 hC dL_law_1017 rfl kL_132 mX8_put rfl rfl rfl (c_X8_put (hw := rfl) (hx := av_in xs i 1) (hi := av_in xs i 2) (hy := av_in xs i 3)) (by decide) rfl rfl (Nat.le_of_ble_eq_true rfl) (fun z1 σ1 h1 hB1 => ?_)
  refine L_ald 1021 hC dL_law_1020 rfl rfl (List.mem_of_getElem? (i := 2) rfl) ?_
  refine L_arg (k := 1) 1026 hC h0 h6 (by decide) dL_law_1021 dL_law_1022 dL_law_1023 dL_law_1024 dL_law_1025 rfl ?_
  refine L_arg (k := 2) 1031 hC h0 h6 (by decide) dL_law_1026 dL_law_1027 dL_law_1028 dL_law_1029 dL_law_1030 rfl ?_
  refine L_arg (k := 3) 1036 hC h0 h6 (by decide) dL_law_1031 dL_law_1032 dL_law_1033 dL_law_1034 dL_law_1035 rfl ?_
  refine L_calli 1039 hC dL_law_1036 rfl kL_135 mX9_put rfl rfl rfl (c_X9_put (hx := av_in xs i 1) (hi := av_in xs i 2) (hy := av_in xs i 3)) (by decide) rfl rfl (Nat.le_of_ble_eq_true rfl) (fun z2 σ2 h2 hB2 => ?_)
  obtain ⟨hz, hr⟩ := o_put hR hB rfl h1 h2
  exact L_eqi hC hz dL_law_1039 rfl (hk σ2 hr)
theorem L_cell (hC : lC P p s m meth c b L xs) (h0 : 0 ≤ i) (h6 : i + 6 ≤ (L : Int)) (hR : Rel σ) (hk : ∀ σ2, Rel σ2 → JL P p l e s m below meth c b i 1279 [] σ2) : JL P p l e s m below meth c b i 1044 [] σ := by
  refine L_bd (fun hB => ?_)
  refine L_ald 1045 hC dL_law_1044 rfl rfl (List.mem_of_getElem? (i := 1) rfl) ?_
  refine L_arg (k := 1) 1050 hC h0 h6 (by decide) dL_law_1045 dL_law_1046 dL_law_1047 dL_law_1048 dL_law_1049 rfl ?_
  refine L_arg (k := 2) 1055 hC h0 h6 (by decide) dL_law_1050 dL_law_1051 dL_law_1052 dL_law_1053 dL_law_1054 rfl ?_
  refine L_arg (k := 3) 1060 hC h0 h6 (by decide) dL_law_1055 dL_law_1056 dL_law_1057 dL_law_1058 dL_law_1059 rfl ?_
  refine L_calll 1063 hC dL_law_1060 rfl kL_136 mX8_cell rfl rfl rfl (c_X8_cell (hw := rfl) (hx := av_in xs i 1) (hi := av_in xs i 2) (hl := av_in xs i 3)) (by decide) rfl rfl (Nat.le_of_ble_eq_true rfl) (fun z1 σ1 h1 hB1 => ?_)
  refine L_ald 1064 hC dL_law_1063 rfl rfl (List.mem_of_getElem? (i := 2) rfl) ?_
  refine L_arg (k := 1) 1069 hC h0 h6 (by decide) dL_law_1064 dL_law_1065 dL_law_1066 dL_law_1067 dL_law_1068 rfl ?_
  refine L_arg (k := 2) 1074 hC h0 h6 (by decide) dL_law_1069 dL_law_1070 dL_law_1071 dL_law_1072 dL_law_1073 rfl ?_
  refine L_arg (k := 3) 1079 hC h0 h6 (by decide) dL_law_1074 dL_law_1075 dL_law_1076 dL_law_1077 dL_law_1078 rfl ?_
  refine L_calll 1082 hC dL_law_1079 rfl kL_140 mX9_cell rfl rfl rfl (c_X9_cell (hx := av_in xs i 1) (hi := av_in xs i 2) (hl := av_in xs i 3)) (by decide) rfl rfl (Nat.le_of_ble_eq_true rfl) (fun z2 σ2 h2 hB2 => ?_)
  obtain ⟨hz, hr⟩ := o_cell hR rfl h1 h2
  exact L_eql hC hz dL_law_1082 dL_law_1083 rfl (hk σ2 hr)
theorem L_copy (hC : lC P p s m meth c b L xs) (h0 : 0 ≤ i) (h6 : i + 6 ≤ (L : Int)) (hR : Rel σ) (hk : ∀ σ2, Rel σ2 → JL P p l e s m below meth c b i 1279 [] σ2) : JL P p l e s m below meth c b i 1088 [] σ := by
  refine L_bd (fun hB => ?_)
  refine L_ald 1089 hC dL_law_1088 rfl rfl (List.mem_of_getElem? (i := 1) rfl) ?_
  refine L_arg (k := 1) 1094 hC h0 h6 (by decide) dL_law_1089 dL_law_1090 dL_law_1091 dL_law_1092 dL_law_1093 rfl ?_
  refine L_arg (k := 2) 1099 hC h0 h6 (by decide) dL_law_1094 dL_law_1095 dL_law_1096 dL_law_1097 dL_law_1098 rfl ?_
  refine L_arg (k := 3) 1104 hC h0 h6 (by decide) dL_law_1099 dL_law_1100 dL_law_1101 dL_law_1102 dL_law_1103 rfl ?_
  refine L_arg (k := 4) 1109 hC h0 h6 (by decide) dL_law_1104 dL_law_1105 dL_law_1106 dL_law_1107 dL_law_1108 rfl ?_
  refine L_arg (k := 5) 1114 hC h0 h6 (by decide) dL_law_1109 dL_law_1110 dL_law_1111 dL_law_1112 dL_law_1113 rfl ?_
  refine L_calli 1117 hC dL_law_1114 rfl kL_141 mX8_copy rfl rfl rfl (c_X8_copy (hw := rfl) (ho := rfl) (hx := av_in xs i 1) (hi := av_in xs i 2) (hy := av_in xs i 3) (hj := av_in xs i 4) (hn := av_in xs i 5)) (by decide) rfl rfl (Nat.le_of_ble_eq_true rfl) (fun z1 σ1 h1 hB1 => ?_)
  refine L_ald 1118 hC dL_law_1117 rfl rfl (List.mem_of_getElem? (i := 2) rfl) ?_
  refine L_arg (k := 1) 1123 hC h0 h6 (by decide) dL_law_1118 dL_law_1119 dL_law_1120 dL_law_1121 dL_law_1122 rfl ?_
  refine L_arg (k := 2) 1128 hC h0 h6 (by decide) dL_law_1123 dL_law_1124 dL_law_1125 dL_law_1126 dL_law_1127 rfl ?_
  refine L_arg (k := 3) 1133 hC h0 h6 (by decide) dL_law_1128 dL_law_1129 dL_law_1130 dL_law_1131 dL_law_1132 rfl ?_
  refine L_arg (k := 4) 1138 hC h0 h6 (by decide) dL_law_1133 dL_law_1134 dL_law_1135 dL_law_1136 dL_law_1137 rfl ?_
  refine L_arg (k := 5) 1143 hC h0 h6 (by decide) dL_law_1138 dL_law_1139 dL_law_1140 dL_law_1141 dL_law_1142 rfl ?_
  refine L_calli 1146 hC dL_law_1143 rfl kL_144 mX9_copy rfl rfl rfl (c_X9_copy (hx := av_in xs i 1) (hi := av_in xs i 2) (hy := av_in xs i 3) (hj := av_in xs i 4) (hn := av_in xs i 5)) (by decide) rfl rfl (Nat.le_of_ble_eq_true rfl) (fun z2 σ2 h2 hB2 => ?_)
  obtain ⟨hz, hr⟩ := o_copy hR hB rfl rfl h1 h2
  exact L_eqi hC hz dL_law_1146 rfl (hk σ2 hr)
theorem L_tell (hC : lC P p s m meth c b L xs) (h0 : 0 ≤ i) (h6 : i + 6 ≤ (L : Int)) (hR : Rel σ) (hk : ∀ σ2, Rel σ2 → JL P p l e s m below meth c b i 1279 [] σ2) : JL P p l e s m below meth c b i 1151 [] σ := by
  refine L_bd (fun hB => ?_)
  refine L_ald 1152 hC dL_law_1151 rfl rfl (List.mem_of_getElem? (i := 1) rfl) ?_
  refine L_arg (k := 1) 1157 hC h0 h6 (by decide) dL_law_1152 dL_law_1153 dL_law_1154 dL_law_1155 dL_law_1156 rfl ?_
  refine L_calli 1160 hC dL_law_1157 rfl kL_145 mX8_tell rfl rfl rfl (c_X8_tell (hc := av_in xs i 1)) (by decide) rfl rfl (Nat.le_of_ble_eq_true rfl) (fun z1 σ1 h1 hB1 => ?_)
  refine L_ald 1161 hC dL_law_1160 rfl rfl (List.mem_of_getElem? (i := 2) rfl) ?_
  refine L_arg (k := 1) 1166 hC h0 h6 (by decide) dL_law_1161 dL_law_1162 dL_law_1163 dL_law_1164 dL_law_1165 rfl ?_
  refine L_calli 1169 hC dL_law_1166 rfl kL_148 mX9_tell rfl rfl rfl (c_X9_tell (hc := av_in xs i 1)) (by decide) rfl rfl (Nat.le_of_ble_eq_true rfl) (fun z2 σ2 h2 hB2 => ?_)
  obtain ⟨hz, hr⟩ := o_tell hR h1 h2
  exact L_eqi hC hz dL_law_1169 rfl (hk σ2 hr)
theorem L_greet (hC : lC P p s m meth c b L xs) (h0 : 0 ≤ i) (h6 : i + 6 ≤ (L : Int)) (hR : Rel σ) (hk : ∀ σ2, Rel σ2 → JL P p l e s m below meth c b i 1279 [] σ2) : JL P p l e s m below meth c b i 1174 [] σ := by
  refine L_bd (fun hB => ?_)
  refine L_ald 1175 hC dL_law_1174 rfl rfl (List.mem_of_getElem? (i := 1) rfl) ?_
  refine L_arg (k := 1) 1180 hC h0 h6 (by decide) dL_law_1175 dL_law_1176 dL_law_1177 dL_law_1178 dL_law_1179 rfl ?_
  refine L_calli 1183 hC dL_law_1180 rfl kL_149 mX8_greet rfl rfl rfl (c_X8_greet (hc := av_in xs i 1)) (by decide) rfl rfl (Nat.le_of_ble_eq_true rfl) (fun z1 σ1 h1 hB1 => ?_)
  refine L_ald 1184 hC dL_law_1183 rfl rfl (List.mem_of_getElem? (i := 2) rfl) ?_
  refine L_arg (k := 1) 1189 hC h0 h6 (by decide) dL_law_1184 dL_law_1185 dL_law_1186 dL_law_1187 dL_law_1188 rfl ?_
  refine L_calli 1192 hC dL_law_1189 rfl kL_152 mX9_greet rfl rfl rfl (c_X9_greet (hc := av_in xs i 1)) (by decide) rfl rfl (Nat.le_of_ble_eq_true rfl) (fun z2 σ2 h2 hB2 => ?_)
  obtain ⟨hz, hr⟩ := o_greet hR h1 h2
  exact L_eqi hC hz dL_law_1192 rfl (hk σ2 hr)
theorem L_as (hC : lC P p s m meth c b L xs) (h0 : 0 ≤ i) (h6 : i + 6 ≤ (L : Int)) (hR : Rel σ) (hk : ∀ σ2, Rel σ2 → JL P p l e s m below meth c b i 1279 [] σ2) : JL P p l e s m below meth c b i 1197 [] σ := by
  refine L_bd (fun hB => ?_)
  refine L_ald 1198 hC dL_law_1197 rfl rfl (List.mem_of_getElem? (i := 1) rfl) ?_
  refine L_arg (k := 1) 1203 hC h0 h6 (by decide) dL_law_1198 dL_law_1199 dL_law_1200 dL_law_1201 dL_law_1202 rfl ?_
  refine L_arg (k := 2) 1208 hC h0 h6 (by decide) dL_law_1203 dL_law_1204 dL_law_1205 dL_law_1206 dL_law_1207 rfl ?_
  refine L_calli 1211 hC dL_law_1208 rfl kL_153 mX8_as rfl rfl rfl (c_X8_as (hc := av_in xs i 1) (hx := av_in xs i 2)) (by decide) rfl rfl (Nat.le_of_ble_eq_true rfl) (fun z1 σ1 h1 hB1 => ?_)
  refine L_ald 1212 hC dL_law_1211 rfl rfl (List.mem_of_getElem? (i := 2) rfl) ?_
  refine L_arg (k := 1) 1217 hC h0 h6 (by decide) dL_law_1212 dL_law_1213 dL_law_1214 dL_law_1215 dL_law_1216 rfl ?_
  refine L_arg (k := 2) 1222 hC h0 h6 (by decide) dL_law_1217 dL_law_1218 dL_law_1219 dL_law_1220 dL_law_1221 rfl ?_
  refine L_calli 1225 hC dL_law_1222 rfl kL_156 mX9_as rfl rfl rfl (c_X9_as (hc := av_in xs i 1) (hx := av_in xs i 2)) (by decide) rfl rfl (Nat.le_of_ble_eq_true rfl) (fun z2 σ2 h2 hB2 => ?_)
  obtain ⟨hz, hr⟩ := o_as hR h1 h2
  exact L_eqi hC hz dL_law_1225 rfl (hk σ2 hr)
theorem L_trace (hC : lC P p s m meth c b L xs) (h0 : 0 ≤ i) (h6 : i + 6 ≤ (L : Int)) (hR : Rel σ) (hk : ∀ σ2, Rel σ2 → JL P p l e s m below meth c b i 1279 [] σ2) : JL P p l e s m below meth c b i 1230 [] σ := by
  refine L_bd (fun hB => ?_)
  refine L_ald 1231 hC dL_law_1230 rfl rfl (List.mem_of_getElem? (i := 1) rfl) ?_
  refine L_calli 1234 hC dL_law_1231 rfl kL_157 mX8_trace rfl rfl rfl (c_X8_trace ) (by decide) rfl rfl (Nat.le_of_ble_eq_true rfl) (fun z1 σ1 h1 hB1 => ?_)
  refine L_ald 1235 hC dL_law_1234 rfl rfl (List.mem_of_getElem? (i := 2) rfl) ?_
  refine L_calli 1238 hC dL_law_1235 rfl kL_160 mX9_trace rfl rfl rfl (c_X9_trace ) (by decide) rfl rfl (Nat.le_of_ble_eq_true rfl) (fun z2 σ2 h2 hB2 => ?_)
  obtain ⟨hz, hr⟩ := o_trace hR h1 h2
  exact L_eqi hC hz dL_law_1238 rfl (hk σ2 hr)
theorem L_fault (hC : lC P p s m meth c b L xs) (h0 : 0 ≤ i) (h6 : i + 6 ≤ (L : Int)) (hR : Rel σ) (hk : ∀ σ2, Rel σ2 → JL P p l e s m below meth c b i 1279 [] σ2) : JL P p l e s m below meth c b i 1243 [] σ := by
  refine L_bd (fun hB => ?_)
  refine L_ald 1244 hC dL_law_1243 rfl rfl (List.mem_of_getElem? (i := 1) rfl) ?_
  refine L_calli 1247 hC dL_law_1244 rfl kL_161 mX8_fault rfl rfl rfl (c_X8_fault ) (by decide) rfl rfl (Nat.le_of_ble_eq_true rfl) (fun z1 σ1 h1 hB1 => ?_)
  refine L_ald 1248 hC dL_law_1247 rfl rfl (List.mem_of_getElem? (i := 2) rfl) ?_
  refine L_calli 1251 hC dL_law_1248 rfl kL_164 mX9_fault rfl rfl rfl (c_X9_fault ) (by decide) rfl rfl (Nat.le_of_ble_eq_true rfl) (fun z2 σ2 h2 hB2 => ?_)
  obtain ⟨hz, hr⟩ := o_fault hR h1 h2
  exact L_eqi hC hz dL_law_1251 rfl (hk σ2 hr)
theorem L_many (hC : lC P p s m meth c b L xs) (h0 : 0 ≤ i) (h6 : i + 6 ≤ (L : Int)) (hR : Rel σ) (hk : ∀ σ2, Rel σ2 → JL P p l e s m below meth c b i 1279 [] σ2) : JL P p l e s m below meth c b i 1256 [] σ := by
  refine L_bd (fun hB => ?_)
  refine L_ald 1257 hC dL_law_1256 rfl rfl (List.mem_of_getElem? (i := 1) rfl) ?_
  refine L_arg (k := 1) 1262 hC h0 h6 (by decide) dL_law_1257 dL_law_1258 dL_law_1259 dL_law_1260 dL_law_1261 rfl ?_
  refine L_calli 1265 hC dL_law_1262 rfl kL_165 mX8_many rfl rfl rfl (c_X8_many (hx := av_in xs i 1)) (by decide) rfl rfl (Nat.le_of_ble_eq_true rfl) (fun z1 σ1 h1 hB1 => ?_)
  refine L_ald 1266 hC dL_law_1265 rfl rfl (List.mem_of_getElem? (i := 2) rfl) ?_
  refine L_arg (k := 1) 1271 hC h0 h6 (by decide) dL_law_1266 dL_law_1267 dL_law_1268 dL_law_1269 dL_law_1270 rfl ?_
  refine L_calli 1274 hC dL_law_1271 rfl kL_168 mX9_many rfl rfl rfl (c_X9_many (hok := okG_hi (Rel_okG hR.1) (fun q _ => by rw [h1.2])) (hx := av_in xs i 1)) (by decide) rfl rfl (Nat.le_of_ble_eq_true rfl) (fun z2 σ2 h2 hB2 => ?_)
  obtain ⟨hz, hr⟩ := o_many hR h1 h2
  exact L_eqi hC hz dL_law_1274 rfl (hk σ2 hr)
theorem L_all (hC : lC P p s m meth c b L xs) (h0 : 0 ≤ i) (h6 : i + 6 ≤ (L : Int)) (hR : Rel σ) (hk : ∀ σ2, Rel σ2 → JL P p l e s m below meth c b i 1279 [] σ2) : ∀ n, n < 37 → JL P p l e s m below meth c b i (lwT n) [] σ
  | 0, _ => L_winter hC h0 h6 hR hk
  | 1, _ => L_ofComer hC h0 h6 hR hk
  | 2, _ => L_ofGate hC h0 h6 hR hk
  | 3, _ => L_show hC h0 h6 hR hk
  | 4, _ => L_lead hC h0 h6 hR hk
  | 5, _ => L_bake hC h0 h6 hR hk
  | 6, _ => L_manner hC h0 h6 hR hk
  | 7, _ => L_chalk hC h0 h6 hR hk
  | 8, _ => L_day hC h0 h6 hR hk
  | 9, _ => L_know hC h0 h6 hR hk
  | 10, _ => L_far hC h0 h6 hR hk
  | 11, _ => L_lantern hC h0 h6 hR hk
  | 12, _ => L_best hC h0 h6 hR hk
  | 13, _ => L_without hC h0 h6 hR hk
  | 14, _ => L_gain hC h0 h6 hR hk
  | 15, _ => L_needs hC h0 h6 hR hk
  | 16, _ => L_parted hC h0 h6 hR hk
  | 17, _ => L_given hC h0 h6 hR hk
  | 18, _ => L_settles hC h0 h6 hR hk
  | 19, _ => L_more hC h0 h6 hR hk
  | 20, _ => L_reading hC h0 h6 hR hk
  | 21, _ => L_back hC h0 h6 hR hk
  | 22, _ => L_kinds hC h0 h6 hR hk
  | 23, _ => L_shows hC h0 h6 hR hk
  | 24, _ => L_chalks hC h0 h6 hR hk
  | 25, _ => L_odds hC h0 h6 hR hk
  | 26, _ => L_sheet hC h0 h6 hR hk
  | 27, _ => L_lose hC h0 h6 hR hk
  | 28, _ => L_put hC h0 h6 hR hk
  | 29, _ => L_cell hC h0 h6 hR hk
  | 30, _ => L_copy hC h0 h6 hR hk
  | 31, _ => L_tell hC h0 h6 hR hk
  | 32, _ => L_greet hC h0 h6 hR hk
  | 33, _ => L_as hC h0 h6 hR hk
  | 34, _ => L_trace hC h0 h6 hR hk
  | 35, _ => L_fault hC h0 h6 hR hk
  | 36, _ => L_many hC h0 h6 hR hk
  | n + 37, h => absurd h (by omega)
theorem law_loop (hC : lC P p s m meth c b L xs) : ∀ (n : Nat) (i : Int) (σ : jS), 0 ≤ i → i ≤ 3072 → (L : Int) < i + n + 6 → Rel σ → JL P p l e s m below meth c b i 18 [] σ := by
  intro n
  induction n with
  | zero =>
    intro i σ h0 h1 hn hR
    exact L_head hC h0 h1 (fun h => by omega)
  | succ n ih =>
    intro i σ h0 h1 hn hR
    refine L_head hC h0 h1 (fun h => ?_)
    have hL := hC.2.2.2.2
    have hk : ∀ σ2, Rel σ2 → JL P p l e s m below meth c b i 1279 [] σ2 := fun σ2 hr => L_next hC (ih (i + 6) σ2 (by omega) (by omega) (by omega) hr)
    exact L_switch hC h0 h (hk σ hR) (L_all hC h0 h hR hk)
end LCS

/-! THE LAW: rows 1 (written by gen/glaw.py) -/
theorem kc_L_law : ab_code 288 = cL_law := rfl
theorem ko_L_law : ab_ow 288 = 14 := rfl
section
variable {X : ab_X} {k pc : Nat} {f cl sl : Nat} {L st : List ab_V} {σ : ab_S} {Q : Option ab_V → ab_S → Prop} {cc : ByteArray} {x i out b : Int}
def ab_ledc (σ : ab_S) (x out : Int) : Prop := (ab_sh σ x).1 = 12 ∧ (ab_sh σ (ab_rd σ x 7)).1 = 5 ∧ (ab_sh σ (ab_rd σ x 1)).1 = 9 ∧ (ab_sh σ (ab_rd σ (ab_rd σ x 1) 2)).1 = 24 ∧ 0 ≤ ab_rd σ (ab_rd σ x 7) 5 ∧ ab_rd σ (ab_rd σ x 7) 5 ≤ (ab_sh σ (ab_rd σ (ab_rd σ x 1) 2)).2 ∧ (ab_sh σ out).1 = 22 ∧ 0 < (ab_sh σ out).2
theorem ab_r_led {j o n' : Nat} (hi : j < 1000) (ho : ab_ow k = o) (hm : ab_lk ab_pM (1000 * o + j) = some (1003, n')) (hc : ab_code k = cc) (hd : decode cc pc = .ok (.invokestatic j, 3)) (hl : ab_ledc σ x out) (hb : 30 ≤ f ∧ 1 ≤ cl ∧ 6 ≤ sl) (hst : ab_cats st ≤ 8) : ab_Run X k pc (f, cl, sl) L (ab_R out :: ab_I i :: ab_R x :: st) σ Q ↔ (match ab_ledf σ x i with
    | some b => ab_Run X k (pc + 3) (f, cl - 1, sl - 6) L (ab_I 0 :: st) (ab_wr σ out 0 b) Q
    | none => ab_Run X k (pc + 3) (f, cl - 1, sl - 6) L (ab_I 1 :: st) (ab_new σ 50 0) Q) := by
  obtain ⟨l1, l2, l3, l4, l5, l6, l7, l8⟩ := hl
  obtain ⟨b1, b2, b3⟩ := hb
  have hs : ab_step X k pc (f, cl, sl) L (ab_R out :: ab_I i :: ab_R x :: st) σ = (match ab_ledf σ x i with
    | some b => ab_nx (pc + 3) (f, cl - 1, sl - 6) L (ab_I 0 :: st) (ab_wr σ out 0 b)
    | none => ab_nx (pc + 3) (f, cl - 1, sl - 6) L (ab_I 1 :: st) (ab_new σ 50 0)) := by
    rw [ab_stp hc hd ⟨Or.inr rfl, decide_eq_true hi⟩]
    have hex : ab_ex X k pc (f, cl, sl) L (ab_R out :: ab_I i :: ab_R x :: st) σ (.invokestatic j) 3 = ab_inv 1 k pc j (f, cl, sl) L (ab_R out :: ab_I i :: ab_R x :: st) σ := rfl
    rw [hex]
    unfold ab_inv
    rw [show ab_mth k j = some (1003, n') by unfold ab_mth; rw [ho]; exact hm]
    dsimp only
    rw [if_neg (by omega), if_neg (by omega), if_neg (by omega), if_neg (by omega), if_neg (by omega), if_neg (by omega), if_pos rfl]
    exact if_pos ⟨l1, l2, l3, l4, l5, l6, l7, l8, b1, b2, b3, hst⟩
  cases e : ab_ledf σ x i with
  | some b => rw [e] at hs; exact ab_Run_next hs
  | none => rw [e] at hs; exact ab_Run_next hs
end
theorem dL_law_0 : decode cL_law 0 = .ok (.new 8, 3) := by decide +kernel
theorem dL_law_3 : decode cL_law 3 = .ok (.dup, 1) := by decide +kernel
theorem dL_law_4 : decode cL_law 4 = .ok (.invokespecial 15, 3) := by decide +kernel
theorem dL_law_7 : decode cL_law 7 = .ok (.astore_n 1, 1) := by decide +kernel
theorem dL_law_8 : decode cL_law 8 = .ok (.new 16, 3) := by decide +kernel
theorem dL_law_11 : decode cL_law 11 = .ok (.dup, 1) := by decide +kernel
theorem dL_law_12 : decode cL_law 12 = .ok (.invokespecial 18, 3) := by decide +kernel
theorem dL_law_15 : decode cL_law 15 = .ok (.astore_n 2, 1) := by decide +kernel
theorem dL_law_16 : decode cL_law 16 = .ok (.iconst 1, 1) := by decide +kernel
theorem dL_law_17 : decode cL_law 17 = .ok (.newarray .long, 2) := by decide +kernel
theorem dL_law_19 : decode cL_law 19 = .ok (.astore_n 3, 1) := by decide +kernel
theorem dL_law_20 : decode cL_law 20 = .ok (.iconst 0, 1) := by decide +kernel
theorem dL_law_21 : decode cL_law 21 = .ok (.istore 4, 2) := by decide +kernel
theorem dL_law_23 : decode cL_law 23 = .ok (.iload 4, 2) := by decide +kernel
theorem dL_law_25 : decode cL_law 25 = .ok (.aload_n 0, 1) := by decide +kernel
theorem dL_law_26 : decode cL_law 26 = .ok (.arraylength, 1) := by decide +kernel
theorem dL_law_27 : decode cL_law 27 = .ok (.bipush 9, 2) := by decide +kernel
theorem dL_law_29 : decode cL_law 29 = .ok (.isub, 1) := by decide +kernel
theorem dL_law_30 : decode cL_law 30 = .ok (.if_icmp .gt 2350, 3) := by decide +kernel
theorem dL_law_33 : decode cL_law 33 = .ok (.aload_n 0, 1) := by decide +kernel
theorem dL_law_34 : decode cL_law 34 = .ok (.iload 4, 2) := by decide +kernel
theorem dL_law_36 : decode cL_law 36 = .ok (.iaload, 1) := by decide +kernel
theorem dL_law_37 : decode cL_law 37 = .ok (.bipush 63, 2) := by decide +kernel
theorem dL_law_39 : decode cL_law 39 = .ok (.iand, 1) := by decide +kernel
theorem dL_law_40 : decode cL_law 40 = .ok (.tableswitch 2334 0 43 #[192, 265, 290, 303, 316, 353, 402, 439, 500, 615, 702, 789, 904, 1036, 1097, 1146, 1195, 1273, 1363, 1412, 1502, 1551, 1576, 1613, 1667, 1709, 1722, 1747, 1801, 1838, 1863, 1888, 1913, 1962, 2027, 2052, 2077, 2164, 2189, 2202, 2215, 2240, 2296, 2321], 192) := by decide +kernel
theorem dL_law_232 : decode cL_law 232 = .ok (.aload_n 1, 1) := by decide +kernel
theorem dL_law_233 : decode cL_law 233 = .ok (.aload_n 0, 1) := by decide +kernel
theorem dL_law_234 : decode cL_law 234 = .ok (.iload 4, 2) := by decide +kernel
theorem dL_law_236 : decode cL_law 236 = .ok (.iconst 1, 1) := by decide +kernel
theorem dL_law_237 : decode cL_law 237 = .ok (.iadd, 1) := by decide +kernel
theorem dL_law_238 : decode cL_law 238 = .ok (.iaload, 1) := by decide +kernel
theorem dL_law_239 : decode cL_law 239 = .ok (.aload_n 0, 1) := by decide +kernel
theorem dL_law_240 : decode cL_law 240 = .ok (.iload 4, 2) := by decide +kernel
theorem dL_law_242 : decode cL_law 242 = .ok (.iconst 2, 1) := by decide +kernel
theorem dL_law_243 : decode cL_law 243 = .ok (.iadd, 1) := by decide +kernel
theorem dL_law_244 : decode cL_law 244 = .ok (.iaload, 1) := by decide +kernel
theorem dL_law_245 : decode cL_law 245 = .ok (.aload_n 0, 1) := by decide +kernel
theorem dL_law_246 : decode cL_law 246 = .ok (.iload 4, 2) := by decide +kernel
theorem dL_law_248 : decode cL_law 248 = .ok (.iconst 3, 1) := by decide +kernel
theorem dL_law_249 : decode cL_law 249 = .ok (.iadd, 1) := by decide +kernel
theorem dL_law_250 : decode cL_law 250 = .ok (.iaload, 1) := by decide +kernel
theorem dL_law_251 : decode cL_law 251 = .ok (.aload_n 0, 1) := by decide +kernel
theorem dL_law_252 : decode cL_law 252 = .ok (.iload 4, 2) := by decide +kernel
theorem dL_law_254 : decode cL_law 254 = .ok (.iconst 4, 1) := by decide +kernel
theorem dL_law_255 : decode cL_law 255 = .ok (.iadd, 1) := by decide +kernel
theorem dL_law_256 : decode cL_law 256 = .ok (.iaload, 1) := by decide +kernel
theorem dL_law_257 : decode cL_law 257 = .ok (.aload_n 0, 1) := by decide +kernel
theorem dL_law_258 : decode cL_law 258 = .ok (.iload 4, 2) := by decide +kernel
theorem dL_law_260 : decode cL_law 260 = .ok (.iconst 5, 1) := by decide +kernel
theorem dL_law_261 : decode cL_law 261 = .ok (.iadd, 1) := by decide +kernel
theorem dL_law_262 : decode cL_law 262 = .ok (.iaload, 1) := by decide +kernel
theorem dL_law_263 : decode cL_law 263 = .ok (.invokevirtual 19, 3) := by decide +kernel
theorem dL_law_266 : decode cL_law 266 = .ok (.aload_n 2, 1) := by decide +kernel
theorem dL_law_267 : decode cL_law 267 = .ok (.aload_n 0, 1) := by decide +kernel
theorem dL_law_268 : decode cL_law 268 = .ok (.iload 4, 2) := by decide +kernel
theorem dL_law_270 : decode cL_law 270 = .ok (.iconst 1, 1) := by decide +kernel
theorem dL_law_271 : decode cL_law 271 = .ok (.iadd, 1) := by decide +kernel
theorem dL_law_272 : decode cL_law 272 = .ok (.iaload, 1) := by decide +kernel
theorem dL_law_273 : decode cL_law 273 = .ok (.aload_n 0, 1) := by decide +kernel
theorem dL_law_274 : decode cL_law 274 = .ok (.iload 4, 2) := by decide +kernel
theorem dL_law_276 : decode cL_law 276 = .ok (.iconst 2, 1) := by decide +kernel
theorem dL_law_277 : decode cL_law 277 = .ok (.iadd, 1) := by decide +kernel
theorem dL_law_278 : decode cL_law 278 = .ok (.iaload, 1) := by decide +kernel
theorem dL_law_279 : decode cL_law 279 = .ok (.aload_n 0, 1) := by decide +kernel
theorem dL_law_280 : decode cL_law 280 = .ok (.iload 4, 2) := by decide +kernel
theorem dL_law_282 : decode cL_law 282 = .ok (.iconst 3, 1) := by decide +kernel
theorem dL_law_283 : decode cL_law 283 = .ok (.iadd, 1) := by decide +kernel
theorem dL_law_284 : decode cL_law 284 = .ok (.iaload, 1) := by decide +kernel
theorem dL_law_285 : decode cL_law 285 = .ok (.aload_n 0, 1) := by decide +kernel
theorem dL_law_286 : decode cL_law 286 = .ok (.iload 4, 2) := by decide +kernel
theorem dL_law_288 : decode cL_law 288 = .ok (.iconst 4, 1) := by decide +kernel
theorem dL_law_289 : decode cL_law 289 = .ok (.iadd, 1) := by decide +kernel
theorem dL_law_290 : decode cL_law 290 = .ok (.iaload, 1) := by decide +kernel
theorem dL_law_291 : decode cL_law 291 = .ok (.aload_n 0, 1) := by decide +kernel
theorem dL_law_292 : decode cL_law 292 = .ok (.iload 4, 2) := by decide +kernel
theorem dL_law_294 : decode cL_law 294 = .ok (.iconst 5, 1) := by decide +kernel
theorem dL_law_295 : decode cL_law 295 = .ok (.iadd, 1) := by decide +kernel
theorem dL_law_296 : decode cL_law 296 = .ok (.iaload, 1) := by decide +kernel
theorem dL_law_297 : decode cL_law 297 = .ok (.invokevirtual 23, 3) := by decide +kernel
theorem dL_law_300 : decode cL_law 300 = .ok (.if_icmp .eq 2074, 3) := by decide +kernel
theorem dL_law_303 : decode cL_law 303 = .ok (.iconst 0, 1) := by decide +kernel
theorem dL_law_304 : decode cL_law 304 = .ok (.ireturn, 1) := by decide +kernel
theorem dL_law_305 : decode cL_law 305 = .ok (.aload_n 1, 1) := by decide +kernel
theorem dL_law_306 : decode cL_law 306 = .ok (.aload_n 0, 1) := by decide +kernel
theorem dL_law_307 : decode cL_law 307 = .ok (.iload 4, 2) := by decide +kernel
theorem dL_law_309 : decode cL_law 309 = .ok (.iconst 1, 1) := by decide +kernel
theorem dL_law_310 : decode cL_law 310 = .ok (.iadd, 1) := by decide +kernel
theorem dL_law_311 : decode cL_law 311 = .ok (.iaload, 1) := by decide +kernel
theorem dL_law_312 : decode cL_law 312 = .ok (.invokevirtual 24, 3) := by decide +kernel
theorem dL_law_315 : decode cL_law 315 = .ok (.aload_n 2, 1) := by decide +kernel
theorem dL_law_316 : decode cL_law 316 = .ok (.aload_n 0, 1) := by decide +kernel
theorem dL_law_317 : decode cL_law 317 = .ok (.iload 4, 2) := by decide +kernel
theorem dL_law_319 : decode cL_law 319 = .ok (.iconst 1, 1) := by decide +kernel
theorem dL_law_320 : decode cL_law 320 = .ok (.iadd, 1) := by decide +kernel
theorem dL_law_321 : decode cL_law 321 = .ok (.iaload, 1) := by decide +kernel
theorem dL_law_322 : decode cL_law 322 = .ok (.invokevirtual 27, 3) := by decide +kernel
theorem dL_law_325 : decode cL_law 325 = .ok (.if_icmp .eq 2049, 3) := by decide +kernel
theorem dL_law_328 : decode cL_law 328 = .ok (.iconst 0, 1) := by decide +kernel
theorem dL_law_329 : decode cL_law 329 = .ok (.ireturn, 1) := by decide +kernel
theorem dL_law_330 : decode cL_law 330 = .ok (.aload_n 1, 1) := by decide +kernel
theorem dL_law_331 : decode cL_law 331 = .ok (.invokevirtual 28, 3) := by decide +kernel
theorem dL_law_334 : decode cL_law 334 = .ok (.aload_n 2, 1) := by decide +kernel
theorem dL_law_335 : decode cL_law 335 = .ok (.invokevirtual 32, 3) := by decide +kernel
theorem dL_law_338 : decode cL_law 338 = .ok (.if_icmp .eq 2036, 3) := by decide +kernel
theorem dL_law_341 : decode cL_law 341 = .ok (.iconst 0, 1) := by decide +kernel
theorem dL_law_342 : decode cL_law 342 = .ok (.ireturn, 1) := by decide +kernel
theorem dL_law_343 : decode cL_law 343 = .ok (.aload_n 1, 1) := by decide +kernel
theorem dL_law_344 : decode cL_law 344 = .ok (.invokevirtual 33, 3) := by decide +kernel
theorem dL_law_347 : decode cL_law 347 = .ok (.aload_n 2, 1) := by decide +kernel
theorem dL_law_348 : decode cL_law 348 = .ok (.invokevirtual 36, 3) := by decide +kernel
theorem dL_law_351 : decode cL_law 351 = .ok (.if_icmp .eq 2023, 3) := by decide +kernel
theorem dL_law_354 : decode cL_law 354 = .ok (.iconst 0, 1) := by decide +kernel
theorem dL_law_355 : decode cL_law 355 = .ok (.ireturn, 1) := by decide +kernel
theorem dL_law_356 : decode cL_law 356 = .ok (.aload_n 1, 1) := by decide +kernel
theorem dL_law_357 : decode cL_law 357 = .ok (.aload_n 0, 1) := by decide +kernel
theorem dL_law_358 : decode cL_law 358 = .ok (.iload 4, 2) := by decide +kernel
theorem dL_law_360 : decode cL_law 360 = .ok (.iconst 1, 1) := by decide +kernel
theorem dL_law_361 : decode cL_law 361 = .ok (.iadd, 1) := by decide +kernel
theorem dL_law_362 : decode cL_law 362 = .ok (.iaload, 1) := by decide +kernel
theorem dL_law_363 : decode cL_law 363 = .ok (.aload_n 0, 1) := by decide +kernel
theorem dL_law_364 : decode cL_law 364 = .ok (.iload 4, 2) := by decide +kernel
theorem dL_law_366 : decode cL_law 366 = .ok (.iconst 2, 1) := by decide +kernel
theorem dL_law_367 : decode cL_law 367 = .ok (.iadd, 1) := by decide +kernel
theorem dL_law_368 : decode cL_law 368 = .ok (.iaload, 1) := by decide +kernel
theorem dL_law_369 : decode cL_law 369 = .ok (.invokevirtual 37, 3) := by decide +kernel
theorem dL_law_372 : decode cL_law 372 = .ok (.aload_n 2, 1) := by decide +kernel
theorem dL_law_373 : decode cL_law 373 = .ok (.aload_n 0, 1) := by decide +kernel
theorem dL_law_374 : decode cL_law 374 = .ok (.iload 4, 2) := by decide +kernel
theorem dL_law_376 : decode cL_law 376 = .ok (.iconst 1, 1) := by decide +kernel
theorem dL_law_377 : decode cL_law 377 = .ok (.iadd, 1) := by decide +kernel
theorem dL_law_378 : decode cL_law 378 = .ok (.iaload, 1) := by decide +kernel
theorem dL_law_379 : decode cL_law 379 = .ok (.aload_n 0, 1) := by decide +kernel
theorem dL_law_380 : decode cL_law 380 = .ok (.iload 4, 2) := by decide +kernel
theorem dL_law_382 : decode cL_law 382 = .ok (.iconst 2, 1) := by decide +kernel
theorem dL_law_383 : decode cL_law 383 = .ok (.iadd, 1) := by decide +kernel
theorem dL_law_384 : decode cL_law 384 = .ok (.iaload, 1) := by decide +kernel
theorem dL_law_385 : decode cL_law 385 = .ok (.invokevirtual 41, 3) := by decide +kernel
theorem dL_law_388 : decode cL_law 388 = .ok (.if_icmp .eq 1986, 3) := by decide +kernel
theorem dL_law_391 : decode cL_law 391 = .ok (.iconst 0, 1) := by decide +kernel
theorem dL_law_392 : decode cL_law 392 = .ok (.ireturn, 1) := by decide +kernel
theorem dL_law_393 : decode cL_law 393 = .ok (.aload_n 1, 1) := by decide +kernel
theorem dL_law_394 : decode cL_law 394 = .ok (.aload_n 0, 1) := by decide +kernel
theorem dL_law_395 : decode cL_law 395 = .ok (.iload 4, 2) := by decide +kernel
theorem dL_law_397 : decode cL_law 397 = .ok (.iconst 1, 1) := by decide +kernel
theorem dL_law_398 : decode cL_law 398 = .ok (.iadd, 1) := by decide +kernel
theorem dL_law_399 : decode cL_law 399 = .ok (.iaload, 1) := by decide +kernel
theorem dL_law_400 : decode cL_law 400 = .ok (.aload_n 0, 1) := by decide +kernel
theorem dL_law_401 : decode cL_law 401 = .ok (.iload 4, 2) := by decide +kernel
theorem dL_law_403 : decode cL_law 403 = .ok (.iconst 2, 1) := by decide +kernel
theorem dL_law_404 : decode cL_law 404 = .ok (.iadd, 1) := by decide +kernel
theorem dL_law_405 : decode cL_law 405 = .ok (.iaload, 1) := by decide +kernel
theorem dL_law_406 : decode cL_law 406 = .ok (.aload_n 0, 1) := by decide +kernel
theorem dL_law_407 : decode cL_law 407 = .ok (.iload 4, 2) := by decide +kernel
theorem dL_law_409 : decode cL_law 409 = .ok (.iconst 3, 1) := by decide +kernel
theorem dL_law_410 : decode cL_law 410 = .ok (.iadd, 1) := by decide +kernel
theorem dL_law_411 : decode cL_law 411 = .ok (.iaload, 1) := by decide +kernel
theorem dL_law_412 : decode cL_law 412 = .ok (.invokevirtual 42, 3) := by decide +kernel
theorem dL_law_415 : decode cL_law 415 = .ok (.aload_n 2, 1) := by decide +kernel
theorem dL_law_416 : decode cL_law 416 = .ok (.aload_n 0, 1) := by decide +kernel
theorem dL_law_417 : decode cL_law 417 = .ok (.iload 4, 2) := by decide +kernel
theorem dL_law_419 : decode cL_law 419 = .ok (.iconst 1, 1) := by decide +kernel
theorem dL_law_420 : decode cL_law 420 = .ok (.iadd, 1) := by decide +kernel
theorem dL_law_421 : decode cL_law 421 = .ok (.iaload, 1) := by decide +kernel
theorem dL_law_422 : decode cL_law 422 = .ok (.aload_n 0, 1) := by decide +kernel
theorem dL_law_423 : decode cL_law 423 = .ok (.iload 4, 2) := by decide +kernel
theorem dL_law_425 : decode cL_law 425 = .ok (.iconst 2, 1) := by decide +kernel
theorem dL_law_426 : decode cL_law 426 = .ok (.iadd, 1) := by decide +kernel
theorem dL_law_427 : decode cL_law 427 = .ok (.iaload, 1) := by decide +kernel
theorem dL_law_428 : decode cL_law 428 = .ok (.aload_n 0, 1) := by decide +kernel
theorem dL_law_429 : decode cL_law 429 = .ok (.iload 4, 2) := by decide +kernel
theorem dL_law_431 : decode cL_law 431 = .ok (.iconst 3, 1) := by decide +kernel
theorem dL_law_432 : decode cL_law 432 = .ok (.iadd, 1) := by decide +kernel
theorem dL_law_433 : decode cL_law 433 = .ok (.iaload, 1) := by decide +kernel
theorem dL_law_434 : decode cL_law 434 = .ok (.invokevirtual 46, 3) := by decide +kernel
theorem dL_law_437 : decode cL_law 437 = .ok (.if_icmp .eq 1937, 3) := by decide +kernel
theorem dL_law_440 : decode cL_law 440 = .ok (.iconst 0, 1) := by decide +kernel
theorem dL_law_441 : decode cL_law 441 = .ok (.ireturn, 1) := by decide +kernel
theorem dL_law_442 : decode cL_law 442 = .ok (.aload_n 1, 1) := by decide +kernel
theorem dL_law_443 : decode cL_law 443 = .ok (.aload_n 0, 1) := by decide +kernel
theorem dL_law_444 : decode cL_law 444 = .ok (.iload 4, 2) := by decide +kernel
theorem dL_law_446 : decode cL_law 446 = .ok (.iconst 1, 1) := by decide +kernel
theorem dL_law_447 : decode cL_law 447 = .ok (.iadd, 1) := by decide +kernel
theorem dL_law_448 : decode cL_law 448 = .ok (.iaload, 1) := by decide +kernel
theorem dL_law_449 : decode cL_law 449 = .ok (.aload_n 0, 1) := by decide +kernel
theorem dL_law_450 : decode cL_law 450 = .ok (.iload 4, 2) := by decide +kernel
theorem dL_law_452 : decode cL_law 452 = .ok (.iconst 2, 1) := by decide +kernel
theorem dL_law_453 : decode cL_law 453 = .ok (.iadd, 1) := by decide +kernel
theorem dL_law_454 : decode cL_law 454 = .ok (.iaload, 1) := by decide +kernel
theorem dL_law_455 : decode cL_law 455 = .ok (.invokevirtual 47, 3) := by decide +kernel
theorem dL_law_458 : decode cL_law 458 = .ok (.aload_n 2, 1) := by decide +kernel
theorem dL_law_459 : decode cL_law 459 = .ok (.aload_n 0, 1) := by decide +kernel
theorem dL_law_460 : decode cL_law 460 = .ok (.iload 4, 2) := by decide +kernel
theorem dL_law_462 : decode cL_law 462 = .ok (.iconst 1, 1) := by decide +kernel
theorem dL_law_463 : decode cL_law 463 = .ok (.iadd, 1) := by decide +kernel
theorem dL_law_464 : decode cL_law 464 = .ok (.iaload, 1) := by decide +kernel
theorem dL_law_465 : decode cL_law 465 = .ok (.aload_n 0, 1) := by decide +kernel
theorem dL_law_466 : decode cL_law 466 = .ok (.iload 4, 2) := by decide +kernel
theorem dL_law_468 : decode cL_law 468 = .ok (.iconst 2, 1) := by decide +kernel
theorem dL_law_469 : decode cL_law 469 = .ok (.iadd, 1) := by decide +kernel
theorem dL_law_470 : decode cL_law 470 = .ok (.iaload, 1) := by decide +kernel
theorem dL_law_471 : decode cL_law 471 = .ok (.invokevirtual 50, 3) := by decide +kernel
theorem dL_law_474 : decode cL_law 474 = .ok (.if_icmp .eq 1900, 3) := by decide +kernel
theorem dL_law_477 : decode cL_law 477 = .ok (.iconst 0, 1) := by decide +kernel
theorem dL_law_478 : decode cL_law 478 = .ok (.ireturn, 1) := by decide +kernel
theorem dL_law_479 : decode cL_law 479 = .ok (.aload_n 1, 1) := by decide +kernel
theorem dL_law_480 : decode cL_law 480 = .ok (.aload_n 0, 1) := by decide +kernel
theorem dL_law_481 : decode cL_law 481 = .ok (.iload 4, 2) := by decide +kernel
theorem dL_law_483 : decode cL_law 483 = .ok (.iconst 1, 1) := by decide +kernel
theorem dL_law_484 : decode cL_law 484 = .ok (.iadd, 1) := by decide +kernel
theorem dL_law_485 : decode cL_law 485 = .ok (.iaload, 1) := by decide +kernel
theorem dL_law_486 : decode cL_law 486 = .ok (.aload_n 0, 1) := by decide +kernel
theorem dL_law_487 : decode cL_law 487 = .ok (.iload 4, 2) := by decide +kernel
theorem dL_law_489 : decode cL_law 489 = .ok (.iconst 2, 1) := by decide +kernel
theorem dL_law_490 : decode cL_law 490 = .ok (.iadd, 1) := by decide +kernel
theorem dL_law_491 : decode cL_law 491 = .ok (.iaload, 1) := by decide +kernel
theorem dL_law_492 : decode cL_law 492 = .ok (.aload_n 0, 1) := by decide +kernel
theorem dL_law_493 : decode cL_law 493 = .ok (.iload 4, 2) := by decide +kernel
theorem dL_law_495 : decode cL_law 495 = .ok (.iconst 3, 1) := by decide +kernel
theorem dL_law_496 : decode cL_law 496 = .ok (.iadd, 1) := by decide +kernel
theorem dL_law_497 : decode cL_law 497 = .ok (.iaload, 1) := by decide +kernel
theorem dL_law_498 : decode cL_law 498 = .ok (.aload_n 0, 1) := by decide +kernel
theorem dL_law_499 : decode cL_law 499 = .ok (.iload 4, 2) := by decide +kernel
theorem dL_law_501 : decode cL_law 501 = .ok (.iconst 4, 1) := by decide +kernel
theorem dL_law_502 : decode cL_law 502 = .ok (.iadd, 1) := by decide +kernel
theorem dL_law_503 : decode cL_law 503 = .ok (.iaload, 1) := by decide +kernel
theorem dL_law_504 : decode cL_law 504 = .ok (.invokevirtual 51, 3) := by decide +kernel
theorem dL_law_507 : decode cL_law 507 = .ok (.aload_n 2, 1) := by decide +kernel
theorem dL_law_508 : decode cL_law 508 = .ok (.aload_n 0, 1) := by decide +kernel
theorem dL_law_509 : decode cL_law 509 = .ok (.iload 4, 2) := by decide +kernel
theorem dL_law_511 : decode cL_law 511 = .ok (.iconst 1, 1) := by decide +kernel
theorem dL_law_512 : decode cL_law 512 = .ok (.iadd, 1) := by decide +kernel
theorem dL_law_513 : decode cL_law 513 = .ok (.iaload, 1) := by decide +kernel
theorem dL_law_514 : decode cL_law 514 = .ok (.aload_n 0, 1) := by decide +kernel
theorem dL_law_515 : decode cL_law 515 = .ok (.iload 4, 2) := by decide +kernel
theorem dL_law_517 : decode cL_law 517 = .ok (.iconst 2, 1) := by decide +kernel
theorem dL_law_518 : decode cL_law 518 = .ok (.iadd, 1) := by decide +kernel
theorem dL_law_519 : decode cL_law 519 = .ok (.iaload, 1) := by decide +kernel
theorem dL_law_520 : decode cL_law 520 = .ok (.aload_n 0, 1) := by decide +kernel
theorem dL_law_521 : decode cL_law 521 = .ok (.iload 4, 2) := by decide +kernel
theorem dL_law_523 : decode cL_law 523 = .ok (.iconst 3, 1) := by decide +kernel
theorem dL_law_524 : decode cL_law 524 = .ok (.iadd, 1) := by decide +kernel
theorem dL_law_525 : decode cL_law 525 = .ok (.iaload, 1) := by decide +kernel
theorem dL_law_526 : decode cL_law 526 = .ok (.aload_n 0, 1) := by decide +kernel
theorem dL_law_527 : decode cL_law 527 = .ok (.iload 4, 2) := by decide +kernel
theorem dL_law_529 : decode cL_law 529 = .ok (.iconst 4, 1) := by decide +kernel
theorem dL_law_530 : decode cL_law 530 = .ok (.iadd, 1) := by decide +kernel
theorem dL_law_531 : decode cL_law 531 = .ok (.iaload, 1) := by decide +kernel
theorem dL_law_532 : decode cL_law 532 = .ok (.invokevirtual 55, 3) := by decide +kernel
theorem dL_law_535 : decode cL_law 535 = .ok (.if_icmp .eq 1839, 3) := by decide +kernel
theorem dL_law_538 : decode cL_law 538 = .ok (.iconst 0, 1) := by decide +kernel
theorem dL_law_539 : decode cL_law 539 = .ok (.ireturn, 1) := by decide +kernel
theorem dL_law_540 : decode cL_law 540 = .ok (.aload_n 1, 1) := by decide +kernel
theorem dL_law_541 : decode cL_law 541 = .ok (.aload_n 0, 1) := by decide +kernel
theorem dL_law_542 : decode cL_law 542 = .ok (.iload 4, 2) := by decide +kernel
theorem dL_law_544 : decode cL_law 544 = .ok (.iconst 1, 1) := by decide +kernel
theorem dL_law_545 : decode cL_law 545 = .ok (.iadd, 1) := by decide +kernel
theorem dL_law_546 : decode cL_law 546 = .ok (.iaload, 1) := by decide +kernel
theorem dL_law_547 : decode cL_law 547 = .ok (.aload_n 0, 1) := by decide +kernel
theorem dL_law_548 : decode cL_law 548 = .ok (.iload 4, 2) := by decide +kernel
theorem dL_law_550 : decode cL_law 550 = .ok (.iconst 2, 1) := by decide +kernel
theorem dL_law_551 : decode cL_law 551 = .ok (.iadd, 1) := by decide +kernel
theorem dL_law_552 : decode cL_law 552 = .ok (.iaload, 1) := by decide +kernel
theorem dL_law_553 : decode cL_law 553 = .ok (.aload_n 0, 1) := by decide +kernel
section
variable {X : ab_X} {f cl sl : Nat} {σ : ab_S} {Q : Option ab_V → ab_S → Prop} {L st : List ab_V} {a b z v i j n x1 x2 x3 x4 x5 x6 x7 x8 : Int} {l0 l1 l2 l3 l4 l5 l6 : ab_V}
theorem rL_law_0 : ab_Run X 288 0 (f, cl, sl) L st σ Q ↔ (1 ≤ cl ∧ 9 ≤ sl) ∧ ab_Run X 288 3 (f, cl - 1, sl - 9) L (ab_R σ.1 :: st) (ab_new σ 12 0) Q := ab_r_new rfl ko_L_law (by decide +kernel) (by decide) rfl rfl kc_L_law dL_law_0
theorem rL_law_3 : ab_Run X 288 3 (f, cl, sl) L (ab_R a :: st) σ Q ↔ ab_Run X 288 4 (f, cl, sl) L (ab_R a :: ab_R a :: st) σ Q := ab_r_dupR kc_L_law dL_law_3
theorem rL_law_4 (h : 4 + 1 ≤ f ∧ 353 ≤ cl ∧ 3409 ≤ sl) : ab_Run X 288 4 (f, cl, sl) L (ab_R a :: st) σ Q ↔ ((ab_sh σ a).1 = 12 ∧ ab_cats st ≤ 8) ∧ ab_Do X 79 [ab_R a] σ (fun r σ' => ab_Run X 288 7 (f, cl - 353, sl - 3409) L (ab_psh r st) σ' Q) := ab_r_callV (w := []) (as := []) (b1 := (4, 353, 3409)) 2 (Or.inr rfl) (by decide) ko_L_law qM_14_15 (by decide) rfl rfl rfl rfl rfl h (Nat.le_of_ble_eq_true rfl) kc_L_law dL_law_4
theorem rL_law_7 : ab_Run X 288 7 (f, cl, sl) [l0, l1, l2, l3, l4, l5, l6] (ab_R z :: st) σ Q ↔ (!ab_isJ l0) = true ∧ ab_Run X 288 8 (f, cl, sl) [l0, ab_R z, l2, l3, l4, l5, l6] st σ Q := ab_r_astore_n (Nat.le_of_ble_eq_true rfl) kc_L_law dL_law_7
theorem rL_law_8 : ab_Run X 288 8 (f, cl, sl) L st σ Q ↔ (1 ≤ cl ∧ 39 ≤ sl) ∧ ab_Run X 288 11 (f, cl - 1, sl - 39) L (ab_R σ.1 :: st) (ab_new σ 14 0) Q := ab_r_new rfl ko_L_law (by decide +kernel) (by decide) rfl rfl kc_L_law dL_law_8
theorem rL_law_11 : ab_Run X 288 11 (f, cl, sl) L (ab_R a :: st) σ Q ↔ ab_Run X 288 12 (f, cl, sl) L (ab_R a :: ab_R a :: st) σ Q := ab_r_dupR kc_L_law dL_law_11
theorem rL_law_12 (h : 1 + 1 ≤ f ∧ 12 ≤ cl ∧ 1675 ≤ sl) : ab_Run X 288 12 (f, cl, sl) L (ab_R a :: st) σ Q ↔ ((ab_sh σ a).1 = 14 ∧ ab_cats st ≤ 8) ∧ ab_Do X 157 [ab_R a] σ (fun r σ' => ab_Run X 288 15 (f, cl - 12, sl - 1675) L (ab_psh r st) σ' Q) := ab_r_callV (w := []) (as := []) (b1 := (1, 12, 1675)) 2 (Or.inr rfl) (by decide) ko_L_law qM_14_18 (by decide) rfl rfl rfl rfl rfl h (Nat.le_of_ble_eq_true rfl) kc_L_law dL_law_12
theorem rL_law_15 : ab_Run X 288 15 (f, cl, sl) [l0, l1, l2, l3, l4, l5, l6] (ab_R z :: st) σ Q ↔ (!ab_isJ l1) = true ∧ ab_Run X 288 16 (f, cl, sl) [l0, l1, ab_R z, l3, l4, l5, l6] st σ Q := ab_r_astore_n (Nat.le_of_ble_eq_true rfl) kc_L_law dL_law_15
theorem rL_law_16 : ab_Run X 288 16 (f, cl, sl) L st σ Q ↔ ab_Run X 288 17 (f, cl, sl) L (ab_I 1 :: st) σ Q := ab_r_iconst (by decide) kc_L_law dL_law_16
theorem rL_law_17 : ab_Run X 288 17 (f, cl, sl) L (ab_I n :: st) σ Q ↔ (0 ≤ n ∧ n ≤ 60000 ∧ 1 ≤ cl ∧ n.toNat ≤ sl) ∧ ab_Run X 288 19 (f, cl - 1, sl - n.toNat) L (ab_R σ.1 :: st) (ab_new σ 22 n) Q := ab_r_newarray rfl rfl kc_L_law dL_law_17
theorem rL_law_19 : ab_Run X 288 19 (f, cl, sl) [l0, l1, l2, l3, l4, l5, l6] (ab_R z :: st) σ Q ↔ (!ab_isJ l2) = true ∧ ab_Run X 288 20 (f, cl, sl) [l0, l1, l2, ab_R z, l4, l5, l6] st σ Q := ab_r_astore_n (Nat.le_of_ble_eq_true rfl) kc_L_law dL_law_19
theorem rL_law_20 : ab_Run X 288 20 (f, cl, sl) L st σ Q ↔ ab_Run X 288 21 (f, cl, sl) L (ab_I 0 :: st) σ Q := ab_r_iconst (by decide) kc_L_law dL_law_20
theorem rL_law_21 : ab_Run X 288 21 (f, cl, sl) [l0, l1, l2, l3, l4, l5, l6] (ab_I z :: st) σ Q ↔ (!ab_isJ l3) = true ∧ ab_Run X 288 23 (f, cl, sl) [l0, l1, l2, l3, ab_I z, l5, l6] st σ Q := ab_r_istore (Nat.le_of_ble_eq_true rfl) kc_L_law dL_law_21
theorem rL_law_23 : ab_Run X 288 23 (f, cl, sl) [l0, l1, l2, l3, ab_I z, l5, l6] st σ Q ↔ ab_Run X 288 25 (f, cl, sl) [l0, l1, l2, l3, ab_I z, l5, l6] (ab_I z :: st) σ Q := ab_r_iload rfl kc_L_law dL_law_23
theorem rL_law_25 : ab_Run X 288 25 (f, cl, sl) [ab_R z, l1, l2, l3, l4, l5, l6] st σ Q ↔ z ≠ 0 ∧ ab_Run X 288 26 (f, cl, sl) [ab_R z, l1, l2, l3, l4, l5, l6] (ab_R z :: st) σ Q := ab_r_aload_n rfl kc_L_law dL_law_25
theorem rL_law_26 : ab_Run X 288 26 (f, cl, sl) L (ab_R a :: st) σ Q ↔ a = -1 ∧ ab_Run X 288 27 (f, cl, sl) L (ab_I X.1 :: st) σ Q := ab_r_arraylengthX rfl kc_L_law dL_law_26
theorem rL_law_27 : ab_Run X 288 27 (f, cl, sl) L st σ Q ↔ ab_Run X 288 29 (f, cl, sl) L (ab_I 9 :: st) σ Q := ab_r_bipush (by decide) kc_L_law dL_law_27
theorem rL_law_29 : ab_Run X 288 29 (f, cl, sl) L (ab_I b :: ab_I a :: st) σ Q ↔ ab_Run X 288 30 (f, cl, sl) L (ab_I (ab_w32 (a - b)) :: st) σ Q := ab_r_isub kc_L_law dL_law_29
theorem rL_law_30 : ab_Run X 288 30 (f, cl, sl) L (ab_I b :: ab_I a :: st) σ Q ↔ (b < a → ab_Run X 288 2380 (f, cl, sl) L st σ Q) ∧ (¬ (b < a) → ab_Run X 288 33 (f, cl, sl) L st σ Q) := ab_r_icmp_gt rfl kc_L_law dL_law_30
theorem rL_law_33 : ab_Run X 288 33 (f, cl, sl) [ab_R z, l1, l2, l3, l4, l5, l6] st σ Q ↔ z ≠ 0 ∧ ab_Run X 288 34 (f, cl, sl) [ab_R z, l1, l2, l3, l4, l5, l6] (ab_R z :: st) σ Q := ab_r_aload_n rfl kc_L_law dL_law_33
theorem rL_law_34 : ab_Run X 288 34 (f, cl, sl) [l0, l1, l2, l3, ab_I z, l5, l6] st σ Q ↔ ab_Run X 288 36 (f, cl, sl) [l0, l1, l2, l3, ab_I z, l5, l6] (ab_I z :: st) σ Q := ab_r_iload rfl kc_L_law dL_law_34
theorem rL_law_36 : ab_Run X 288 36 (f, cl, sl) L (ab_I i :: ab_R a :: st) σ Q ↔ (a = -1 ∧ 0 ≤ i ∧ i < X.1) ∧ ab_Run X 288 37 (f, cl, sl) L (ab_I (X.2 i) :: st) σ Q := ab_r_ialoadX rfl kc_L_law dL_law_36
theorem rL_law_37 : ab_Run X 288 37 (f, cl, sl) L st σ Q ↔ ab_Run X 288 39 (f, cl, sl) L (ab_I 63 :: st) σ Q := ab_r_bipush (by decide) kc_L_law dL_law_37
theorem rL_law_39 : ab_Run X 288 39 (f, cl, sl) L (ab_I b :: ab_I a :: st) σ Q ↔ ab_Run X 288 40 (f, cl, sl) L (ab_I (ab_ok32 (fun x y => x &&& y) a b) :: st) σ Q := ab_r_iand kc_L_law dL_law_39
theorem rL_law_40_0 : ab_Run X 288 40 (f, cl, sl) L (ab_I 0 :: st) σ Q ↔ ab_Run X 288 232 (f, cl, sl) L st σ Q := ab_r_tsw (by decide) rfl rfl kc_L_law dL_law_40
theorem rL_law_40_1 : ab_Run X 288 40 (f, cl, sl) L (ab_I 1 :: st) σ Q ↔ ab_Run X 288 305 (f, cl, sl) L st σ Q := ab_r_tsw (by decide) rfl rfl kc_L_law dL_law_40
theorem rL_law_40_2 : ab_Run X 288 40 (f, cl, sl) L (ab_I 2 :: st) σ Q ↔ ab_Run X 288 330 (f, cl, sl) L st σ Q := ab_r_tsw (by decide) rfl rfl kc_L_law dL_law_40
theorem rL_law_40_3 : ab_Run X 288 40 (f, cl, sl) L (ab_I 3 :: st) σ Q ↔ ab_Run X 288 343 (f, cl, sl) L st σ Q := ab_r_tsw (by decide) rfl rfl kc_L_law dL_law_40
theorem rL_law_40_4 : ab_Run X 288 40 (f, cl, sl) L (ab_I 4 :: st) σ Q ↔ ab_Run X 288 356 (f, cl, sl) L st σ Q := ab_r_tsw (by decide) rfl rfl kc_L_law dL_law_40
theorem rL_law_40_5 : ab_Run X 288 40 (f, cl, sl) L (ab_I 5 :: st) σ Q ↔ ab_Run X 288 393 (f, cl, sl) L st σ Q := ab_r_tsw (by decide) rfl rfl kc_L_law dL_law_40
theorem rL_law_40_6 : ab_Run X 288 40 (f, cl, sl) L (ab_I 6 :: st) σ Q ↔ ab_Run X 288 442 (f, cl, sl) L st σ Q := ab_r_tsw (by decide) rfl rfl kc_L_law dL_law_40
theorem rL_law_40_7 : ab_Run X 288 40 (f, cl, sl) L (ab_I 7 :: st) σ Q ↔ ab_Run X 288 479 (f, cl, sl) L st σ Q := ab_r_tsw (by decide) rfl rfl kc_L_law dL_law_40
theorem rL_law_40_8 : ab_Run X 288 40 (f, cl, sl) L (ab_I 8 :: st) σ Q ↔ ab_Run X 288 540 (f, cl, sl) L st σ Q := ab_r_tsw (by decide) rfl rfl kc_L_law dL_law_40
theorem rL_law_40_9 : ab_Run X 288 40 (f, cl, sl) L (ab_I 9 :: st) σ Q ↔ ab_Run X 288 655 (f, cl, sl) L st σ Q := ab_r_tsw (by decide) rfl rfl kc_L_law dL_law_40
theorem rL_law_40_10 : ab_Run X 288 40 (f, cl, sl) L (ab_I 10 :: st) σ Q ↔ ab_Run X 288 742 (f, cl, sl) L st σ Q := ab_r_tsw (by decide) rfl rfl kc_L_law dL_law_40
theorem rL_law_40_11 : ab_Run X 288 40 (f, cl, sl) L (ab_I 11 :: st) σ Q ↔ ab_Run X 288 829 (f, cl, sl) L st σ Q := ab_r_tsw (by decide) rfl rfl kc_L_law dL_law_40
theorem rL_law_40_12 : ab_Run X 288 40 (f, cl, sl) L (ab_I 12 :: st) σ Q ↔ ab_Run X 288 944 (f, cl, sl) L st σ Q := ab_r_tsw (by decide) rfl rfl kc_L_law dL_law_40
theorem rL_law_40_13 : ab_Run X 288 40 (f, cl, sl) L (ab_I 13 :: st) σ Q ↔ ab_Run X 288 1076 (f, cl, sl) L st σ Q := ab_r_tsw (by decide) rfl rfl kc_L_law dL_law_40
theorem rL_law_40_14 : ab_Run X 288 40 (f, cl, sl) L (ab_I 14 :: st) σ Q ↔ ab_Run X 288 1137 (f, cl, sl) L st σ Q := ab_r_tsw (by decide) rfl rfl kc_L_law dL_law_40
theorem rL_law_40_15 : ab_Run X 288 40 (f, cl, sl) L (ab_I 15 :: st) σ Q ↔ ab_Run X 288 1186 (f, cl, sl) L st σ Q := ab_r_tsw (by decide) rfl rfl kc_L_law dL_law_40
theorem rL_law_40_16 : ab_Run X 288 40 (f, cl, sl) L (ab_I 16 :: st) σ Q ↔ ab_Run X 288 1235 (f, cl, sl) L st σ Q := ab_r_tsw (by decide) rfl rfl kc_L_law dL_law_40
theorem rL_law_40_17 : ab_Run X 288 40 (f, cl, sl) L (ab_I 17 :: st) σ Q ↔ ab_Run X 288 1313 (f, cl, sl) L st σ Q := ab_r_tsw (by decide) rfl rfl kc_L_law dL_law_40
theorem rL_law_40_18 : ab_Run X 288 40 (f, cl, sl) L (ab_I 18 :: st) σ Q ↔ ab_Run X 288 1403 (f, cl, sl) L st σ Q := ab_r_tsw (by decide) rfl rfl kc_L_law dL_law_40
theorem rL_law_40_19 : ab_Run X 288 40 (f, cl, sl) L (ab_I 19 :: st) σ Q ↔ ab_Run X 288 1452 (f, cl, sl) L st σ Q := ab_r_tsw (by decide) rfl rfl kc_L_law dL_law_40
theorem rL_law_40_20 : ab_Run X 288 40 (f, cl, sl) L (ab_I 20 :: st) σ Q ↔ ab_Run X 288 1542 (f, cl, sl) L st σ Q := ab_r_tsw (by decide) rfl rfl kc_L_law dL_law_40
theorem rL_law_40_21 : ab_Run X 288 40 (f, cl, sl) L (ab_I 21 :: st) σ Q ↔ ab_Run X 288 1591 (f, cl, sl) L st σ Q := ab_r_tsw (by decide) rfl rfl kc_L_law dL_law_40
theorem rL_law_40_22 : ab_Run X 288 40 (f, cl, sl) L (ab_I 22 :: st) σ Q ↔ ab_Run X 288 1616 (f, cl, sl) L st σ Q := ab_r_tsw (by decide) rfl rfl kc_L_law dL_law_40
theorem rL_law_40_23 : ab_Run X 288 40 (f, cl, sl) L (ab_I 23 :: st) σ Q ↔ ab_Run X 288 1653 (f, cl, sl) L st σ Q := ab_r_tsw (by decide) rfl rfl kc_L_law dL_law_40
theorem rL_law_40_24 : ab_Run X 288 40 (f, cl, sl) L (ab_I 24 :: st) σ Q ↔ ab_Run X 288 1707 (f, cl, sl) L st σ Q := ab_r_tsw (by decide) rfl rfl kc_L_law dL_law_40
theorem rL_law_40_25 : ab_Run X 288 40 (f, cl, sl) L (ab_I 25 :: st) σ Q ↔ ab_Run X 288 1749 (f, cl, sl) L st σ Q := ab_r_tsw (by decide) rfl rfl kc_L_law dL_law_40
theorem rL_law_40_26 : ab_Run X 288 40 (f, cl, sl) L (ab_I 26 :: st) σ Q ↔ ab_Run X 288 1762 (f, cl, sl) L st σ Q := ab_r_tsw (by decide) rfl rfl kc_L_law dL_law_40
theorem rL_law_40_27 : ab_Run X 288 40 (f, cl, sl) L (ab_I 27 :: st) σ Q ↔ ab_Run X 288 1787 (f, cl, sl) L st σ Q := ab_r_tsw (by decide) rfl rfl kc_L_law dL_law_40
theorem rL_law_40_28 : ab_Run X 288 40 (f, cl, sl) L (ab_I 28 :: st) σ Q ↔ ab_Run X 288 1841 (f, cl, sl) L st σ Q := ab_r_tsw (by decide) rfl rfl kc_L_law dL_law_40
theorem rL_law_40_29 : ab_Run X 288 40 (f, cl, sl) L (ab_I 29 :: st) σ Q ↔ ab_Run X 288 1878 (f, cl, sl) L st σ Q := ab_r_tsw (by decide) rfl rfl kc_L_law dL_law_40
theorem rL_law_40_30 : ab_Run X 288 40 (f, cl, sl) L (ab_I 30 :: st) σ Q ↔ ab_Run X 288 1903 (f, cl, sl) L st σ Q := ab_r_tsw (by decide) rfl rfl kc_L_law dL_law_40
theorem rL_law_40_31 : ab_Run X 288 40 (f, cl, sl) L (ab_I 31 :: st) σ Q ↔ ab_Run X 288 1928 (f, cl, sl) L st σ Q := ab_r_tsw (by decide) rfl rfl kc_L_law dL_law_40
theorem rL_law_40_32 : ab_Run X 288 40 (f, cl, sl) L (ab_I 32 :: st) σ Q ↔ ab_Run X 288 1953 (f, cl, sl) L st σ Q := ab_r_tsw (by decide) rfl rfl kc_L_law dL_law_40
theorem rL_law_40_33 : ab_Run X 288 40 (f, cl, sl) L (ab_I 33 :: st) σ Q ↔ ab_Run X 288 2002 (f, cl, sl) L st σ Q := ab_r_tsw (by decide) rfl rfl kc_L_law dL_law_40
theorem rL_law_40_34 : ab_Run X 288 40 (f, cl, sl) L (ab_I 34 :: st) σ Q ↔ ab_Run X 288 2067 (f, cl, sl) L st σ Q := ab_r_tsw (by decide) rfl rfl kc_L_law dL_law_40
theorem rL_law_40_35 : ab_Run X 288 40 (f, cl, sl) L (ab_I 35 :: st) σ Q ↔ ab_Run X 288 2092 (f, cl, sl) L st σ Q := ab_r_tsw (by decide) rfl rfl kc_L_law dL_law_40
theorem rL_law_40_36 : ab_Run X 288 40 (f, cl, sl) L (ab_I 36 :: st) σ Q ↔ ab_Run X 288 2117 (f, cl, sl) L st σ Q := ab_r_tsw (by decide) rfl rfl kc_L_law dL_law_40
theorem rL_law_40_37 : ab_Run X 288 40 (f, cl, sl) L (ab_I 37 :: st) σ Q ↔ ab_Run X 288 2204 (f, cl, sl) L st σ Q := ab_r_tsw (by decide) rfl rfl kc_L_law dL_law_40
theorem rL_law_40_38 : ab_Run X 288 40 (f, cl, sl) L (ab_I 38 :: st) σ Q ↔ ab_Run X 288 2229 (f, cl, sl) L st σ Q := ab_r_tsw (by decide) rfl rfl kc_L_law dL_law_40
theorem rL_law_40_39 : ab_Run X 288 40 (f, cl, sl) L (ab_I 39 :: st) σ Q ↔ ab_Run X 288 2242 (f, cl, sl) L st σ Q := ab_r_tsw (by decide) rfl rfl kc_L_law dL_law_40
theorem rL_law_40_40 : ab_Run X 288 40 (f, cl, sl) L (ab_I 40 :: st) σ Q ↔ ab_Run X 288 2255 (f, cl, sl) L st σ Q := ab_r_tsw (by decide) rfl rfl kc_L_law dL_law_40
theorem rL_law_40_41 : ab_Run X 288 40 (f, cl, sl) L (ab_I 41 :: st) σ Q ↔ ab_Run X 288 2280 (f, cl, sl) L st σ Q := ab_r_tsw (by decide) rfl rfl kc_L_law dL_law_40
theorem rL_law_40_42 : ab_Run X 288 40 (f, cl, sl) L (ab_I 42 :: st) σ Q ↔ ab_Run X 288 2336 (f, cl, sl) L st σ Q := ab_r_tsw (by decide) rfl rfl kc_L_law dL_law_40
theorem rL_law_40_43 : ab_Run X 288 40 (f, cl, sl) L (ab_I 43 :: st) σ Q ↔ ab_Run X 288 2361 (f, cl, sl) L st σ Q := ab_r_tsw (by decide) rfl rfl kc_L_law dL_law_40
theorem rL_law_40_d (h : a < 0 ∨ 43 < a) : ab_Run X 288 40 (f, cl, sl) L (ab_I a :: st) σ Q ↔ ab_Run X 288 2374 (f, cl, sl) L st σ Q := ab_r_tswd h rfl kc_L_law dL_law_40
theorem rL_law_232 : ab_Run X 288 232 (f, cl, sl) [l0, ab_R z, l2, l3, l4, l5, l6] st σ Q ↔ z ≠ 0 ∧ ab_Run X 288 233 (f, cl, sl) [l0, ab_R z, l2, l3, l4, l5, l6] (ab_R z :: st) σ Q := ab_r_aload_n rfl kc_L_law dL_law_232
theorem rL_law_233 : ab_Run X 288 233 (f, cl, sl) [ab_R z, l1, l2, l3, l4, l5, l6] st σ Q ↔ z ≠ 0 ∧ ab_Run X 288 234 (f, cl, sl) [ab_R z, l1, l2, l3, l4, l5, l6] (ab_R z :: st) σ Q := ab_r_aload_n rfl kc_L_law dL_law_233
theorem rL_law_234 : ab_Run X 288 234 (f, cl, sl) [l0, l1, l2, l3, ab_I z, l5, l6] st σ Q ↔ ab_Run X 288 236 (f, cl, sl) [l0, l1, l2, l3, ab_I z, l5, l6] (ab_I z :: st) σ Q := ab_r_iload rfl kc_L_law dL_law_234
theorem rL_law_236 : ab_Run X 288 236 (f, cl, sl) L st σ Q ↔ ab_Run X 288 237 (f, cl, sl) L (ab_I 1 :: st) σ Q := ab_r_iconst (by decide) kc_L_law dL_law_236
theorem rL_law_237 : ab_Run X 288 237 (f, cl, sl) L (ab_I b :: ab_I a :: st) σ Q ↔ ab_Run X 288 238 (f, cl, sl) L (ab_I (ab_w32 (a + b)) :: st) σ Q := ab_r_iadd kc_L_law dL_law_237
theorem rL_law_238 : ab_Run X 288 238 (f, cl, sl) L (ab_I i :: ab_R a :: st) σ Q ↔ (a = -1 ∧ 0 ≤ i ∧ i < X.1) ∧ ab_Run X 288 239 (f, cl, sl) L (ab_I (X.2 i) :: st) σ Q := ab_r_ialoadX rfl kc_L_law dL_law_238
theorem rL_law_239 : ab_Run X 288 239 (f, cl, sl) [ab_R z, l1, l2, l3, l4, l5, l6] st σ Q ↔ z ≠ 0 ∧ ab_Run X 288 240 (f, cl, sl) [ab_R z, l1, l2, l3, l4, l5, l6] (ab_R z :: st) σ Q := ab_r_aload_n rfl kc_L_law dL_law_239
theorem rL_law_240 : ab_Run X 288 240 (f, cl, sl) [l0, l1, l2, l3, ab_I z, l5, l6] st σ Q ↔ ab_Run X 288 242 (f, cl, sl) [l0, l1, l2, l3, ab_I z, l5, l6] (ab_I z :: st) σ Q := ab_r_iload rfl kc_L_law dL_law_240
theorem rL_law_242 : ab_Run X 288 242 (f, cl, sl) L st σ Q ↔ ab_Run X 288 243 (f, cl, sl) L (ab_I 2 :: st) σ Q := ab_r_iconst (by decide) kc_L_law dL_law_242
theorem rL_law_243 : ab_Run X 288 243 (f, cl, sl) L (ab_I b :: ab_I a :: st) σ Q ↔ ab_Run X 288 244 (f, cl, sl) L (ab_I (ab_w32 (a + b)) :: st) σ Q := ab_r_iadd kc_L_law dL_law_243
theorem rL_law_244 : ab_Run X 288 244 (f, cl, sl) L (ab_I i :: ab_R a :: st) σ Q ↔ (a = -1 ∧ 0 ≤ i ∧ i < X.1) ∧ ab_Run X 288 245 (f, cl, sl) L (ab_I (X.2 i) :: st) σ Q := ab_r_ialoadX rfl kc_L_law dL_law_244
theorem rL_law_245 : ab_Run X 288 245 (f, cl, sl) [ab_R z, l1, l2, l3, l4, l5, l6] st σ Q ↔ z ≠ 0 ∧ ab_Run X 288 246 (f, cl, sl) [ab_R z, l1, l2, l3, l4, l5, l6] (ab_R z :: st) σ Q := ab_r_aload_n rfl kc_L_law dL_law_245
theorem rL_law_246 : ab_Run X 288 246 (f, cl, sl) [l0, l1, l2, l3, ab_I z, l5, l6] st σ Q ↔ ab_Run X 288 248 (f, cl, sl) [l0, l1, l2, l3, ab_I z, l5, l6] (ab_I z :: st) σ Q := ab_r_iload rfl kc_L_law dL_law_246
theorem rL_law_248 : ab_Run X 288 248 (f, cl, sl) L st σ Q ↔ ab_Run X 288 249 (f, cl, sl) L (ab_I 3 :: st) σ Q := ab_r_iconst (by decide) kc_L_law dL_law_248
theorem rL_law_249 : ab_Run X 288 249 (f, cl, sl) L (ab_I b :: ab_I a :: st) σ Q ↔ ab_Run X 288 250 (f, cl, sl) L (ab_I (ab_w32 (a + b)) :: st) σ Q := ab_r_iadd kc_L_law dL_law_249
theorem rL_law_250 : ab_Run X 288 250 (f, cl, sl) L (ab_I i :: ab_R a :: st) σ Q ↔ (a = -1 ∧ 0 ≤ i ∧ i < X.1) ∧ ab_Run X 288 251 (f, cl, sl) L (ab_I (X.2 i) :: st) σ Q := ab_r_ialoadX rfl kc_L_law dL_law_250
theorem rL_law_251 : ab_Run X 288 251 (f, cl, sl) [ab_R z, l1, l2, l3, l4, l5, l6] st σ Q ↔ z ≠ 0 ∧ ab_Run X 288 252 (f, cl, sl) [ab_R z, l1, l2, l3, l4, l5, l6] (ab_R z :: st) σ Q := ab_r_aload_n rfl kc_L_law dL_law_251
theorem rL_law_252 : ab_Run X 288 252 (f, cl, sl) [l0, l1, l2, l3, ab_I z, l5, l6] st σ Q ↔ ab_Run X 288 254 (f, cl, sl) [l0, l1, l2, l3, ab_I z, l5, l6] (ab_I z :: st) σ Q := ab_r_iload rfl kc_L_law dL_law_252
theorem rL_law_254 : ab_Run X 288 254 (f, cl, sl) L st σ Q ↔ ab_Run X 288 255 (f, cl, sl) L (ab_I 4 :: st) σ Q := ab_r_iconst (by decide) kc_L_law dL_law_254
theorem rL_law_255 : ab_Run X 288 255 (f, cl, sl) L (ab_I b :: ab_I a :: st) σ Q ↔ ab_Run X 288 256 (f, cl, sl) L (ab_I (ab_w32 (a + b)) :: st) σ Q := ab_r_iadd kc_L_law dL_law_255
theorem rL_law_256 : ab_Run X 288 256 (f, cl, sl) L (ab_I i :: ab_R a :: st) σ Q ↔ (a = -1 ∧ 0 ≤ i ∧ i < X.1) ∧ ab_Run X 288 257 (f, cl, sl) L (ab_I (X.2 i) :: st) σ Q := ab_r_ialoadX rfl kc_L_law dL_law_256
theorem rL_law_257 : ab_Run X 288 257 (f, cl, sl) [ab_R z, l1, l2, l3, l4, l5, l6] st σ Q ↔ z ≠ 0 ∧ ab_Run X 288 258 (f, cl, sl) [ab_R z, l1, l2, l3, l4, l5, l6] (ab_R z :: st) σ Q := ab_r_aload_n rfl kc_L_law dL_law_257
theorem rL_law_258 : ab_Run X 288 258 (f, cl, sl) [l0, l1, l2, l3, ab_I z, l5, l6] st σ Q ↔ ab_Run X 288 260 (f, cl, sl) [l0, l1, l2, l3, ab_I z, l5, l6] (ab_I z :: st) σ Q := ab_r_iload rfl kc_L_law dL_law_258
theorem rL_law_260 : ab_Run X 288 260 (f, cl, sl) L st σ Q ↔ ab_Run X 288 261 (f, cl, sl) L (ab_I 5 :: st) σ Q := ab_r_iconst (by decide) kc_L_law dL_law_260
theorem rL_law_261 : ab_Run X 288 261 (f, cl, sl) L (ab_I b :: ab_I a :: st) σ Q ↔ ab_Run X 288 262 (f, cl, sl) L (ab_I (ab_w32 (a + b)) :: st) σ Q := ab_r_iadd kc_L_law dL_law_261
theorem rL_law_262 : ab_Run X 288 262 (f, cl, sl) L (ab_I i :: ab_R a :: st) σ Q ↔ (a = -1 ∧ 0 ≤ i ∧ i < X.1) ∧ ab_Run X 288 263 (f, cl, sl) L (ab_I (X.2 i) :: st) σ Q := ab_r_ialoadX rfl kc_L_law dL_law_262
theorem rL_law_263 (h : 2 + 1 ≤ f ∧ 0 ≤ cl ∧ 0 ≤ sl) : ab_Run X 288 263 (f, cl, sl) L (ab_I x5 :: ab_I x4 :: ab_I x3 :: ab_I x2 :: ab_I x1 :: ab_R a :: st) σ Q ↔ ((ab_sh σ a).1 = 12 ∧ ab_cats st ≤ 8) ∧ ab_Do X 80 [ab_R a, ab_I x1, ab_I x2, ab_I x3, ab_I x4, ab_I x5] σ (fun r σ' => ab_Run X 288 266 (f, cl, sl) L (ab_psh r st) σ' Q) := ab_r_callV (w := [ab_I x5, ab_I x4, ab_I x3, ab_I x2, ab_I x1]) (as := [ab_I x1, ab_I x2, ab_I x3, ab_I x4, ab_I x5]) (b1 := (2, 0, 0)) 0 (Or.inl rfl) (by decide) ko_L_law qM_14_19 (by decide) rfl rfl rfl rfl rfl h (Nat.le_of_ble_eq_true rfl) kc_L_law dL_law_263
theorem rL_law_266 : ab_Run X 288 266 (f, cl, sl) [l0, l1, ab_R z, l3, l4, l5, l6] st σ Q ↔ z ≠ 0 ∧ ab_Run X 288 267 (f, cl, sl) [l0, l1, ab_R z, l3, l4, l5, l6] (ab_R z :: st) σ Q := ab_r_aload_n rfl kc_L_law dL_law_266
theorem rL_law_267 : ab_Run X 288 267 (f, cl, sl) [ab_R z, l1, l2, l3, l4, l5, l6] st σ Q ↔ z ≠ 0 ∧ ab_Run X 288 268 (f, cl, sl) [ab_R z, l1, l2, l3, l4, l5, l6] (ab_R z :: st) σ Q := ab_r_aload_n rfl kc_L_law dL_law_267
theorem rL_law_268 : ab_Run X 288 268 (f, cl, sl) [l0, l1, l2, l3, ab_I z, l5, l6] st σ Q ↔ ab_Run X 288 270 (f, cl, sl) [l0, l1, l2, l3, ab_I z, l5, l6] (ab_I z :: st) σ Q := ab_r_iload rfl kc_L_law dL_law_268
theorem rL_law_270 : ab_Run X 288 270 (f, cl, sl) L st σ Q ↔ ab_Run X 288 271 (f, cl, sl) L (ab_I 1 :: st) σ Q := ab_r_iconst (by decide) kc_L_law dL_law_270
theorem rL_law_271 : ab_Run X 288 271 (f, cl, sl) L (ab_I b :: ab_I a :: st) σ Q ↔ ab_Run X 288 272 (f, cl, sl) L (ab_I (ab_w32 (a + b)) :: st) σ Q := ab_r_iadd kc_L_law dL_law_271
theorem rL_law_272 : ab_Run X 288 272 (f, cl, sl) L (ab_I i :: ab_R a :: st) σ Q ↔ (a = -1 ∧ 0 ≤ i ∧ i < X.1) ∧ ab_Run X 288 273 (f, cl, sl) L (ab_I (X.2 i) :: st) σ Q := ab_r_ialoadX rfl kc_L_law dL_law_272
theorem rL_law_273 : ab_Run X 288 273 (f, cl, sl) [ab_R z, l1, l2, l3, l4, l5, l6] st σ Q ↔ z ≠ 0 ∧ ab_Run X 288 274 (f, cl, sl) [ab_R z, l1, l2, l3, l4, l5, l6] (ab_R z :: st) σ Q := ab_r_aload_n rfl kc_L_law dL_law_273
theorem rL_law_274 : ab_Run X 288 274 (f, cl, sl) [l0, l1, l2, l3, ab_I z, l5, l6] st σ Q ↔ ab_Run X 288 276 (f, cl, sl) [l0, l1, l2, l3, ab_I z, l5, l6] (ab_I z :: st) σ Q := ab_r_iload rfl kc_L_law dL_law_274
theorem rL_law_276 : ab_Run X 288 276 (f, cl, sl) L st σ Q ↔ ab_Run X 288 277 (f, cl, sl) L (ab_I 2 :: st) σ Q := ab_r_iconst (by decide) kc_L_law dL_law_276
theorem rL_law_277 : ab_Run X 288 277 (f, cl, sl) L (ab_I b :: ab_I a :: st) σ Q ↔ ab_Run X 288 278 (f, cl, sl) L (ab_I (ab_w32 (a + b)) :: st) σ Q := ab_r_iadd kc_L_law dL_law_277
theorem rL_law_278 : ab_Run X 288 278 (f, cl, sl) L (ab_I i :: ab_R a :: st) σ Q ↔ (a = -1 ∧ 0 ≤ i ∧ i < X.1) ∧ ab_Run X 288 279 (f, cl, sl) L (ab_I (X.2 i) :: st) σ Q := ab_r_ialoadX rfl kc_L_law dL_law_278
theorem rL_law_279 : ab_Run X 288 279 (f, cl, sl) [ab_R z, l1, l2, l3, l4, l5, l6] st σ Q ↔ z ≠ 0 ∧ ab_Run X 288 280 (f, cl, sl) [ab_R z, l1, l2, l3, l4, l5, l6] (ab_R z :: st) σ Q := ab_r_aload_n rfl kc_L_law dL_law_279
theorem rL_law_280 : ab_Run X 288 280 (f, cl, sl) [l0, l1, l2, l3, ab_I z, l5, l6] st σ Q ↔ ab_Run X 288 282 (f, cl, sl) [l0, l1, l2, l3, ab_I z, l5, l6] (ab_I z :: st) σ Q := ab_r_iload rfl kc_L_law dL_law_280
theorem rL_law_282 : ab_Run X 288 282 (f, cl, sl) L st σ Q ↔ ab_Run X 288 283 (f, cl, sl) L (ab_I 3 :: st) σ Q := ab_r_iconst (by decide) kc_L_law dL_law_282
theorem rL_law_283 : ab_Run X 288 283 (f, cl, sl) L (ab_I b :: ab_I a :: st) σ Q ↔ ab_Run X 288 284 (f, cl, sl) L (ab_I (ab_w32 (a + b)) :: st) σ Q := ab_r_iadd kc_L_law dL_law_283
theorem rL_law_284 : ab_Run X 288 284 (f, cl, sl) L (ab_I i :: ab_R a :: st) σ Q ↔ (a = -1 ∧ 0 ≤ i ∧ i < X.1) ∧ ab_Run X 288 285 (f, cl, sl) L (ab_I (X.2 i) :: st) σ Q := ab_r_ialoadX rfl kc_L_law dL_law_284
theorem rL_law_285 : ab_Run X 288 285 (f, cl, sl) [ab_R z, l1, l2, l3, l4, l5, l6] st σ Q ↔ z ≠ 0 ∧ ab_Run X 288 286 (f, cl, sl) [ab_R z, l1, l2, l3, l4, l5, l6] (ab_R z :: st) σ Q := ab_r_aload_n rfl kc_L_law dL_law_285
theorem rL_law_286 : ab_Run X 288 286 (f, cl, sl) [l0, l1, l2, l3, ab_I z, l5, l6] st σ Q ↔ ab_Run X 288 288 (f, cl, sl) [l0, l1, l2, l3, ab_I z, l5, l6] (ab_I z :: st) σ Q := ab_r_iload rfl kc_L_law dL_law_286
theorem rL_law_288 : ab_Run X 288 288 (f, cl, sl) L st σ Q ↔ ab_Run X 288 289 (f, cl, sl) L (ab_I 4 :: st) σ Q := ab_r_iconst (by decide) kc_L_law dL_law_288
theorem rL_law_289 : ab_Run X 288 289 (f, cl, sl) L (ab_I b :: ab_I a :: st) σ Q ↔ ab_Run X 288 290 (f, cl, sl) L (ab_I (ab_w32 (a + b)) :: st) σ Q := ab_r_iadd kc_L_law dL_law_289
theorem rL_law_290 : ab_Run X 288 290 (f, cl, sl) L (ab_I i :: ab_R a :: st) σ Q ↔ (a = -1 ∧ 0 ≤ i ∧ i < X.1) ∧ ab_Run X 288 291 (f, cl, sl) L (ab_I (X.2 i) :: st) σ Q := ab_r_ialoadX rfl kc_L_law dL_law_290
theorem rL_law_291 : ab_Run X 288 291 (f, cl, sl) [ab_R z, l1, l2, l3, l4, l5, l6] st σ Q ↔ z ≠ 0 ∧ ab_Run X 288 292 (f, cl, sl) [ab_R z, l1, l2, l3, l4, l5, l6] (ab_R z :: st) σ Q := ab_r_aload_n rfl kc_L_law dL_law_291
theorem rL_law_292 : ab_Run X 288 292 (f, cl, sl) [l0, l1, l2, l3, ab_I z, l5, l6] st σ Q ↔ ab_Run X 288 294 (f, cl, sl) [l0, l1, l2, l3, ab_I z, l5, l6] (ab_I z :: st) σ Q := ab_r_iload rfl kc_L_law dL_law_292
theorem rL_law_294 : ab_Run X 288 294 (f, cl, sl) L st σ Q ↔ ab_Run X 288 295 (f, cl, sl) L (ab_I 5 :: st) σ Q := ab_r_iconst (by decide) kc_L_law dL_law_294
theorem rL_law_295 : ab_Run X 288 295 (f, cl, sl) L (ab_I b :: ab_I a :: st) σ Q ↔ ab_Run X 288 296 (f, cl, sl) L (ab_I (ab_w32 (a + b)) :: st) σ Q := ab_r_iadd kc_L_law dL_law_295
theorem rL_law_296 : ab_Run X 288 296 (f, cl, sl) L (ab_I i :: ab_R a :: st) σ Q ↔ (a = -1 ∧ 0 ≤ i ∧ i < X.1) ∧ ab_Run X 288 297 (f, cl, sl) L (ab_I (X.2 i) :: st) σ Q := ab_r_ialoadX rfl kc_L_law dL_law_296
theorem rL_law_297 (h : 0 + 1 ≤ f ∧ 0 ≤ cl ∧ 0 ≤ sl) : ab_Run X 288 297 (f, cl, sl) L (ab_I x5 :: ab_I x4 :: ab_I x3 :: ab_I x2 :: ab_I x1 :: ab_R a :: st) σ Q ↔ ((ab_sh σ a).1 = 14 ∧ ab_cats st ≤ 8) ∧ ab_Do X 197 [ab_R a, ab_I x1, ab_I x2, ab_I x3, ab_I x4, ab_I x5] σ (fun r σ' => ab_Run X 288 300 (f, cl, sl) L (ab_psh r st) σ' Q) := ab_r_callV (w := [ab_I x5, ab_I x4, ab_I x3, ab_I x2, ab_I x1]) (as := [ab_I x1, ab_I x2, ab_I x3, ab_I x4, ab_I x5]) (b1 := (0, 0, 0)) 0 (Or.inl rfl) (by decide) ko_L_law qM_14_23 (by decide) rfl rfl rfl rfl rfl h (Nat.le_of_ble_eq_true rfl) kc_L_law dL_law_297
theorem rL_law_300 : ab_Run X 288 300 (f, cl, sl) L (ab_I b :: ab_I a :: st) σ Q ↔ (a = b → ab_Run X 288 2374 (f, cl, sl) L st σ Q) ∧ (¬ (a = b) → ab_Run X 288 303 (f, cl, sl) L st σ Q) := ab_r_icmp_eq rfl kc_L_law dL_law_300
theorem rL_law_303 : ab_Run X 288 303 (f, cl, sl) L st σ Q ↔ ab_Run X 288 304 (f, cl, sl) L (ab_I 0 :: st) σ Q := ab_r_iconst (by decide) kc_L_law dL_law_303
theorem rL_law_304 : ab_Run X 288 304 (f, cl, sl) L [ab_I v] σ Q ↔ (v = 0 ∨ v = 1) ∧ Q (some (ab_I v)) σ := ab_r_ireturnZ rfl kc_L_law dL_law_304
theorem rL_law_305 : ab_Run X 288 305 (f, cl, sl) [l0, ab_R z, l2, l3, l4, l5, l6] st σ Q ↔ z ≠ 0 ∧ ab_Run X 288 306 (f, cl, sl) [l0, ab_R z, l2, l3, l4, l5, l6] (ab_R z :: st) σ Q := ab_r_aload_n rfl kc_L_law dL_law_305
theorem rL_law_306 : ab_Run X 288 306 (f, cl, sl) [ab_R z, l1, l2, l3, l4, l5, l6] st σ Q ↔ z ≠ 0 ∧ ab_Run X 288 307 (f, cl, sl) [ab_R z, l1, l2, l3, l4, l5, l6] (ab_R z :: st) σ Q := ab_r_aload_n rfl kc_L_law dL_law_306
theorem rL_law_307 : ab_Run X 288 307 (f, cl, sl) [l0, l1, l2, l3, ab_I z, l5, l6] st σ Q ↔ ab_Run X 288 309 (f, cl, sl) [l0, l1, l2, l3, ab_I z, l5, l6] (ab_I z :: st) σ Q := ab_r_iload rfl kc_L_law dL_law_307
theorem rL_law_309 : ab_Run X 288 309 (f, cl, sl) L st σ Q ↔ ab_Run X 288 310 (f, cl, sl) L (ab_I 1 :: st) σ Q := ab_r_iconst (by decide) kc_L_law dL_law_309
theorem rL_law_310 : ab_Run X 288 310 (f, cl, sl) L (ab_I b :: ab_I a :: st) σ Q ↔ ab_Run X 288 311 (f, cl, sl) L (ab_I (ab_w32 (a + b)) :: st) σ Q := ab_r_iadd kc_L_law dL_law_310
theorem rL_law_311 : ab_Run X 288 311 (f, cl, sl) L (ab_I i :: ab_R a :: st) σ Q ↔ (a = -1 ∧ 0 ≤ i ∧ i < X.1) ∧ ab_Run X 288 312 (f, cl, sl) L (ab_I (X.2 i) :: st) σ Q := ab_r_ialoadX rfl kc_L_law dL_law_311
theorem rL_law_312 (h : 16 + 1 ≤ f ∧ 0 ≤ cl ∧ 0 ≤ sl) : ab_Run X 288 312 (f, cl, sl) L (ab_I x1 :: ab_R a :: st) σ Q ↔ ((ab_sh σ a).1 = 12 ∧ ab_cats st ≤ 8) ∧ ab_Do X 81 [ab_R a, ab_I x1] σ (fun r σ' => ab_Run X 288 315 (f, cl, sl) L (ab_psh r st) σ' Q) := ab_r_callV (w := [ab_I x1]) (as := [ab_I x1]) (b1 := (16, 0, 0)) 0 (Or.inl rfl) (by decide) ko_L_law qM_14_24 (by decide) rfl rfl rfl rfl rfl h (Nat.le_of_ble_eq_true rfl) kc_L_law dL_law_312
theorem rL_law_315 : ab_Run X 288 315 (f, cl, sl) [l0, l1, ab_R z, l3, l4, l5, l6] st σ Q ↔ z ≠ 0 ∧ ab_Run X 288 316 (f, cl, sl) [l0, l1, ab_R z, l3, l4, l5, l6] (ab_R z :: st) σ Q := ab_r_aload_n rfl kc_L_law dL_law_315
theorem rL_law_316 : ab_Run X 288 316 (f, cl, sl) [ab_R z, l1, l2, l3, l4, l5, l6] st σ Q ↔ z ≠ 0 ∧ ab_Run X 288 317 (f, cl, sl) [ab_R z, l1, l2, l3, l4, l5, l6] (ab_R z :: st) σ Q := ab_r_aload_n rfl kc_L_law dL_law_316
theorem rL_law_317 : ab_Run X 288 317 (f, cl, sl) [l0, l1, l2, l3, ab_I z, l5, l6] st σ Q ↔ ab_Run X 288 319 (f, cl, sl) [l0, l1, l2, l3, ab_I z, l5, l6] (ab_I z :: st) σ Q := ab_r_iload rfl kc_L_law dL_law_317
theorem rL_law_319 : ab_Run X 288 319 (f, cl, sl) L st σ Q ↔ ab_Run X 288 320 (f, cl, sl) L (ab_I 1 :: st) σ Q := ab_r_iconst (by decide) kc_L_law dL_law_319
theorem rL_law_320 : ab_Run X 288 320 (f, cl, sl) L (ab_I b :: ab_I a :: st) σ Q ↔ ab_Run X 288 321 (f, cl, sl) L (ab_I (ab_w32 (a + b)) :: st) σ Q := ab_r_iadd kc_L_law dL_law_320
theorem rL_law_321 : ab_Run X 288 321 (f, cl, sl) L (ab_I i :: ab_R a :: st) σ Q ↔ (a = -1 ∧ 0 ≤ i ∧ i < X.1) ∧ ab_Run X 288 322 (f, cl, sl) L (ab_I (X.2 i) :: st) σ Q := ab_r_ialoadX rfl kc_L_law dL_law_321
theorem rL_law_322 (h : 18 + 1 ≤ f ∧ 22 ≤ cl ∧ 244 ≤ sl) : ab_Run X 288 322 (f, cl, sl) L (ab_I x1 :: ab_R a :: st) σ Q ↔ ((ab_sh σ a).1 = 14 ∧ ab_cats st ≤ 8) ∧ ab_Do X 198 [ab_R a, ab_I x1] σ (fun r σ' => ab_Run X 288 325 (f, cl - 22, sl - 244) L (ab_psh r st) σ' Q) := ab_r_callV (w := [ab_I x1]) (as := [ab_I x1]) (b1 := (18, 22, 244)) 0 (Or.inl rfl) (by decide) ko_L_law qM_14_27 (by decide) rfl rfl rfl rfl rfl h (Nat.le_of_ble_eq_true rfl) kc_L_law dL_law_322
theorem rL_law_325 : ab_Run X 288 325 (f, cl, sl) L (ab_I b :: ab_I a :: st) σ Q ↔ (a = b → ab_Run X 288 2374 (f, cl, sl) L st σ Q) ∧ (¬ (a = b) → ab_Run X 288 328 (f, cl, sl) L st σ Q) := ab_r_icmp_eq rfl kc_L_law dL_law_325
theorem rL_law_328 : ab_Run X 288 328 (f, cl, sl) L st σ Q ↔ ab_Run X 288 329 (f, cl, sl) L (ab_I 0 :: st) σ Q := ab_r_iconst (by decide) kc_L_law dL_law_328
theorem rL_law_329 : ab_Run X 288 329 (f, cl, sl) L [ab_I v] σ Q ↔ (v = 0 ∨ v = 1) ∧ Q (some (ab_I v)) σ := ab_r_ireturnZ rfl kc_L_law dL_law_329
theorem rL_law_330 : ab_Run X 288 330 (f, cl, sl) [l0, ab_R z, l2, l3, l4, l5, l6] st σ Q ↔ z ≠ 0 ∧ ab_Run X 288 331 (f, cl, sl) [l0, ab_R z, l2, l3, l4, l5, l6] (ab_R z :: st) σ Q := ab_r_aload_n rfl kc_L_law dL_law_330
theorem rL_law_331 (h : 0 + 1 ≤ f ∧ 0 ≤ cl ∧ 0 ≤ sl) : ab_Run X 288 331 (f, cl, sl) L (ab_R a :: st) σ Q ↔ ((ab_sh σ a).1 = 12 ∧ ab_cats st ≤ 8) ∧ ab_Do X 82 [ab_R a] σ (fun r σ' => ab_Run X 288 334 (f, cl, sl) L (ab_psh r st) σ' Q) := ab_r_callV (w := []) (as := []) (b1 := (0, 0, 0)) 0 (Or.inl rfl) (by decide) ko_L_law qM_14_28 (by decide) rfl rfl rfl rfl rfl h (Nat.le_of_ble_eq_true rfl) kc_L_law dL_law_331
theorem rL_law_334 : ab_Run X 288 334 (f, cl, sl) [l0, l1, ab_R z, l3, l4, l5, l6] st σ Q ↔ z ≠ 0 ∧ ab_Run X 288 335 (f, cl, sl) [l0, l1, ab_R z, l3, l4, l5, l6] (ab_R z :: st) σ Q := ab_r_aload_n rfl kc_L_law dL_law_334
theorem rL_law_335 (h : 0 + 1 ≤ f ∧ 0 ≤ cl ∧ 0 ≤ sl) : ab_Run X 288 335 (f, cl, sl) L (ab_R a :: st) σ Q ↔ ((ab_sh σ a).1 = 14 ∧ ab_cats st ≤ 8) ∧ ab_Do X 199 [ab_R a] σ (fun r σ' => ab_Run X 288 338 (f, cl, sl) L (ab_psh r st) σ' Q) := ab_r_callV (w := []) (as := []) (b1 := (0, 0, 0)) 0 (Or.inl rfl) (by decide) ko_L_law qM_14_32 (by decide) rfl rfl rfl rfl rfl h (Nat.le_of_ble_eq_true rfl) kc_L_law dL_law_335
theorem rL_law_338 : ab_Run X 288 338 (f, cl, sl) L (ab_I b :: ab_I a :: st) σ Q ↔ (a = b → ab_Run X 288 2374 (f, cl, sl) L st σ Q) ∧ (¬ (a = b) → ab_Run X 288 341 (f, cl, sl) L st σ Q) := ab_r_icmp_eq rfl kc_L_law dL_law_338
theorem rL_law_341 : ab_Run X 288 341 (f, cl, sl) L st σ Q ↔ ab_Run X 288 342 (f, cl, sl) L (ab_I 0 :: st) σ Q := ab_r_iconst (by decide) kc_L_law dL_law_341
theorem rL_law_342 : ab_Run X 288 342 (f, cl, sl) L [ab_I v] σ Q ↔ (v = 0 ∨ v = 1) ∧ Q (some (ab_I v)) σ := ab_r_ireturnZ rfl kc_L_law dL_law_342
theorem rL_law_343 : ab_Run X 288 343 (f, cl, sl) [l0, ab_R z, l2, l3, l4, l5, l6] st σ Q ↔ z ≠ 0 ∧ ab_Run X 288 344 (f, cl, sl) [l0, ab_R z, l2, l3, l4, l5, l6] (ab_R z :: st) σ Q := ab_r_aload_n rfl kc_L_law dL_law_343
theorem rL_law_344 (h : 0 + 1 ≤ f ∧ 0 ≤ cl ∧ 0 ≤ sl) : ab_Run X 288 344 (f, cl, sl) L (ab_R a :: st) σ Q ↔ ((ab_sh σ a).1 = 12 ∧ ab_cats st ≤ 8) ∧ ab_Do X 83 [ab_R a] σ (fun r σ' => ab_Run X 288 347 (f, cl, sl) L (ab_psh r st) σ' Q) := ab_r_callV (w := []) (as := []) (b1 := (0, 0, 0)) 0 (Or.inl rfl) (by decide) ko_L_law qM_14_33 (by decide) rfl rfl rfl rfl rfl h (Nat.le_of_ble_eq_true rfl) kc_L_law dL_law_344
theorem rL_law_347 : ab_Run X 288 347 (f, cl, sl) [l0, l1, ab_R z, l3, l4, l5, l6] st σ Q ↔ z ≠ 0 ∧ ab_Run X 288 348 (f, cl, sl) [l0, l1, ab_R z, l3, l4, l5, l6] (ab_R z :: st) σ Q := ab_r_aload_n rfl kc_L_law dL_law_347
theorem rL_law_348 (h : 0 + 1 ≤ f ∧ 0 ≤ cl ∧ 0 ≤ sl) : ab_Run X 288 348 (f, cl, sl) L (ab_R a :: st) σ Q ↔ ((ab_sh σ a).1 = 14 ∧ ab_cats st ≤ 8) ∧ ab_Do X 200 [ab_R a] σ (fun r σ' => ab_Run X 288 351 (f, cl, sl) L (ab_psh r st) σ' Q) := ab_r_callV (w := []) (as := []) (b1 := (0, 0, 0)) 0 (Or.inl rfl) (by decide) ko_L_law qM_14_36 (by decide) rfl rfl rfl rfl rfl h (Nat.le_of_ble_eq_true rfl) kc_L_law dL_law_348
theorem rL_law_351 : ab_Run X 288 351 (f, cl, sl) L (ab_I b :: ab_I a :: st) σ Q ↔ (a = b → ab_Run X 288 2374 (f, cl, sl) L st σ Q) ∧ (¬ (a = b) → ab_Run X 288 354 (f, cl, sl) L st σ Q) := ab_r_icmp_eq rfl kc_L_law dL_law_351
theorem rL_law_354 : ab_Run X 288 354 (f, cl, sl) L st σ Q ↔ ab_Run X 288 355 (f, cl, sl) L (ab_I 0 :: st) σ Q := ab_r_iconst (by decide) kc_L_law dL_law_354
theorem rL_law_355 : ab_Run X 288 355 (f, cl, sl) L [ab_I v] σ Q ↔ (v = 0 ∨ v = 1) ∧ Q (some (ab_I v)) σ := ab_r_ireturnZ rfl kc_L_law dL_law_355
theorem rL_law_356 : ab_Run X 288 356 (f, cl, sl) [l0, ab_R z, l2, l3, l4, l5, l6] st σ Q ↔ z ≠ 0 ∧ ab_Run X 288 357 (f, cl, sl) [l0, ab_R z, l2, l3, l4, l5, l6] (ab_R z :: st) σ Q := ab_r_aload_n rfl kc_L_law dL_law_356
theorem rL_law_357 : ab_Run X 288 357 (f, cl, sl) [ab_R z, l1, l2, l3, l4, l5, l6] st σ Q ↔ z ≠ 0 ∧ ab_Run X 288 358 (f, cl, sl) [ab_R z, l1, l2, l3, l4, l5, l6] (ab_R z :: st) σ Q := ab_r_aload_n rfl kc_L_law dL_law_357
theorem rL_law_358 : ab_Run X 288 358 (f, cl, sl) [l0, l1, l2, l3, ab_I z, l5, l6] st σ Q ↔ ab_Run X 288 360 (f, cl, sl) [l0, l1, l2, l3, ab_I z, l5, l6] (ab_I z :: st) σ Q := ab_r_iload rfl kc_L_law dL_law_358
theorem rL_law_360 : ab_Run X 288 360 (f, cl, sl) L st σ Q ↔ ab_Run X 288 361 (f, cl, sl) L (ab_I 1 :: st) σ Q := ab_r_iconst (by decide) kc_L_law dL_law_360
theorem rL_law_361 : ab_Run X 288 361 (f, cl, sl) L (ab_I b :: ab_I a :: st) σ Q ↔ ab_Run X 288 362 (f, cl, sl) L (ab_I (ab_w32 (a + b)) :: st) σ Q := ab_r_iadd kc_L_law dL_law_361
theorem rL_law_362 : ab_Run X 288 362 (f, cl, sl) L (ab_I i :: ab_R a :: st) σ Q ↔ (a = -1 ∧ 0 ≤ i ∧ i < X.1) ∧ ab_Run X 288 363 (f, cl, sl) L (ab_I (X.2 i) :: st) σ Q := ab_r_ialoadX rfl kc_L_law dL_law_362
theorem rL_law_363 : ab_Run X 288 363 (f, cl, sl) [ab_R z, l1, l2, l3, l4, l5, l6] st σ Q ↔ z ≠ 0 ∧ ab_Run X 288 364 (f, cl, sl) [ab_R z, l1, l2, l3, l4, l5, l6] (ab_R z :: st) σ Q := ab_r_aload_n rfl kc_L_law dL_law_363
theorem rL_law_364 : ab_Run X 288 364 (f, cl, sl) [l0, l1, l2, l3, ab_I z, l5, l6] st σ Q ↔ ab_Run X 288 366 (f, cl, sl) [l0, l1, l2, l3, ab_I z, l5, l6] (ab_I z :: st) σ Q := ab_r_iload rfl kc_L_law dL_law_364
theorem rL_law_366 : ab_Run X 288 366 (f, cl, sl) L st σ Q ↔ ab_Run X 288 367 (f, cl, sl) L (ab_I 2 :: st) σ Q := ab_r_iconst (by decide) kc_L_law dL_law_366
theorem rL_law_367 : ab_Run X 288 367 (f, cl, sl) L (ab_I b :: ab_I a :: st) σ Q ↔ ab_Run X 288 368 (f, cl, sl) L (ab_I (ab_w32 (a + b)) :: st) σ Q := ab_r_iadd kc_L_law dL_law_367
theorem rL_law_368 : ab_Run X 288 368 (f, cl, sl) L (ab_I i :: ab_R a :: st) σ Q ↔ (a = -1 ∧ 0 ≤ i ∧ i < X.1) ∧ ab_Run X 288 369 (f, cl, sl) L (ab_I (X.2 i) :: st) σ Q := ab_r_ialoadX rfl kc_L_law dL_law_368
theorem rL_law_369 (h : 1 + 1 ≤ f ∧ 0 ≤ cl ∧ 0 ≤ sl) : ab_Run X 288 369 (f, cl, sl) L (ab_I x2 :: ab_I x1 :: ab_R a :: st) σ Q ↔ ((ab_sh σ a).1 = 12 ∧ ab_cats st ≤ 8) ∧ ab_Do X 84 [ab_R a, ab_I x1, ab_I x2] σ (fun r σ' => ab_Run X 288 372 (f, cl, sl) L (ab_psh r st) σ' Q) := ab_r_callV (w := [ab_I x2, ab_I x1]) (as := [ab_I x1, ab_I x2]) (b1 := (1, 0, 0)) 0 (Or.inl rfl) (by decide) ko_L_law qM_14_37 (by decide) rfl rfl rfl rfl rfl h (Nat.le_of_ble_eq_true rfl) kc_L_law dL_law_369
theorem rL_law_372 : ab_Run X 288 372 (f, cl, sl) [l0, l1, ab_R z, l3, l4, l5, l6] st σ Q ↔ z ≠ 0 ∧ ab_Run X 288 373 (f, cl, sl) [l0, l1, ab_R z, l3, l4, l5, l6] (ab_R z :: st) σ Q := ab_r_aload_n rfl kc_L_law dL_law_372
theorem rL_law_373 : ab_Run X 288 373 (f, cl, sl) [ab_R z, l1, l2, l3, l4, l5, l6] st σ Q ↔ z ≠ 0 ∧ ab_Run X 288 374 (f, cl, sl) [ab_R z, l1, l2, l3, l4, l5, l6] (ab_R z :: st) σ Q := ab_r_aload_n rfl kc_L_law dL_law_373
theorem rL_law_374 : ab_Run X 288 374 (f, cl, sl) [l0, l1, l2, l3, ab_I z, l5, l6] st σ Q ↔ ab_Run X 288 376 (f, cl, sl) [l0, l1, l2, l3, ab_I z, l5, l6] (ab_I z :: st) σ Q := ab_r_iload rfl kc_L_law dL_law_374
theorem rL_law_376 : ab_Run X 288 376 (f, cl, sl) L st σ Q ↔ ab_Run X 288 377 (f, cl, sl) L (ab_I 1 :: st) σ Q := ab_r_iconst (by decide) kc_L_law dL_law_376
theorem rL_law_377 : ab_Run X 288 377 (f, cl, sl) L (ab_I b :: ab_I a :: st) σ Q ↔ ab_Run X 288 378 (f, cl, sl) L (ab_I (ab_w32 (a + b)) :: st) σ Q := ab_r_iadd kc_L_law dL_law_377
theorem rL_law_378 : ab_Run X 288 378 (f, cl, sl) L (ab_I i :: ab_R a :: st) σ Q ↔ (a = -1 ∧ 0 ≤ i ∧ i < X.1) ∧ ab_Run X 288 379 (f, cl, sl) L (ab_I (X.2 i) :: st) σ Q := ab_r_ialoadX rfl kc_L_law dL_law_378
theorem rL_law_379 : ab_Run X 288 379 (f, cl, sl) [ab_R z, l1, l2, l3, l4, l5, l6] st σ Q ↔ z ≠ 0 ∧ ab_Run X 288 380 (f, cl, sl) [ab_R z, l1, l2, l3, l4, l5, l6] (ab_R z :: st) σ Q := ab_r_aload_n rfl kc_L_law dL_law_379
theorem rL_law_380 : ab_Run X 288 380 (f, cl, sl) [l0, l1, l2, l3, ab_I z, l5, l6] st σ Q ↔ ab_Run X 288 382 (f, cl, sl) [l0, l1, l2, l3, ab_I z, l5, l6] (ab_I z :: st) σ Q := ab_r_iload rfl kc_L_law dL_law_380
theorem rL_law_382 : ab_Run X 288 382 (f, cl, sl) L st σ Q ↔ ab_Run X 288 383 (f, cl, sl) L (ab_I 2 :: st) σ Q := ab_r_iconst (by decide) kc_L_law dL_law_382
theorem rL_law_383 : ab_Run X 288 383 (f, cl, sl) L (ab_I b :: ab_I a :: st) σ Q ↔ ab_Run X 288 384 (f, cl, sl) L (ab_I (ab_w32 (a + b)) :: st) σ Q := ab_r_iadd kc_L_law dL_law_383
theorem rL_law_384 : ab_Run X 288 384 (f, cl, sl) L (ab_I i :: ab_R a :: st) σ Q ↔ (a = -1 ∧ 0 ≤ i ∧ i < X.1) ∧ ab_Run X 288 385 (f, cl, sl) L (ab_I (X.2 i) :: st) σ Q := ab_r_ialoadX rfl kc_L_law dL_law_384
theorem rL_law_385 (h : 1 + 1 ≤ f ∧ 0 ≤ cl ∧ 0 ≤ sl) : ab_Run X 288 385 (f, cl, sl) L (ab_I x2 :: ab_I x1 :: ab_R a :: st) σ Q ↔ ((ab_sh σ a).1 = 14 ∧ ab_cats st ≤ 8) ∧ ab_Do X 217 [ab_R a, ab_I x1, ab_I x2] σ (fun r σ' => ab_Run X 288 388 (f, cl, sl) L (ab_psh r st) σ' Q) := ab_r_callV (w := [ab_I x2, ab_I x1]) (as := [ab_I x1, ab_I x2]) (b1 := (1, 0, 0)) 0 (Or.inl rfl) (by decide) ko_L_law qM_14_41 (by decide) rfl rfl rfl rfl rfl h (Nat.le_of_ble_eq_true rfl) kc_L_law dL_law_385
theorem rL_law_388 : ab_Run X 288 388 (f, cl, sl) L (ab_I b :: ab_I a :: st) σ Q ↔ (a = b → ab_Run X 288 2374 (f, cl, sl) L st σ Q) ∧ (¬ (a = b) → ab_Run X 288 391 (f, cl, sl) L st σ Q) := ab_r_icmp_eq rfl kc_L_law dL_law_388
theorem rL_law_391 : ab_Run X 288 391 (f, cl, sl) L st σ Q ↔ ab_Run X 288 392 (f, cl, sl) L (ab_I 0 :: st) σ Q := ab_r_iconst (by decide) kc_L_law dL_law_391
theorem rL_law_392 : ab_Run X 288 392 (f, cl, sl) L [ab_I v] σ Q ↔ (v = 0 ∨ v = 1) ∧ Q (some (ab_I v)) σ := ab_r_ireturnZ rfl kc_L_law dL_law_392
theorem rL_law_393 : ab_Run X 288 393 (f, cl, sl) [l0, ab_R z, l2, l3, l4, l5, l6] st σ Q ↔ z ≠ 0 ∧ ab_Run X 288 394 (f, cl, sl) [l0, ab_R z, l2, l3, l4, l5, l6] (ab_R z :: st) σ Q := ab_r_aload_n rfl kc_L_law dL_law_393
theorem rL_law_394 : ab_Run X 288 394 (f, cl, sl) [ab_R z, l1, l2, l3, l4, l5, l6] st σ Q ↔ z ≠ 0 ∧ ab_Run X 288 395 (f, cl, sl) [ab_R z, l1, l2, l3, l4, l5, l6] (ab_R z :: st) σ Q := ab_r_aload_n rfl kc_L_law dL_law_394
theorem rL_law_395 : ab_Run X 288 395 (f, cl, sl) [l0, l1, l2, l3, ab_I z, l5, l6] st σ Q ↔ ab_Run X 288 397 (f, cl, sl) [l0, l1, l2, l3, ab_I z, l5, l6] (ab_I z :: st) σ Q := ab_r_iload rfl kc_L_law dL_law_395
theorem rL_law_397 : ab_Run X 288 397 (f, cl, sl) L st σ Q ↔ ab_Run X 288 398 (f, cl, sl) L (ab_I 1 :: st) σ Q := ab_r_iconst (by decide) kc_L_law dL_law_397
theorem rL_law_398 : ab_Run X 288 398 (f, cl, sl) L (ab_I b :: ab_I a :: st) σ Q ↔ ab_Run X 288 399 (f, cl, sl) L (ab_I (ab_w32 (a + b)) :: st) σ Q := ab_r_iadd kc_L_law dL_law_398
theorem rL_law_399 : ab_Run X 288 399 (f, cl, sl) L (ab_I i :: ab_R a :: st) σ Q ↔ (a = -1 ∧ 0 ≤ i ∧ i < X.1) ∧ ab_Run X 288 400 (f, cl, sl) L (ab_I (X.2 i) :: st) σ Q := ab_r_ialoadX rfl kc_L_law dL_law_399
theorem rL_law_400 : ab_Run X 288 400 (f, cl, sl) [ab_R z, l1, l2, l3, l4, l5, l6] st σ Q ↔ z ≠ 0 ∧ ab_Run X 288 401 (f, cl, sl) [ab_R z, l1, l2, l3, l4, l5, l6] (ab_R z :: st) σ Q := ab_r_aload_n rfl kc_L_law dL_law_400
theorem rL_law_401 : ab_Run X 288 401 (f, cl, sl) [l0, l1, l2, l3, ab_I z, l5, l6] st σ Q ↔ ab_Run X 288 403 (f, cl, sl) [l0, l1, l2, l3, ab_I z, l5, l6] (ab_I z :: st) σ Q := ab_r_iload rfl kc_L_law dL_law_401
theorem rL_law_403 : ab_Run X 288 403 (f, cl, sl) L st σ Q ↔ ab_Run X 288 404 (f, cl, sl) L (ab_I 2 :: st) σ Q := ab_r_iconst (by decide) kc_L_law dL_law_403
theorem rL_law_404 : ab_Run X 288 404 (f, cl, sl) L (ab_I b :: ab_I a :: st) σ Q ↔ ab_Run X 288 405 (f, cl, sl) L (ab_I (ab_w32 (a + b)) :: st) σ Q := ab_r_iadd kc_L_law dL_law_404
theorem rL_law_405 : ab_Run X 288 405 (f, cl, sl) L (ab_I i :: ab_R a :: st) σ Q ↔ (a = -1 ∧ 0 ≤ i ∧ i < X.1) ∧ ab_Run X 288 406 (f, cl, sl) L (ab_I (X.2 i) :: st) σ Q := ab_r_ialoadX rfl kc_L_law dL_law_405
theorem rL_law_406 : ab_Run X 288 406 (f, cl, sl) [ab_R z, l1, l2, l3, l4, l5, l6] st σ Q ↔ z ≠ 0 ∧ ab_Run X 288 407 (f, cl, sl) [ab_R z, l1, l2, l3, l4, l5, l6] (ab_R z :: st) σ Q := ab_r_aload_n rfl kc_L_law dL_law_406
theorem rL_law_407 : ab_Run X 288 407 (f, cl, sl) [l0, l1, l2, l3, ab_I z, l5, l6] st σ Q ↔ ab_Run X 288 409 (f, cl, sl) [l0, l1, l2, l3, ab_I z, l5, l6] (ab_I z :: st) σ Q := ab_r_iload rfl kc_L_law dL_law_407
theorem rL_law_409 : ab_Run X 288 409 (f, cl, sl) L st σ Q ↔ ab_Run X 288 410 (f, cl, sl) L (ab_I 3 :: st) σ Q := ab_r_iconst (by decide) kc_L_law dL_law_409
theorem rL_law_410 : ab_Run X 288 410 (f, cl, sl) L (ab_I b :: ab_I a :: st) σ Q ↔ ab_Run X 288 411 (f, cl, sl) L (ab_I (ab_w32 (a + b)) :: st) σ Q := ab_r_iadd kc_L_law dL_law_410
theorem rL_law_411 : ab_Run X 288 411 (f, cl, sl) L (ab_I i :: ab_R a :: st) σ Q ↔ (a = -1 ∧ 0 ≤ i ∧ i < X.1) ∧ ab_Run X 288 412 (f, cl, sl) L (ab_I (X.2 i) :: st) σ Q := ab_r_ialoadX rfl kc_L_law dL_law_411
theorem rL_law_412 (h : 2 + 1 ≤ f ∧ 0 ≤ cl ∧ 0 ≤ sl) : ab_Run X 288 412 (f, cl, sl) L (ab_I x3 :: ab_I x2 :: ab_I x1 :: ab_R a :: st) σ Q ↔ ((ab_sh σ a).1 = 12 ∧ ab_cats st ≤ 8) ∧ ab_Do X 85 [ab_R a, ab_I x1, ab_I x2, ab_I x3] σ (fun r σ' => ab_Run X 288 415 (f, cl, sl) L (ab_psh r st) σ' Q) := ab_r_callV (w := [ab_I x3, ab_I x2, ab_I x1]) (as := [ab_I x1, ab_I x2, ab_I x3]) (b1 := (2, 0, 0)) 0 (Or.inl rfl) (by decide) ko_L_law qM_14_42 (by decide) rfl rfl rfl rfl rfl h (Nat.le_of_ble_eq_true rfl) kc_L_law dL_law_412
theorem rL_law_415 : ab_Run X 288 415 (f, cl, sl) [l0, l1, ab_R z, l3, l4, l5, l6] st σ Q ↔ z ≠ 0 ∧ ab_Run X 288 416 (f, cl, sl) [l0, l1, ab_R z, l3, l4, l5, l6] (ab_R z :: st) σ Q := ab_r_aload_n rfl kc_L_law dL_law_415
theorem rL_law_416 : ab_Run X 288 416 (f, cl, sl) [ab_R z, l1, l2, l3, l4, l5, l6] st σ Q ↔ z ≠ 0 ∧ ab_Run X 288 417 (f, cl, sl) [ab_R z, l1, l2, l3, l4, l5, l6] (ab_R z :: st) σ Q := ab_r_aload_n rfl kc_L_law dL_law_416
theorem rL_law_417 : ab_Run X 288 417 (f, cl, sl) [l0, l1, l2, l3, ab_I z, l5, l6] st σ Q ↔ ab_Run X 288 419 (f, cl, sl) [l0, l1, l2, l3, ab_I z, l5, l6] (ab_I z :: st) σ Q := ab_r_iload rfl kc_L_law dL_law_417
theorem rL_law_419 : ab_Run X 288 419 (f, cl, sl) L st σ Q ↔ ab_Run X 288 420 (f, cl, sl) L (ab_I 1 :: st) σ Q := ab_r_iconst (by decide) kc_L_law dL_law_419
theorem rL_law_420 : ab_Run X 288 420 (f, cl, sl) L (ab_I b :: ab_I a :: st) σ Q ↔ ab_Run X 288 421 (f, cl, sl) L (ab_I (ab_w32 (a + b)) :: st) σ Q := ab_r_iadd kc_L_law dL_law_420
theorem rL_law_421 : ab_Run X 288 421 (f, cl, sl) L (ab_I i :: ab_R a :: st) σ Q ↔ (a = -1 ∧ 0 ≤ i ∧ i < X.1) ∧ ab_Run X 288 422 (f, cl, sl) L (ab_I (X.2 i) :: st) σ Q := ab_r_ialoadX rfl kc_L_law dL_law_421
theorem rL_law_422 : ab_Run X 288 422 (f, cl, sl) [ab_R z, l1, l2, l3, l4, l5, l6] st σ Q ↔ z ≠ 0 ∧ ab_Run X 288 423 (f, cl, sl) [ab_R z, l1, l2, l3, l4, l5, l6] (ab_R z :: st) σ Q := ab_r_aload_n rfl kc_L_law dL_law_422
theorem rL_law_423 : ab_Run X 288 423 (f, cl, sl) [l0, l1, l2, l3, ab_I z, l5, l6] st σ Q ↔ ab_Run X 288 425 (f, cl, sl) [l0, l1, l2, l3, ab_I z, l5, l6] (ab_I z :: st) σ Q := ab_r_iload rfl kc_L_law dL_law_423
theorem rL_law_425 : ab_Run X 288 425 (f, cl, sl) L st σ Q ↔ ab_Run X 288 426 (f, cl, sl) L (ab_I 2 :: st) σ Q := ab_r_iconst (by decide) kc_L_law dL_law_425
theorem rL_law_426 : ab_Run X 288 426 (f, cl, sl) L (ab_I b :: ab_I a :: st) σ Q ↔ ab_Run X 288 427 (f, cl, sl) L (ab_I (ab_w32 (a + b)) :: st) σ Q := ab_r_iadd kc_L_law dL_law_426
theorem rL_law_427 : ab_Run X 288 427 (f, cl, sl) L (ab_I i :: ab_R a :: st) σ Q ↔ (a = -1 ∧ 0 ≤ i ∧ i < X.1) ∧ ab_Run X 288 428 (f, cl, sl) L (ab_I (X.2 i) :: st) σ Q := ab_r_ialoadX rfl kc_L_law dL_law_427
theorem rL_law_428 : ab_Run X 288 428 (f, cl, sl) [ab_R z, l1, l2, l3, l4, l5, l6] st σ Q ↔ z ≠ 0 ∧ ab_Run X 288 429 (f, cl, sl) [ab_R z, l1, l2, l3, l4, l5, l6] (ab_R z :: st) σ Q := ab_r_aload_n rfl kc_L_law dL_law_428
theorem rL_law_429 : ab_Run X 288 429 (f, cl, sl) [l0, l1, l2, l3, ab_I z, l5, l6] st σ Q ↔ ab_Run X 288 431 (f, cl, sl) [l0, l1, l2, l3, ab_I z, l5, l6] (ab_I z :: st) σ Q := ab_r_iload rfl kc_L_law dL_law_429
theorem rL_law_431 : ab_Run X 288 431 (f, cl, sl) L st σ Q ↔ ab_Run X 288 432 (f, cl, sl) L (ab_I 3 :: st) σ Q := ab_r_iconst (by decide) kc_L_law dL_law_431
theorem rL_law_432 : ab_Run X 288 432 (f, cl, sl) L (ab_I b :: ab_I a :: st) σ Q ↔ ab_Run X 288 433 (f, cl, sl) L (ab_I (ab_w32 (a + b)) :: st) σ Q := ab_r_iadd kc_L_law dL_law_432
theorem rL_law_433 : ab_Run X 288 433 (f, cl, sl) L (ab_I i :: ab_R a :: st) σ Q ↔ (a = -1 ∧ 0 ≤ i ∧ i < X.1) ∧ ab_Run X 288 434 (f, cl, sl) L (ab_I (X.2 i) :: st) σ Q := ab_r_ialoadX rfl kc_L_law dL_law_433
theorem rL_law_434 (h : 2 + 1 ≤ f ∧ 0 ≤ cl ∧ 0 ≤ sl) : ab_Run X 288 434 (f, cl, sl) L (ab_I x3 :: ab_I x2 :: ab_I x1 :: ab_R a :: st) σ Q ↔ ((ab_sh σ a).1 = 14 ∧ ab_cats st ≤ 8) ∧ ab_Do X 218 [ab_R a, ab_I x1, ab_I x2, ab_I x3] σ (fun r σ' => ab_Run X 288 437 (f, cl, sl) L (ab_psh r st) σ' Q) := ab_r_callV (w := [ab_I x3, ab_I x2, ab_I x1]) (as := [ab_I x1, ab_I x2, ab_I x3]) (b1 := (2, 0, 0)) 0 (Or.inl rfl) (by decide) ko_L_law qM_14_46 (by decide) rfl rfl rfl rfl rfl h (Nat.le_of_ble_eq_true rfl) kc_L_law dL_law_434
theorem rL_law_437 : ab_Run X 288 437 (f, cl, sl) L (ab_I b :: ab_I a :: st) σ Q ↔ (a = b → ab_Run X 288 2374 (f, cl, sl) L st σ Q) ∧ (¬ (a = b) → ab_Run X 288 440 (f, cl, sl) L st σ Q) := ab_r_icmp_eq rfl kc_L_law dL_law_437
theorem rL_law_440 : ab_Run X 288 440 (f, cl, sl) L st σ Q ↔ ab_Run X 288 441 (f, cl, sl) L (ab_I 0 :: st) σ Q := ab_r_iconst (by decide) kc_L_law dL_law_440
theorem rL_law_441 : ab_Run X 288 441 (f, cl, sl) L [ab_I v] σ Q ↔ (v = 0 ∨ v = 1) ∧ Q (some (ab_I v)) σ := ab_r_ireturnZ rfl kc_L_law dL_law_441
theorem rL_law_442 : ab_Run X 288 442 (f, cl, sl) [l0, ab_R z, l2, l3, l4, l5, l6] st σ Q ↔ z ≠ 0 ∧ ab_Run X 288 443 (f, cl, sl) [l0, ab_R z, l2, l3, l4, l5, l6] (ab_R z :: st) σ Q := ab_r_aload_n rfl kc_L_law dL_law_442
theorem rL_law_443 : ab_Run X 288 443 (f, cl, sl) [ab_R z, l1, l2, l3, l4, l5, l6] st σ Q ↔ z ≠ 0 ∧ ab_Run X 288 444 (f, cl, sl) [ab_R z, l1, l2, l3, l4, l5, l6] (ab_R z :: st) σ Q := ab_r_aload_n rfl kc_L_law dL_law_443
theorem rL_law_444 : ab_Run X 288 444 (f, cl, sl) [l0, l1, l2, l3, ab_I z, l5, l6] st σ Q ↔ ab_Run X 288 446 (f, cl, sl) [l0, l1, l2, l3, ab_I z, l5, l6] (ab_I z :: st) σ Q := ab_r_iload rfl kc_L_law dL_law_444
theorem rL_law_446 : ab_Run X 288 446 (f, cl, sl) L st σ Q ↔ ab_Run X 288 447 (f, cl, sl) L (ab_I 1 :: st) σ Q := ab_r_iconst (by decide) kc_L_law dL_law_446
theorem rL_law_447 : ab_Run X 288 447 (f, cl, sl) L (ab_I b :: ab_I a :: st) σ Q ↔ ab_Run X 288 448 (f, cl, sl) L (ab_I (ab_w32 (a + b)) :: st) σ Q := ab_r_iadd kc_L_law dL_law_447
theorem rL_law_448 : ab_Run X 288 448 (f, cl, sl) L (ab_I i :: ab_R a :: st) σ Q ↔ (a = -1 ∧ 0 ≤ i ∧ i < X.1) ∧ ab_Run X 288 449 (f, cl, sl) L (ab_I (X.2 i) :: st) σ Q := ab_r_ialoadX rfl kc_L_law dL_law_448
theorem rL_law_449 : ab_Run X 288 449 (f, cl, sl) [ab_R z, l1, l2, l3, l4, l5, l6] st σ Q ↔ z ≠ 0 ∧ ab_Run X 288 450 (f, cl, sl) [ab_R z, l1, l2, l3, l4, l5, l6] (ab_R z :: st) σ Q := ab_r_aload_n rfl kc_L_law dL_law_449
theorem rL_law_450 : ab_Run X 288 450 (f, cl, sl) [l0, l1, l2, l3, ab_I z, l5, l6] st σ Q ↔ ab_Run X 288 452 (f, cl, sl) [l0, l1, l2, l3, ab_I z, l5, l6] (ab_I z :: st) σ Q := ab_r_iload rfl kc_L_law dL_law_450
theorem rL_law_452 : ab_Run X 288 452 (f, cl, sl) L st σ Q ↔ ab_Run X 288 453 (f, cl, sl) L (ab_I 2 :: st) σ Q := ab_r_iconst (by decide) kc_L_law dL_law_452
theorem rL_law_453 : ab_Run X 288 453 (f, cl, sl) L (ab_I b :: ab_I a :: st) σ Q ↔ ab_Run X 288 454 (f, cl, sl) L (ab_I (ab_w32 (a + b)) :: st) σ Q := ab_r_iadd kc_L_law dL_law_453
theorem rL_law_454 : ab_Run X 288 454 (f, cl, sl) L (ab_I i :: ab_R a :: st) σ Q ↔ (a = -1 ∧ 0 ≤ i ∧ i < X.1) ∧ ab_Run X 288 455 (f, cl, sl) L (ab_I (X.2 i) :: st) σ Q := ab_r_ialoadX rfl kc_L_law dL_law_454
theorem rL_law_455 (h : 1 + 1 ≤ f ∧ 0 ≤ cl ∧ 0 ≤ sl) : ab_Run X 288 455 (f, cl, sl) L (ab_I x2 :: ab_I x1 :: ab_R a :: st) σ Q ↔ ((ab_sh σ a).1 = 12 ∧ ab_cats st ≤ 8) ∧ ab_Do X 86 [ab_R a, ab_I x1, ab_I x2] σ (fun r σ' => ab_Run X 288 458 (f, cl, sl) L (ab_psh r st) σ' Q) := ab_r_callV (w := [ab_I x2, ab_I x1]) (as := [ab_I x1, ab_I x2]) (b1 := (1, 0, 0)) 0 (Or.inl rfl) (by decide) ko_L_law qM_14_47 (by decide) rfl rfl rfl rfl rfl h (Nat.le_of_ble_eq_true rfl) kc_L_law dL_law_455
theorem rL_law_458 : ab_Run X 288 458 (f, cl, sl) [l0, l1, ab_R z, l3, l4, l5, l6] st σ Q ↔ z ≠ 0 ∧ ab_Run X 288 459 (f, cl, sl) [l0, l1, ab_R z, l3, l4, l5, l6] (ab_R z :: st) σ Q := ab_r_aload_n rfl kc_L_law dL_law_458
theorem rL_law_459 : ab_Run X 288 459 (f, cl, sl) [ab_R z, l1, l2, l3, l4, l5, l6] st σ Q ↔ z ≠ 0 ∧ ab_Run X 288 460 (f, cl, sl) [ab_R z, l1, l2, l3, l4, l5, l6] (ab_R z :: st) σ Q := ab_r_aload_n rfl kc_L_law dL_law_459
theorem rL_law_460 : ab_Run X 288 460 (f, cl, sl) [l0, l1, l2, l3, ab_I z, l5, l6] st σ Q ↔ ab_Run X 288 462 (f, cl, sl) [l0, l1, l2, l3, ab_I z, l5, l6] (ab_I z :: st) σ Q := ab_r_iload rfl kc_L_law dL_law_460
theorem rL_law_462 : ab_Run X 288 462 (f, cl, sl) L st σ Q ↔ ab_Run X 288 463 (f, cl, sl) L (ab_I 1 :: st) σ Q := ab_r_iconst (by decide) kc_L_law dL_law_462
theorem rL_law_463 : ab_Run X 288 463 (f, cl, sl) L (ab_I b :: ab_I a :: st) σ Q ↔ ab_Run X 288 464 (f, cl, sl) L (ab_I (ab_w32 (a + b)) :: st) σ Q := ab_r_iadd kc_L_law dL_law_463
theorem rL_law_464 : ab_Run X 288 464 (f, cl, sl) L (ab_I i :: ab_R a :: st) σ Q ↔ (a = -1 ∧ 0 ≤ i ∧ i < X.1) ∧ ab_Run X 288 465 (f, cl, sl) L (ab_I (X.2 i) :: st) σ Q := ab_r_ialoadX rfl kc_L_law dL_law_464
theorem rL_law_465 : ab_Run X 288 465 (f, cl, sl) [ab_R z, l1, l2, l3, l4, l5, l6] st σ Q ↔ z ≠ 0 ∧ ab_Run X 288 466 (f, cl, sl) [ab_R z, l1, l2, l3, l4, l5, l6] (ab_R z :: st) σ Q := ab_r_aload_n rfl kc_L_law dL_law_465
theorem rL_law_466 : ab_Run X 288 466 (f, cl, sl) [l0, l1, l2, l3, ab_I z, l5, l6] st σ Q ↔ ab_Run X 288 468 (f, cl, sl) [l0, l1, l2, l3, ab_I z, l5, l6] (ab_I z :: st) σ Q := ab_r_iload rfl kc_L_law dL_law_466
theorem rL_law_468 : ab_Run X 288 468 (f, cl, sl) L st σ Q ↔ ab_Run X 288 469 (f, cl, sl) L (ab_I 2 :: st) σ Q := ab_r_iconst (by decide) kc_L_law dL_law_468
theorem rL_law_469 : ab_Run X 288 469 (f, cl, sl) L (ab_I b :: ab_I a :: st) σ Q ↔ ab_Run X 288 470 (f, cl, sl) L (ab_I (ab_w32 (a + b)) :: st) σ Q := ab_r_iadd kc_L_law dL_law_469
theorem rL_law_470 : ab_Run X 288 470 (f, cl, sl) L (ab_I i :: ab_R a :: st) σ Q ↔ (a = -1 ∧ 0 ≤ i ∧ i < X.1) ∧ ab_Run X 288 471 (f, cl, sl) L (ab_I (X.2 i) :: st) σ Q := ab_r_ialoadX rfl kc_L_law dL_law_470
theorem rL_law_471 (h : 2 + 1 ≤ f ∧ 0 ≤ cl ∧ 0 ≤ sl) : ab_Run X 288 471 (f, cl, sl) L (ab_I x2 :: ab_I x1 :: ab_R a :: st) σ Q ↔ ((ab_sh σ a).1 = 14 ∧ ab_cats st ≤ 8) ∧ ab_Do X 221 [ab_R a, ab_I x1, ab_I x2] σ (fun r σ' => ab_Run X 288 474 (f, cl, sl) L (ab_psh r st) σ' Q) := ab_r_callV (w := [ab_I x2, ab_I x1]) (as := [ab_I x1, ab_I x2]) (b1 := (2, 0, 0)) 0 (Or.inl rfl) (by decide) ko_L_law qM_14_50 (by decide) rfl rfl rfl rfl rfl h (Nat.le_of_ble_eq_true rfl) kc_L_law dL_law_471
theorem rL_law_474 : ab_Run X 288 474 (f, cl, sl) L (ab_I b :: ab_I a :: st) σ Q ↔ (a = b → ab_Run X 288 2374 (f, cl, sl) L st σ Q) ∧ (¬ (a = b) → ab_Run X 288 477 (f, cl, sl) L st σ Q) := ab_r_icmp_eq rfl kc_L_law dL_law_474
theorem rL_law_477 : ab_Run X 288 477 (f, cl, sl) L st σ Q ↔ ab_Run X 288 478 (f, cl, sl) L (ab_I 0 :: st) σ Q := ab_r_iconst (by decide) kc_L_law dL_law_477
theorem rL_law_478 : ab_Run X 288 478 (f, cl, sl) L [ab_I v] σ Q ↔ (v = 0 ∨ v = 1) ∧ Q (some (ab_I v)) σ := ab_r_ireturnZ rfl kc_L_law dL_law_478
theorem rL_law_479 : ab_Run X 288 479 (f, cl, sl) [l0, ab_R z, l2, l3, l4, l5, l6] st σ Q ↔ z ≠ 0 ∧ ab_Run X 288 480 (f, cl, sl) [l0, ab_R z, l2, l3, l4, l5, l6] (ab_R z :: st) σ Q := ab_r_aload_n rfl kc_L_law dL_law_479
theorem rL_law_480 : ab_Run X 288 480 (f, cl, sl) [ab_R z, l1, l2, l3, l4, l5, l6] st σ Q ↔ z ≠ 0 ∧ ab_Run X 288 481 (f, cl, sl) [ab_R z, l1, l2, l3, l4, l5, l6] (ab_R z :: st) σ Q := ab_r_aload_n rfl kc_L_law dL_law_480
theorem rL_law_481 : ab_Run X 288 481 (f, cl, sl) [l0, l1, l2, l3, ab_I z, l5, l6] st σ Q ↔ ab_Run X 288 483 (f, cl, sl) [l0, l1, l2, l3, ab_I z, l5, l6] (ab_I z :: st) σ Q := ab_r_iload rfl kc_L_law dL_law_481
theorem rL_law_483 : ab_Run X 288 483 (f, cl, sl) L st σ Q ↔ ab_Run X 288 484 (f, cl, sl) L (ab_I 1 :: st) σ Q := ab_r_iconst (by decide) kc_L_law dL_law_483
theorem rL_law_484 : ab_Run X 288 484 (f, cl, sl) L (ab_I b :: ab_I a :: st) σ Q ↔ ab_Run X 288 485 (f, cl, sl) L (ab_I (ab_w32 (a + b)) :: st) σ Q := ab_r_iadd kc_L_law dL_law_484
theorem rL_law_485 : ab_Run X 288 485 (f, cl, sl) L (ab_I i :: ab_R a :: st) σ Q ↔ (a = -1 ∧ 0 ≤ i ∧ i < X.1) ∧ ab_Run X 288 486 (f, cl, sl) L (ab_I (X.2 i) :: st) σ Q := ab_r_ialoadX rfl kc_L_law dL_law_485
theorem rL_law_486 : ab_Run X 288 486 (f, cl, sl) [ab_R z, l1, l2, l3, l4, l5, l6] st σ Q ↔ z ≠ 0 ∧ ab_Run X 288 487 (f, cl, sl) [ab_R z, l1, l2, l3, l4, l5, l6] (ab_R z :: st) σ Q := ab_r_aload_n rfl kc_L_law dL_law_486
theorem rL_law_487 : ab_Run X 288 487 (f, cl, sl) [l0, l1, l2, l3, ab_I z, l5, l6] st σ Q ↔ ab_Run X 288 489 (f, cl, sl) [l0, l1, l2, l3, ab_I z, l5, l6] (ab_I z :: st) σ Q := ab_r_iload rfl kc_L_law dL_law_487
theorem rL_law_489 : ab_Run X 288 489 (f, cl, sl) L st σ Q ↔ ab_Run X 288 490 (f, cl, sl) L (ab_I 2 :: st) σ Q := ab_r_iconst (by decide) kc_L_law dL_law_489
theorem rL_law_490 : ab_Run X 288 490 (f, cl, sl) L (ab_I b :: ab_I a :: st) σ Q ↔ ab_Run X 288 491 (f, cl, sl) L (ab_I (ab_w32 (a + b)) :: st) σ Q := ab_r_iadd kc_L_law dL_law_490
theorem rL_law_491 : ab_Run X 288 491 (f, cl, sl) L (ab_I i :: ab_R a :: st) σ Q ↔ (a = -1 ∧ 0 ≤ i ∧ i < X.1) ∧ ab_Run X 288 492 (f, cl, sl) L (ab_I (X.2 i) :: st) σ Q := ab_r_ialoadX rfl kc_L_law dL_law_491
theorem rL_law_492 : ab_Run X 288 492 (f, cl, sl) [ab_R z, l1, l2, l3, l4, l5, l6] st σ Q ↔ z ≠ 0 ∧ ab_Run X 288 493 (f, cl, sl) [ab_R z, l1, l2, l3, l4, l5, l6] (ab_R z :: st) σ Q := ab_r_aload_n rfl kc_L_law dL_law_492
theorem rL_law_493 : ab_Run X 288 493 (f, cl, sl) [l0, l1, l2, l3, ab_I z, l5, l6] st σ Q ↔ ab_Run X 288 495 (f, cl, sl) [l0, l1, l2, l3, ab_I z, l5, l6] (ab_I z :: st) σ Q := ab_r_iload rfl kc_L_law dL_law_493
theorem rL_law_495 : ab_Run X 288 495 (f, cl, sl) L st σ Q ↔ ab_Run X 288 496 (f, cl, sl) L (ab_I 3 :: st) σ Q := ab_r_iconst (by decide) kc_L_law dL_law_495
theorem rL_law_496 : ab_Run X 288 496 (f, cl, sl) L (ab_I b :: ab_I a :: st) σ Q ↔ ab_Run X 288 497 (f, cl, sl) L (ab_I (ab_w32 (a + b)) :: st) σ Q := ab_r_iadd kc_L_law dL_law_496
theorem rL_law_497 : ab_Run X 288 497 (f, cl, sl) L (ab_I i :: ab_R a :: st) σ Q ↔ (a = -1 ∧ 0 ≤ i ∧ i < X.1) ∧ ab_Run X 288 498 (f, cl, sl) L (ab_I (X.2 i) :: st) σ Q := ab_r_ialoadX rfl kc_L_law dL_law_497
theorem rL_law_498 : ab_Run X 288 498 (f, cl, sl) [ab_R z, l1, l2, l3, l4, l5, l6] st σ Q ↔ z ≠ 0 ∧ ab_Run X 288 499 (f, cl, sl) [ab_R z, l1, l2, l3, l4, l5, l6] (ab_R z :: st) σ Q := ab_r_aload_n rfl kc_L_law dL_law_498
theorem rL_law_499 : ab_Run X 288 499 (f, cl, sl) [l0, l1, l2, l3, ab_I z, l5, l6] st σ Q ↔ ab_Run X 288 501 (f, cl, sl) [l0, l1, l2, l3, ab_I z, l5, l6] (ab_I z :: st) σ Q := ab_r_iload rfl kc_L_law dL_law_499
theorem rL_law_501 : ab_Run X 288 501 (f, cl, sl) L st σ Q ↔ ab_Run X 288 502 (f, cl, sl) L (ab_I 4 :: st) σ Q := ab_r_iconst (by decide) kc_L_law dL_law_501
theorem rL_law_502 : ab_Run X 288 502 (f, cl, sl) L (ab_I b :: ab_I a :: st) σ Q ↔ ab_Run X 288 503 (f, cl, sl) L (ab_I (ab_w32 (a + b)) :: st) σ Q := ab_r_iadd kc_L_law dL_law_502
theorem rL_law_503 : ab_Run X 288 503 (f, cl, sl) L (ab_I i :: ab_R a :: st) σ Q ↔ (a = -1 ∧ 0 ≤ i ∧ i < X.1) ∧ ab_Run X 288 504 (f, cl, sl) L (ab_I (X.2 i) :: st) σ Q := ab_r_ialoadX rfl kc_L_law dL_law_503
theorem rL_law_504 (h : 2 + 1 ≤ f ∧ 0 ≤ cl ∧ 0 ≤ sl) : ab_Run X 288 504 (f, cl, sl) L (ab_I x4 :: ab_I x3 :: ab_I x2 :: ab_I x1 :: ab_R a :: st) σ Q ↔ ((ab_sh σ a).1 = 12 ∧ ab_cats st ≤ 8) ∧ ab_Do X 87 [ab_R a, ab_I x1, ab_I x2, ab_I x3, ab_I x4] σ (fun r σ' => ab_Run X 288 507 (f, cl, sl) L (ab_psh r st) σ' Q) := ab_r_callV (w := [ab_I x4, ab_I x3, ab_I x2, ab_I x1]) (as := [ab_I x1, ab_I x2, ab_I x3, ab_I x4]) (b1 := (2, 0, 0)) 0 (Or.inl rfl) (by decide) ko_L_law qM_14_51 (by decide) rfl rfl rfl rfl rfl h (Nat.le_of_ble_eq_true rfl) kc_L_law dL_law_504
theorem rL_law_507 : ab_Run X 288 507 (f, cl, sl) [l0, l1, ab_R z, l3, l4, l5, l6] st σ Q ↔ z ≠ 0 ∧ ab_Run X 288 508 (f, cl, sl) [l0, l1, ab_R z, l3, l4, l5, l6] (ab_R z :: st) σ Q := ab_r_aload_n rfl kc_L_law dL_law_507
theorem rL_law_508 : ab_Run X 288 508 (f, cl, sl) [ab_R z, l1, l2, l3, l4, l5, l6] st σ Q ↔ z ≠ 0 ∧ ab_Run X 288 509 (f, cl, sl) [ab_R z, l1, l2, l3, l4, l5, l6] (ab_R z :: st) σ Q := ab_r_aload_n rfl kc_L_law dL_law_508
theorem rL_law_509 : ab_Run X 288 509 (f, cl, sl) [l0, l1, l2, l3, ab_I z, l5, l6] st σ Q ↔ ab_Run X 288 511 (f, cl, sl) [l0, l1, l2, l3, ab_I z, l5, l6] (ab_I z :: st) σ Q := ab_r_iload rfl kc_L_law dL_law_509
theorem rL_law_511 : ab_Run X 288 511 (f, cl, sl) L st σ Q ↔ ab_Run X 288 512 (f, cl, sl) L (ab_I 1 :: st) σ Q := ab_r_iconst (by decide) kc_L_law dL_law_511
theorem rL_law_512 : ab_Run X 288 512 (f, cl, sl) L (ab_I b :: ab_I a :: st) σ Q ↔ ab_Run X 288 513 (f, cl, sl) L (ab_I (ab_w32 (a + b)) :: st) σ Q := ab_r_iadd kc_L_law dL_law_512
theorem rL_law_513 : ab_Run X 288 513 (f, cl, sl) L (ab_I i :: ab_R a :: st) σ Q ↔ (a = -1 ∧ 0 ≤ i ∧ i < X.1) ∧ ab_Run X 288 514 (f, cl, sl) L (ab_I (X.2 i) :: st) σ Q := ab_r_ialoadX rfl kc_L_law dL_law_513
theorem rL_law_514 : ab_Run X 288 514 (f, cl, sl) [ab_R z, l1, l2, l3, l4, l5, l6] st σ Q ↔ z ≠ 0 ∧ ab_Run X 288 515 (f, cl, sl) [ab_R z, l1, l2, l3, l4, l5, l6] (ab_R z :: st) σ Q := ab_r_aload_n rfl kc_L_law dL_law_514
theorem rL_law_515 : ab_Run X 288 515 (f, cl, sl) [l0, l1, l2, l3, ab_I z, l5, l6] st σ Q ↔ ab_Run X 288 517 (f, cl, sl) [l0, l1, l2, l3, ab_I z, l5, l6] (ab_I z :: st) σ Q := ab_r_iload rfl kc_L_law dL_law_515
theorem rL_law_517 : ab_Run X 288 517 (f, cl, sl) L st σ Q ↔ ab_Run X 288 518 (f, cl, sl) L (ab_I 2 :: st) σ Q := ab_r_iconst (by decide) kc_L_law dL_law_517
theorem rL_law_518 : ab_Run X 288 518 (f, cl, sl) L (ab_I b :: ab_I a :: st) σ Q ↔ ab_Run X 288 519 (f, cl, sl) L (ab_I (ab_w32 (a + b)) :: st) σ Q := ab_r_iadd kc_L_law dL_law_518
theorem rL_law_519 : ab_Run X 288 519 (f, cl, sl) L (ab_I i :: ab_R a :: st) σ Q ↔ (a = -1 ∧ 0 ≤ i ∧ i < X.1) ∧ ab_Run X 288 520 (f, cl, sl) L (ab_I (X.2 i) :: st) σ Q := ab_r_ialoadX rfl kc_L_law dL_law_519
theorem rL_law_520 : ab_Run X 288 520 (f, cl, sl) [ab_R z, l1, l2, l3, l4, l5, l6] st σ Q ↔ z ≠ 0 ∧ ab_Run X 288 521 (f, cl, sl) [ab_R z, l1, l2, l3, l4, l5, l6] (ab_R z :: st) σ Q := ab_r_aload_n rfl kc_L_law dL_law_520
theorem rL_law_521 : ab_Run X 288 521 (f, cl, sl) [l0, l1, l2, l3, ab_I z, l5, l6] st σ Q ↔ ab_Run X 288 523 (f, cl, sl) [l0, l1, l2, l3, ab_I z, l5, l6] (ab_I z :: st) σ Q := ab_r_iload rfl kc_L_law dL_law_521
theorem rL_law_523 : ab_Run X 288 523 (f, cl, sl) L st σ Q ↔ ab_Run X 288 524 (f, cl, sl) L (ab_I 3 :: st) σ Q := ab_r_iconst (by decide) kc_L_law dL_law_523
theorem rL_law_524 : ab_Run X 288 524 (f, cl, sl) L (ab_I b :: ab_I a :: st) σ Q ↔ ab_Run X 288 525 (f, cl, sl) L (ab_I (ab_w32 (a + b)) :: st) σ Q := ab_r_iadd kc_L_law dL_law_524
theorem rL_law_525 : ab_Run X 288 525 (f, cl, sl) L (ab_I i :: ab_R a :: st) σ Q ↔ (a = -1 ∧ 0 ≤ i ∧ i < X.1) ∧ ab_Run X 288 526 (f, cl, sl) L (ab_I (X.2 i) :: st) σ Q := ab_r_ialoadX rfl kc_L_law dL_law_525
theorem rL_law_526 : ab_Run X 288 526 (f, cl, sl) [ab_R z, l1, l2, l3, l4, l5, l6] st σ Q ↔ z ≠ 0 ∧ ab_Run X 288 527 (f, cl, sl) [ab_R z, l1, l2, l3, l4, l5, l6] (ab_R z :: st) σ Q := ab_r_aload_n rfl kc_L_law dL_law_526
theorem rL_law_527 : ab_Run X 288 527 (f, cl, sl) [l0, l1, l2, l3, ab_I z, l5, l6] st σ Q ↔ ab_Run X 288 529 (f, cl, sl) [l0, l1, l2, l3, ab_I z, l5, l6] (ab_I z :: st) σ Q := ab_r_iload rfl kc_L_law dL_law_527
theorem rL_law_529 : ab_Run X 288 529 (f, cl, sl) L st σ Q ↔ ab_Run X 288 530 (f, cl, sl) L (ab_I 4 :: st) σ Q := ab_r_iconst (by decide) kc_L_law dL_law_529
theorem rL_law_530 : ab_Run X 288 530 (f, cl, sl) L (ab_I b :: ab_I a :: st) σ Q ↔ ab_Run X 288 531 (f, cl, sl) L (ab_I (ab_w32 (a + b)) :: st) σ Q := ab_r_iadd kc_L_law dL_law_530
theorem rL_law_531 : ab_Run X 288 531 (f, cl, sl) L (ab_I i :: ab_R a :: st) σ Q ↔ (a = -1 ∧ 0 ≤ i ∧ i < X.1) ∧ ab_Run X 288 532 (f, cl, sl) L (ab_I (X.2 i) :: st) σ Q := ab_r_ialoadX rfl kc_L_law dL_law_531
theorem rL_law_532 (h : 2 + 1 ≤ f ∧ 0 ≤ cl ∧ 0 ≤ sl) : ab_Run X 288 532 (f, cl, sl) L (ab_I x4 :: ab_I x3 :: ab_I x2 :: ab_I x1 :: ab_R a :: st) σ Q ↔ ((ab_sh σ a).1 = 14 ∧ ab_cats st ≤ 8) ∧ ab_Do X 222 [ab_R a, ab_I x1, ab_I x2, ab_I x3, ab_I x4] σ (fun r σ' => ab_Run X 288 535 (f, cl, sl) L (ab_psh r st) σ' Q) := ab_r_callV (w := [ab_I x4, ab_I x3, ab_I x2, ab_I x1]) (as := [ab_I x1, ab_I x2, ab_I x3, ab_I x4]) (b1 := (2, 0, 0)) 0 (Or.inl rfl) (by decide) ko_L_law qM_14_55 (by decide) rfl rfl rfl rfl rfl h (Nat.le_of_ble_eq_true rfl) kc_L_law dL_law_532
theorem rL_law_535 : ab_Run X 288 535 (f, cl, sl) L (ab_I b :: ab_I a :: st) σ Q ↔ (a = b → ab_Run X 288 2374 (f, cl, sl) L st σ Q) ∧ (¬ (a = b) → ab_Run X 288 538 (f, cl, sl) L st σ Q) := ab_r_icmp_eq rfl kc_L_law dL_law_535
theorem rL_law_538 : ab_Run X 288 538 (f, cl, sl) L st σ Q ↔ ab_Run X 288 539 (f, cl, sl) L (ab_I 0 :: st) σ Q := ab_r_iconst (by decide) kc_L_law dL_law_538
theorem rL_law_539 : ab_Run X 288 539 (f, cl, sl) L [ab_I v] σ Q ↔ (v = 0 ∨ v = 1) ∧ Q (some (ab_I v)) σ := ab_r_ireturnZ rfl kc_L_law dL_law_539
theorem rL_law_540 : ab_Run X 288 540 (f, cl, sl) [l0, ab_R z, l2, l3, l4, l5, l6] st σ Q ↔ z ≠ 0 ∧ ab_Run X 288 541 (f, cl, sl) [l0, ab_R z, l2, l3, l4, l5, l6] (ab_R z :: st) σ Q := ab_r_aload_n rfl kc_L_law dL_law_540
theorem rL_law_541 : ab_Run X 288 541 (f, cl, sl) [ab_R z, l1, l2, l3, l4, l5, l6] st σ Q ↔ z ≠ 0 ∧ ab_Run X 288 542 (f, cl, sl) [ab_R z, l1, l2, l3, l4, l5, l6] (ab_R z :: st) σ Q := ab_r_aload_n rfl kc_L_law dL_law_541
theorem rL_law_542 : ab_Run X 288 542 (f, cl, sl) [l0, l1, l2, l3, ab_I z, l5, l6] st σ Q ↔ ab_Run X 288 544 (f, cl, sl) [l0, l1, l2, l3, ab_I z, l5, l6] (ab_I z :: st) σ Q := ab_r_iload rfl kc_L_law dL_law_542
theorem rL_law_544 : ab_Run X 288 544 (f, cl, sl) L st σ Q ↔ ab_Run X 288 545 (f, cl, sl) L (ab_I 1 :: st) σ Q := ab_r_iconst (by decide) kc_L_law dL_law_544
theorem rL_law_545 : ab_Run X 288 545 (f, cl, sl) L (ab_I b :: ab_I a :: st) σ Q ↔ ab_Run X 288 546 (f, cl, sl) L (ab_I (ab_w32 (a + b)) :: st) σ Q := ab_r_iadd kc_L_law dL_law_545
theorem rL_law_546 : ab_Run X 288 546 (f, cl, sl) L (ab_I i :: ab_R a :: st) σ Q ↔ (a = -1 ∧ 0 ≤ i ∧ i < X.1) ∧ ab_Run X 288 547 (f, cl, sl) L (ab_I (X.2 i) :: st) σ Q := ab_r_ialoadX rfl kc_L_law dL_law_546
theorem rL_law_547 : ab_Run X 288 547 (f, cl, sl) [ab_R z, l1, l2, l3, l4, l5, l6] st σ Q ↔ z ≠ 0 ∧ ab_Run X 288 548 (f, cl, sl) [ab_R z, l1, l2, l3, l4, l5, l6] (ab_R z :: st) σ Q := ab_r_aload_n rfl kc_L_law dL_law_547
theorem rL_law_548 : ab_Run X 288 548 (f, cl, sl) [l0, l1, l2, l3, ab_I z, l5, l6] st σ Q ↔ ab_Run X 288 550 (f, cl, sl) [l0, l1, l2, l3, ab_I z, l5, l6] (ab_I z :: st) σ Q := ab_r_iload rfl kc_L_law dL_law_548
theorem rL_law_550 : ab_Run X 288 550 (f, cl, sl) L st σ Q ↔ ab_Run X 288 551 (f, cl, sl) L (ab_I 2 :: st) σ Q := ab_r_iconst (by decide) kc_L_law dL_law_550
theorem rL_law_551 : ab_Run X 288 551 (f, cl, sl) L (ab_I b :: ab_I a :: st) σ Q ↔ ab_Run X 288 552 (f, cl, sl) L (ab_I (ab_w32 (a + b)) :: st) σ Q := ab_r_iadd kc_L_law dL_law_551
theorem rL_law_552 : ab_Run X 288 552 (f, cl, sl) L (ab_I i :: ab_R a :: st) σ Q ↔ (a = -1 ∧ 0 ≤ i ∧ i < X.1) ∧ ab_Run X 288 553 (f, cl, sl) L (ab_I (X.2 i) :: st) σ Q := ab_r_ialoadX rfl kc_L_law dL_law_552
theorem rL_law_553 : ab_Run X 288 553 (f, cl, sl) [ab_R z, l1, l2, l3, l4, l5, l6] st σ Q ↔ z ≠ 0 ∧ ab_Run X 288 554 (f, cl, sl) [ab_R z, l1, l2, l3, l4, l5, l6] (ab_R z :: st) σ Q := ab_r_aload_n rfl kc_L_law dL_law_553
end

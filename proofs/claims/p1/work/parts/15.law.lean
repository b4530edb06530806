/-! ===== p1: the law ===== -/
/-- the law's end: nothing that was there before is written -/
def cz_LZ : cz_X → Prop
  | (_, _, _, s, _, args, below, _, _, A, Z, g) => Z = lw_Z below args s ∧ args = #[Value.ref (cz_sa g 1000000)] ∧ A = fun q : Nat => s.heap.size ≤ q
theorem tr_lawret {X : cz_X} {pc : Nat} {ls : Nat → Option Value} {cn : Nat} {K N : Nat → Nat} {I : cz_I} {R : cz_R} {L : cz_L} {n w : Nat} (hZ : cz_LZ X) (hd : decode (cz_cc mL_law) pc = .ok (.ireturn, 1)) (hn : n ≤ 600002) (hw : w ≤ 7302232) : Tr X mL_law pc ls [.int 1] cn K N I R L n w := by
  obtain ⟨p, l, e, s, m, args, below, meth, c, A, Z, g⟩ := X
  intro hC H locs arr hR hS hl
  obtain ⟨rfl, rfl, rfl⟩ := hZ
  refine va_forget (fun q hq => hS.2.2 q hq) ?_
  refine W.widen hn hw ?_
  exact lw_ret hC.1 hC.2.1 hC.2.2.2.2.2.1 hC.2.2.2.2.2.2.1 hd
def law_ls : Nat → Option Value := va_up (va_up (va_up (va_up (cz_en [.float 1000000]) 1 (some (.ref 0))) 2 (some (.ref 183))) 3 (some (.ref 202))) 4 (some (.int 0))
theorem tr_ctr {X : cz_X} {M : cz_M} {pc : Nat} {ls : Nat → Option Value} {st : List Value} {cn : Nat} {K N : Nat → Nat} {I : cz_I} {R : cz_R} {L : cz_L} {n w : Nat} {Q : cz_Q} {M' : cz_M} {as : List Value} {k ci np idx : Nat} (hd : decode (cz_cc M) pc = .ok (.invokevirtual idx, 3)) (hlk : Cond.methodLink (cz_on M.1) idx (cz_nm M') ∈ cz_T) (hin : Cond.instanceMethod (cz_nm M') ∈ cz_T) (hse : Cond.selects (cz_on ci) (cz_nm M') (cz_nm M') ∈ cz_T) (hmy : cz_my M' ci np) (hci : ci < 13) (hrm : cz_room M M') (hnp : as.length = np) (hk : K k = ci) (hst : (st.map fun v => v.category).sum ≤ 8) (hn : n + (cz_rm M').cells ≤ (cz_rm M).cells) (hw : w + (cz_rm M').slots ≤ (cz_rm M).slots)
    (hCon : Con X.2.1 M' (.ref k :: as) cn K N I R L Q) (kk : ∀ r cn' K' N' I' R' L', Q r cn' K' N' I' R' L' → Tr X M (pc + 3) ls (r.toList ++ st) cn' K' N' I' R' L' (n + (cz_rm M').cells) (w + (cz_rm M').slots)) : Tr X M pc ls (as.reverse ++ .ref k :: st) cn K N I R L n w := tr_callV hd hlk hin hse hmy hci hrm hnp hk hst hn hw hCon kk
theorem cz_f2.kept {K N : Nat → Nat} {I I' : cz_I} {R R' : cz_R} (h : cz_f2 K N I R) (hk : ∀ k : Nat, 183 ≤ k → I' k = I k ∧ R' k = R k) : cz_f2 K N I' R' := by
  obtain ⟨h1, h2, h3, h4, h5⟩ := h
  exact ⟨h1, h2, fun k j x hq hx => by rw [(hk k hq.1).2]; exact h3 k j x hq hx, fun k j hq => by rw [(hk k hq.1).1]; exact h4 k j hq, by rw [(hk 183 (by decide)).1]; exact h5⟩
theorem dL_law_0 : decode cL_law 0 = .ok (.new 8, 3) := by decide +kernel
theorem dL_law_3 : decode cL_law 3 = .ok (.dup, 1) := by decide +kernel
theorem dL_law_4 : decode cL_law 4 = .ok (.invokespecial 15, 3) := by decide +kernel
theorem dL_law_7 : decode cL_law 7 = .ok (.astore_n 1, 1) := by decide +kernel
theorem dL_law_8 : decode cL_law 8 = .ok (.new 16, 3) := by decide +kernel
theorem dL_law_11 : decode cL_law 11 = .ok (.dup, 1) := by decide +kernel
theorem dL_law_12 : decode cL_law 12 = .ok (.invokespecial 18, 3) := by decide +kernel
theorem dL_law_15 : decode cL_law 15 = .ok (.astore_n 2, 1) := by decide +kernel
theorem dL_law_16 : decode cL_law 16 = .ok (.iconst 1, 1) := by decide +kernel
theorem dL_law_17 : decode cL_law 17 = .ok (.newarray .long, 2) := by decide +kernel
theorem dL_law_19 : decode cL_law 19 = .ok (.astore_n 3, 1) := by decide +kernel
theorem dL_law_20 : decode cL_law 20 = .ok (.iconst 0, 1) := by decide +kernel
theorem dL_law_21 : decode cL_law 21 = .ok (.istore 4, 2) := by decide +kernel
theorem dL_law_23 : decode cL_law 23 = .ok (.iload 4, 2) := by decide +kernel
theorem dL_law_25 : decode cL_law 25 = .ok (.aload_n 0, 1) := by decide +kernel
theorem dL_law_26 : decode cL_law 26 = .ok (.arraylength, 1) := by decide +kernel
theorem dL_law_27 : decode cL_law 27 = .ok (.bipush 6, 2) := by decide +kernel
theorem dL_law_29 : decode cL_law 29 = .ok (.isub, 1) := by decide +kernel
theorem dL_law_30 : decode cL_law 30 = .ok (.if_icmp .gt 1396, 3) := by decide +kernel
theorem dL_law_33 : decode cL_law 33 = .ok (.aload_n 0, 1) := by decide +kernel
theorem dL_law_34 : decode cL_law 34 = .ok (.iload 4, 2) := by decide +kernel
theorem dL_law_36 : decode cL_law 36 = .ok (.iaload, 1) := by decide +kernel
theorem dL_law_37 : decode cL_law 37 = .ok (.bipush 63, 2) := by decide +kernel
theorem dL_law_39 : decode cL_law 39 = .ok (.iand, 1) := by decide +kernel
theorem dL_law_40 : decode cL_law 40 = .ok (.tableswitch 1380 0 40 #[180, 253, 278, 291, 304, 329, 394, 447, 484, 497, 522, 559, 608, 645, 670, 707, 744, 781, 818, 855, 868, 893, 906, 919, 932, 945, 970, 995, 1044, 1097, 1110, 1147, 1160, 1173, 1198, 1211, 1224, 1249, 1286, 1342, 1367], 180) := by decide +kernel
theorem dL_law_220 : decode cL_law 220 = .ok (.aload_n 1, 1) := by decide +kernel
theorem dL_law_221 : decode cL_law 221 = .ok (.aload_n 0, 1) := by decide +kernel
theorem dL_law_222 : decode cL_law 222 = .ok (.iload 4, 2) := by decide +kernel
theorem dL_law_224 : decode cL_law 224 = .ok (.iconst 1, 1) := by decide +kernel
theorem dL_law_225 : decode cL_law 225 = .ok (.iadd, 1) := by decide +kernel
theorem dL_law_226 : decode cL_law 226 = .ok (.iaload, 1) := by decide +kernel
theorem dL_law_227 : decode cL_law 227 = .ok (.aload_n 0, 1) := by decide +kernel
theorem dL_law_228 : decode cL_law 228 = .ok (.iload 4, 2) := by decide +kernel
theorem dL_law_230 : decode cL_law 230 = .ok (.iconst 2, 1) := by decide +kernel
theorem dL_law_231 : decode cL_law 231 = .ok (.iadd, 1) := by decide +kernel
theorem dL_law_232 : decode cL_law 232 = .ok (.iaload, 1) := by decide +kernel
theorem dL_law_233 : decode cL_law 233 = .ok (.aload_n 0, 1) := by decide +kernel
theorem dL_law_234 : decode cL_law 234 = .ok (.iload 4, 2) := by decide +kernel
theorem dL_law_236 : decode cL_law 236 = .ok (.iconst 3, 1) := by decide +kernel
theorem dL_law_237 : decode cL_law 237 = .ok (.iadd, 1) := by decide +kernel
theorem dL_law_238 : decode cL_law 238 = .ok (.iaload, 1) := by decide +kernel
theorem dL_law_239 : decode cL_law 239 = .ok (.aload_n 0, 1) := by decide +kernel
theorem dL_law_240 : decode cL_law 240 = .ok (.iload 4, 2) := by decide +kernel
theorem dL_law_242 : decode cL_law 242 = .ok (.iconst 4, 1) := by decide +kernel
theorem dL_law_243 : decode cL_law 243 = .ok (.iadd, 1) := by decide +kernel
theorem dL_law_244 : decode cL_law 244 = .ok (.iaload, 1) := by decide +kernel
theorem dL_law_245 : decode cL_law 245 = .ok (.aload_n 0, 1) := by decide +kernel
theorem dL_law_246 : decode cL_law 246 = .ok (.iload 4, 2) := by decide +kernel
theorem dL_law_248 : decode cL_law 248 = .ok (.iconst 5, 1) := by decide +kernel
theorem dL_law_249 : decode cL_law 249 = .ok (.iadd, 1) := by decide +kernel
theorem dL_law_250 : decode cL_law 250 = .ok (.iaload, 1) := by decide +kernel
theorem dL_law_251 : decode cL_law 251 = .ok (.invokevirtual 19, 3) := by decide +kernel
theorem dL_law_254 : decode cL_law 254 = .ok (.aload_n 2, 1) := by decide +kernel
theorem dL_law_255 : decode cL_law 255 = .ok (.aload_n 0, 1) := by decide +kernel
theorem dL_law_256 : decode cL_law 256 = .ok (.iload 4, 2) := by decide +kernel
theorem dL_law_258 : decode cL_law 258 = .ok (.iconst 1, 1) := by decide +kernel
theorem dL_law_259 : decode cL_law 259 = .ok (.iadd, 1) := by decide +kernel
theorem dL_law_260 : decode cL_law 260 = .ok (.iaload, 1) := by decide +kernel
theorem dL_law_261 : decode cL_law 261 = .ok (.aload_n 0, 1) := by decide +kernel
theorem dL_law_262 : decode cL_law 262 = .ok (.iload 4, 2) := by decide +kernel
theorem dL_law_264 : decode cL_law 264 = .ok (.iconst 2, 1) := by decide +kernel
theorem dL_law_265 : decode cL_law 265 = .ok (.iadd, 1) := by decide +kernel
theorem dL_law_266 : decode cL_law 266 = .ok (.iaload, 1) := by decide +kernel
theorem dL_law_267 : decode cL_law 267 = .ok (.aload_n 0, 1) := by decide +kernel
theorem dL_law_268 : decode cL_law 268 = .ok (.iload 4, 2) := by decide +kernel
theorem dL_law_270 : decode cL_law 270 = .ok (.iconst 3, 1) := by decide +kernel
theorem dL_law_271 : decode cL_law 271 = .ok (.iadd, 1) := by decide +kernel
theorem dL_law_272 : decode cL_law 272 = .ok (.iaload, 1) := by decide +kernel
theorem dL_law_273 : decode cL_law 273 = .ok (.aload_n 0, 1) := by decide +kernel
theorem dL_law_274 : decode cL_law 274 = .ok (.iload 4, 2) := by decide +kernel
theorem dL_law_276 : decode cL_law 276 = .ok (.iconst 4, 1) := by decide +kernel
theorem dL_law_277 : decode cL_law 277 = .ok (.iadd, 1) := by decide +kernel
theorem dL_law_278 : decode cL_law 278 = .ok (.iaload, 1) := by decide +kernel
theorem dL_law_279 : decode cL_law 279 = .ok (.aload_n 0, 1) := by decide +kernel
theorem dL_law_280 : decode cL_law 280 = .ok (.iload 4, 2) := by decide +kernel
theorem dL_law_282 : decode cL_law 282 = .ok (.iconst 5, 1) := by decide +kernel
theorem dL_law_283 : decode cL_law 283 = .ok (.iadd, 1) := by decide +kernel
theorem dL_law_284 : decode cL_law 284 = .ok (.iaload, 1) := by decide +kernel
theorem dL_law_285 : decode cL_law 285 = .ok (.invokevirtual 23, 3) := by decide +kernel
theorem dL_law_288 : decode cL_law 288 = .ok (.if_icmp .eq 1132, 3) := by decide +kernel
theorem dL_law_293 : decode cL_law 293 = .ok (.aload_n 1, 1) := by decide +kernel
theorem dL_law_294 : decode cL_law 294 = .ok (.aload_n 0, 1) := by decide +kernel
theorem dL_law_295 : decode cL_law 295 = .ok (.iload 4, 2) := by decide +kernel
theorem dL_law_297 : decode cL_law 297 = .ok (.iconst 1, 1) := by decide +kernel
theorem dL_law_298 : decode cL_law 298 = .ok (.iadd, 1) := by decide +kernel
theorem dL_law_299 : decode cL_law 299 = .ok (.iaload, 1) := by decide +kernel
theorem dL_law_300 : decode cL_law 300 = .ok (.invokevirtual 24, 3) := by decide +kernel
theorem dL_law_303 : decode cL_law 303 = .ok (.aload_n 2, 1) := by decide +kernel
theorem dL_law_304 : decode cL_law 304 = .ok (.aload_n 0, 1) := by decide +kernel
theorem dL_law_305 : decode cL_law 305 = .ok (.iload 4, 2) := by decide +kernel
theorem dL_law_307 : decode cL_law 307 = .ok (.iconst 1, 1) := by decide +kernel
theorem dL_law_308 : decode cL_law 308 = .ok (.iadd, 1) := by decide +kernel
theorem dL_law_309 : decode cL_law 309 = .ok (.iaload, 1) := by decide +kernel
theorem dL_law_310 : decode cL_law 310 = .ok (.invokevirtual 27, 3) := by decide +kernel
theorem dL_law_313 : decode cL_law 313 = .ok (.if_icmp .eq 1107, 3) := by decide +kernel
theorem dL_law_318 : decode cL_law 318 = .ok (.aload_n 1, 1) := by decide +kernel
theorem dL_law_319 : decode cL_law 319 = .ok (.invokevirtual 28, 3) := by decide +kernel
theorem dL_law_322 : decode cL_law 322 = .ok (.aload_n 2, 1) := by decide +kernel
theorem dL_law_323 : decode cL_law 323 = .ok (.invokevirtual 32, 3) := by decide +kernel
theorem dL_law_326 : decode cL_law 326 = .ok (.if_icmp .eq 1094, 3) := by decide +kernel
theorem dL_law_331 : decode cL_law 331 = .ok (.aload_n 1, 1) := by decide +kernel
theorem dL_law_332 : decode cL_law 332 = .ok (.invokevirtual 33, 3) := by decide +kernel
theorem dL_law_335 : decode cL_law 335 = .ok (.aload_n 2, 1) := by decide +kernel
theorem dL_law_336 : decode cL_law 336 = .ok (.invokevirtual 36, 3) := by decide +kernel
theorem dL_law_339 : decode cL_law 339 = .ok (.if_icmp .eq 1081, 3) := by decide +kernel
theorem dL_law_344 : decode cL_law 344 = .ok (.aload_n 1, 1) := by decide +kernel
theorem dL_law_345 : decode cL_law 345 = .ok (.aload_n 0, 1) := by decide +kernel
theorem dL_law_346 : decode cL_law 346 = .ok (.iload 4, 2) := by decide +kernel
theorem dL_law_348 : decode cL_law 348 = .ok (.iconst 1, 1) := by decide +kernel
theorem dL_law_349 : decode cL_law 349 = .ok (.iadd, 1) := by decide +kernel
theorem dL_law_350 : decode cL_law 350 = .ok (.iaload, 1) := by decide +kernel
theorem dL_law_351 : decode cL_law 351 = .ok (.invokevirtual 37, 3) := by decide +kernel
theorem dL_law_354 : decode cL_law 354 = .ok (.aload_n 2, 1) := by decide +kernel
theorem dL_law_355 : decode cL_law 355 = .ok (.aload_n 0, 1) := by decide +kernel
theorem dL_law_356 : decode cL_law 356 = .ok (.iload 4, 2) := by decide +kernel
theorem dL_law_358 : decode cL_law 358 = .ok (.iconst 1, 1) := by decide +kernel
theorem dL_law_359 : decode cL_law 359 = .ok (.iadd, 1) := by decide +kernel
theorem dL_law_360 : decode cL_law 360 = .ok (.iaload, 1) := by decide +kernel
theorem dL_law_361 : decode cL_law 361 = .ok (.invokevirtual 40, 3) := by decide +kernel
theorem dL_law_364 : decode cL_law 364 = .ok (.if_icmp .eq 1056, 3) := by decide +kernel
theorem dL_law_369 : decode cL_law 369 = .ok (.aload_n 1, 1) := by decide +kernel
theorem dL_law_370 : decode cL_law 370 = .ok (.aload_n 0, 1) := by decide +kernel
theorem dL_law_371 : decode cL_law 371 = .ok (.iload 4, 2) := by decide +kernel
theorem dL_law_373 : decode cL_law 373 = .ok (.iconst 1, 1) := by decide +kernel
theorem dL_law_374 : decode cL_law 374 = .ok (.iadd, 1) := by decide +kernel
theorem dL_law_375 : decode cL_law 375 = .ok (.iaload, 1) := by decide +kernel
theorem dL_law_376 : decode cL_law 376 = .ok (.aload_n 0, 1) := by decide +kernel
theorem dL_law_377 : decode cL_law 377 = .ok (.iload 4, 2) := by decide +kernel
theorem dL_law_379 : decode cL_law 379 = .ok (.iconst 2, 1) := by decide +kernel
theorem dL_law_380 : decode cL_law 380 = .ok (.iadd, 1) := by decide +kernel
theorem dL_law_381 : decode cL_law 381 = .ok (.iaload, 1) := by decide +kernel
theorem dL_law_382 : decode cL_law 382 = .ok (.aload_n 0, 1) := by decide +kernel
theorem dL_law_383 : decode cL_law 383 = .ok (.iload 4, 2) := by decide +kernel
theorem dL_law_385 : decode cL_law 385 = .ok (.iconst 3, 1) := by decide +kernel
theorem dL_law_386 : decode cL_law 386 = .ok (.iadd, 1) := by decide +kernel
theorem dL_law_387 : decode cL_law 387 = .ok (.iaload, 1) := by decide +kernel
theorem dL_law_388 : decode cL_law 388 = .ok (.ifCond .eq 7, 3) := by decide +kernel
theorem dL_law_391 : decode cL_law 391 = .ok (.iconst 1, 1) := by decide +kernel
theorem dL_law_392 : decode cL_law 392 = .ok (.goto 4, 3) := by decide +kernel
theorem dL_law_395 : decode cL_law 395 = .ok (.iconst 0, 1) := by decide +kernel
theorem dL_law_396 : decode cL_law 396 = .ok (.invokevirtual 41, 3) := by decide +kernel
theorem dL_law_399 : decode cL_law 399 = .ok (.aload_n 2, 1) := by decide +kernel
theorem dL_law_400 : decode cL_law 400 = .ok (.aload_n 0, 1) := by decide +kernel
theorem dL_law_401 : decode cL_law 401 = .ok (.iload 4, 2) := by decide +kernel
theorem dL_law_403 : decode cL_law 403 = .ok (.iconst 1, 1) := by decide +kernel
theorem dL_law_404 : decode cL_law 404 = .ok (.iadd, 1) := by decide +kernel
theorem dL_law_405 : decode cL_law 405 = .ok (.iaload, 1) := by decide +kernel
theorem dL_law_406 : decode cL_law 406 = .ok (.aload_n 0, 1) := by decide +kernel
theorem dL_law_407 : decode cL_law 407 = .ok (.iload 4, 2) := by decide +kernel
theorem dL_law_409 : decode cL_law 409 = .ok (.iconst 2, 1) := by decide +kernel
theorem dL_law_410 : decode cL_law 410 = .ok (.iadd, 1) := by decide +kernel
theorem dL_law_411 : decode cL_law 411 = .ok (.iaload, 1) := by decide +kernel
theorem dL_law_412 : decode cL_law 412 = .ok (.aload_n 0, 1) := by decide +kernel
theorem dL_law_413 : decode cL_law 413 = .ok (.iload 4, 2) := by decide +kernel
theorem dL_law_415 : decode cL_law 415 = .ok (.iconst 3, 1) := by decide +kernel
theorem dL_law_416 : decode cL_law 416 = .ok (.iadd, 1) := by decide +kernel
theorem dL_law_417 : decode cL_law 417 = .ok (.iaload, 1) := by decide +kernel
theorem dL_law_418 : decode cL_law 418 = .ok (.ifCond .eq 7, 3) := by decide +kernel
theorem dL_law_421 : decode cL_law 421 = .ok (.iconst 1, 1) := by decide +kernel
theorem dL_law_422 : decode cL_law 422 = .ok (.goto 4, 3) := by decide +kernel
theorem dL_law_425 : decode cL_law 425 = .ok (.iconst 0, 1) := by decide +kernel
theorem dL_law_426 : decode cL_law 426 = .ok (.invokevirtual 45, 3) := by decide +kernel
theorem dL_law_429 : decode cL_law 429 = .ok (.if_icmp .eq 991, 3) := by decide +kernel
theorem dL_law_434 : decode cL_law 434 = .ok (.aload_n 1, 1) := by decide +kernel
theorem dL_law_435 : decode cL_law 435 = .ok (.aload_n 0, 1) := by decide +kernel
theorem dL_law_436 : decode cL_law 436 = .ok (.iload 4, 2) := by decide +kernel
theorem dL_law_438 : decode cL_law 438 = .ok (.iconst 1, 1) := by decide +kernel
theorem dL_law_439 : decode cL_law 439 = .ok (.iadd, 1) := by decide +kernel
theorem dL_law_440 : decode cL_law 440 = .ok (.iaload, 1) := by decide +kernel
theorem dL_law_441 : decode cL_law 441 = .ok (.aload_n 0, 1) := by decide +kernel
theorem dL_law_442 : decode cL_law 442 = .ok (.iload 4, 2) := by decide +kernel
theorem dL_law_444 : decode cL_law 444 = .ok (.iconst 2, 1) := by decide +kernel
theorem dL_law_445 : decode cL_law 445 = .ok (.iadd, 1) := by decide +kernel
theorem dL_law_446 : decode cL_law 446 = .ok (.iaload, 1) := by decide +kernel
theorem dL_law_447 : decode cL_law 447 = .ok (.ifCond .eq 7, 3) := by decide +kernel
theorem dL_law_450 : decode cL_law 450 = .ok (.iconst 1, 1) := by decide +kernel
theorem dL_law_451 : decode cL_law 451 = .ok (.goto 4, 3) := by decide +kernel
theorem dL_law_454 : decode cL_law 454 = .ok (.iconst 0, 1) := by decide +kernel
theorem dL_law_455 : decode cL_law 455 = .ok (.invokevirtual 46, 3) := by decide +kernel
theorem dL_law_458 : decode cL_law 458 = .ok (.aload_n 2, 1) := by decide +kernel
theorem dL_law_459 : decode cL_law 459 = .ok (.aload_n 0, 1) := by decide +kernel
theorem dL_law_460 : decode cL_law 460 = .ok (.iload 4, 2) := by decide +kernel
theorem dL_law_462 : decode cL_law 462 = .ok (.iconst 1, 1) := by decide +kernel
theorem dL_law_463 : decode cL_law 463 = .ok (.iadd, 1) := by decide +kernel
theorem dL_law_464 : decode cL_law 464 = .ok (.iaload, 1) := by decide +kernel
theorem dL_law_465 : decode cL_law 465 = .ok (.aload_n 0, 1) := by decide +kernel
theorem dL_law_466 : decode cL_law 466 = .ok (.iload 4, 2) := by decide +kernel
theorem dL_law_468 : decode cL_law 468 = .ok (.iconst 2, 1) := by decide +kernel
theorem dL_law_469 : decode cL_law 469 = .ok (.iadd, 1) := by decide +kernel
theorem dL_law_470 : decode cL_law 470 = .ok (.iaload, 1) := by decide +kernel
theorem dL_law_471 : decode cL_law 471 = .ok (.ifCond .eq 7, 3) := by decide +kernel
theorem dL_law_474 : decode cL_law 474 = .ok (.iconst 1, 1) := by decide +kernel
theorem dL_law_475 : decode cL_law 475 = .ok (.goto 4, 3) := by decide +kernel
theorem dL_law_478 : decode cL_law 478 = .ok (.iconst 0, 1) := by decide +kernel
theorem dL_law_479 : decode cL_law 479 = .ok (.invokevirtual 50, 3) := by decide +kernel
theorem dL_law_482 : decode cL_law 482 = .ok (.if_icmp .eq 938, 3) := by decide +kernel
theorem dL_law_487 : decode cL_law 487 = .ok (.aload_n 1, 1) := by decide +kernel
theorem dL_law_488 : decode cL_law 488 = .ok (.aload_n 0, 1) := by decide +kernel
theorem dL_law_489 : decode cL_law 489 = .ok (.iload 4, 2) := by decide +kernel
theorem dL_law_491 : decode cL_law 491 = .ok (.iconst 1, 1) := by decide +kernel
theorem dL_law_492 : decode cL_law 492 = .ok (.iadd, 1) := by decide +kernel
theorem dL_law_493 : decode cL_law 493 = .ok (.iaload, 1) := by decide +kernel
theorem dL_law_494 : decode cL_law 494 = .ok (.aload_n 0, 1) := by decide +kernel
theorem dL_law_495 : decode cL_law 495 = .ok (.iload 4, 2) := by decide +kernel
theorem dL_law_497 : decode cL_law 497 = .ok (.iconst 2, 1) := by decide +kernel
theorem dL_law_498 : decode cL_law 498 = .ok (.iadd, 1) := by decide +kernel
theorem dL_law_499 : decode cL_law 499 = .ok (.iaload, 1) := by decide +kernel
theorem dL_law_500 : decode cL_law 500 = .ok (.invokevirtual 51, 3) := by decide +kernel
theorem dL_law_503 : decode cL_law 503 = .ok (.aload_n 2, 1) := by decide +kernel
theorem dL_law_504 : decode cL_law 504 = .ok (.aload_n 0, 1) := by decide +kernel
theorem dL_law_505 : decode cL_law 505 = .ok (.iload 4, 2) := by decide +kernel
theorem dL_law_507 : decode cL_law 507 = .ok (.iconst 1, 1) := by decide +kernel
theorem dL_law_508 : decode cL_law 508 = .ok (.iadd, 1) := by decide +kernel
theorem dL_law_509 : decode cL_law 509 = .ok (.iaload, 1) := by decide +kernel
theorem dL_law_510 : decode cL_law 510 = .ok (.aload_n 0, 1) := by decide +kernel
theorem dL_law_511 : decode cL_law 511 = .ok (.iload 4, 2) := by decide +kernel
theorem dL_law_513 : decode cL_law 513 = .ok (.iconst 2, 1) := by decide +kernel
theorem dL_law_514 : decode cL_law 514 = .ok (.iadd, 1) := by decide +kernel
theorem dL_law_515 : decode cL_law 515 = .ok (.iaload, 1) := by decide +kernel
theorem dL_law_516 : decode cL_law 516 = .ok (.invokevirtual 55, 3) := by decide +kernel
theorem dL_law_519 : decode cL_law 519 = .ok (.if_icmp .eq 901, 3) := by decide +kernel
theorem dL_law_524 : decode cL_law 524 = .ok (.aload_n 1, 1) := by decide +kernel
theorem dL_law_525 : decode cL_law 525 = .ok (.invokevirtual 56, 3) := by decide +kernel
theorem dL_law_528 : decode cL_law 528 = .ok (.aload_n 2, 1) := by decide +kernel
theorem dL_law_529 : decode cL_law 529 = .ok (.invokevirtual 59, 3) := by decide +kernel
theorem dL_law_532 : decode cL_law 532 = .ok (.if_icmp .eq 888, 3) := by decide +kernel
theorem dL_law_537 : decode cL_law 537 = .ok (.aload_n 1, 1) := by decide +kernel
theorem dL_law_538 : decode cL_law 538 = .ok (.aload_n 0, 1) := by decide +kernel
theorem dL_law_539 : decode cL_law 539 = .ok (.iload 4, 2) := by decide +kernel
theorem dL_law_541 : decode cL_law 541 = .ok (.iconst 1, 1) := by decide +kernel
theorem dL_law_542 : decode cL_law 542 = .ok (.iadd, 1) := by decide +kernel
theorem dL_law_543 : decode cL_law 543 = .ok (.iaload, 1) := by decide +kernel
theorem dL_law_544 : decode cL_law 544 = .ok (.invokevirtual 60, 3) := by decide +kernel
theorem dL_law_547 : decode cL_law 547 = .ok (.aload_n 2, 1) := by decide +kernel
theorem dL_law_548 : decode cL_law 548 = .ok (.aload_n 0, 1) := by decide +kernel
theorem dL_law_549 : decode cL_law 549 = .ok (.iload 4, 2) := by decide +kernel
theorem dL_law_551 : decode cL_law 551 = .ok (.iconst 1, 1) := by decide +kernel
theorem dL_law_552 : decode cL_law 552 = .ok (.iadd, 1) := by decide +kernel
theorem dL_law_553 : decode cL_law 553 = .ok (.iaload, 1) := by decide +kernel
theorem dL_law_554 : decode cL_law 554 = .ok (.invokevirtual 63, 3) := by decide +kernel
theorem dL_law_557 : decode cL_law 557 = .ok (.if_icmp .eq 863, 3) := by decide +kernel
theorem dL_law_562 : decode cL_law 562 = .ok (.aload_n 1, 1) := by decide +kernel
theorem dL_law_563 : decode cL_law 563 = .ok (.aload_n 0, 1) := by decide +kernel
theorem dL_law_564 : decode cL_law 564 = .ok (.iload 4, 2) := by decide +kernel
theorem dL_law_566 : decode cL_law 566 = .ok (.iconst 1, 1) := by decide +kernel
theorem dL_law_567 : decode cL_law 567 = .ok (.iadd, 1) := by decide +kernel
theorem dL_law_568 : decode cL_law 568 = .ok (.iaload, 1) := by decide +kernel
theorem dL_law_569 : decode cL_law 569 = .ok (.aload_n 0, 1) := by decide +kernel
theorem dL_law_570 : decode cL_law 570 = .ok (.iload 4, 2) := by decide +kernel
theorem dL_law_572 : decode cL_law 572 = .ok (.iconst 2, 1) := by decide +kernel
theorem dL_law_573 : decode cL_law 573 = .ok (.iadd, 1) := by decide +kernel
theorem dL_law_574 : decode cL_law 574 = .ok (.iaload, 1) := by decide +kernel
theorem dL_law_575 : decode cL_law 575 = .ok (.invokevirtual 64, 3) := by decide +kernel
theorem dL_law_578 : decode cL_law 578 = .ok (.aload_n 2, 1) := by decide +kernel
theorem dL_law_579 : decode cL_law 579 = .ok (.aload_n 0, 1) := by decide +kernel
theorem dL_law_580 : decode cL_law 580 = .ok (.iload 4, 2) := by decide +kernel
theorem dL_law_582 : decode cL_law 582 = .ok (.iconst 1, 1) := by decide +kernel
theorem dL_law_583 : decode cL_law 583 = .ok (.iadd, 1) := by decide +kernel
theorem dL_law_584 : decode cL_law 584 = .ok (.iaload, 1) := by decide +kernel
theorem dL_law_585 : decode cL_law 585 = .ok (.aload_n 0, 1) := by decide +kernel
theorem dL_law_586 : decode cL_law 586 = .ok (.iload 4, 2) := by decide +kernel
theorem dL_law_588 : decode cL_law 588 = .ok (.iconst 2, 1) := by decide +kernel
theorem dL_law_589 : decode cL_law 589 = .ok (.iadd, 1) := by decide +kernel
theorem dL_law_590 : decode cL_law 590 = .ok (.iaload, 1) := by decide +kernel
theorem dL_law_591 : decode cL_law 591 = .ok (.invokevirtual 67, 3) := by decide +kernel
theorem dL_law_594 : decode cL_law 594 = .ok (.if_icmp .eq 826, 3) := by decide +kernel
theorem dL_law_599 : decode cL_law 599 = .ok (.aload_n 1, 1) := by decide +kernel
theorem dL_law_600 : decode cL_law 600 = .ok (.aload_n 0, 1) := by decide +kernel
theorem dL_law_601 : decode cL_law 601 = .ok (.iload 4, 2) := by decide +kernel
theorem dL_law_603 : decode cL_law 603 = .ok (.iconst 1, 1) := by decide +kernel
theorem dL_law_604 : decode cL_law 604 = .ok (.iadd, 1) := by decide +kernel
theorem dL_law_605 : decode cL_law 605 = .ok (.iaload, 1) := by decide +kernel
theorem dL_law_606 : decode cL_law 606 = .ok (.aload_n 0, 1) := by decide +kernel
theorem dL_law_607 : decode cL_law 607 = .ok (.iload 4, 2) := by decide +kernel
theorem dL_law_609 : decode cL_law 609 = .ok (.iconst 2, 1) := by decide +kernel
theorem dL_law_610 : decode cL_law 610 = .ok (.iadd, 1) := by decide +kernel
theorem dL_law_611 : decode cL_law 611 = .ok (.iaload, 1) := by decide +kernel
theorem dL_law_612 : decode cL_law 612 = .ok (.aload_n 0, 1) := by decide +kernel
theorem dL_law_613 : decode cL_law 613 = .ok (.iload 4, 2) := by decide +kernel
theorem dL_law_615 : decode cL_law 615 = .ok (.iconst 3, 1) := by decide +kernel
theorem dL_law_616 : decode cL_law 616 = .ok (.iadd, 1) := by decide +kernel
theorem dL_law_617 : decode cL_law 617 = .ok (.iaload, 1) := by decide +kernel
theorem dL_law_618 : decode cL_law 618 = .ok (.invokevirtual 68, 3) := by decide +kernel
theorem dL_law_621 : decode cL_law 621 = .ok (.aload_n 2, 1) := by decide +kernel
theorem dL_law_622 : decode cL_law 622 = .ok (.aload_n 0, 1) := by decide +kernel
theorem dL_law_623 : decode cL_law 623 = .ok (.iload 4, 2) := by decide +kernel
theorem dL_law_625 : decode cL_law 625 = .ok (.iconst 1, 1) := by decide +kernel
theorem dL_law_626 : decode cL_law 626 = .ok (.iadd, 1) := by decide +kernel
theorem dL_law_627 : decode cL_law 627 = .ok (.iaload, 1) := by decide +kernel
theorem dL_law_628 : decode cL_law 628 = .ok (.aload_n 0, 1) := by decide +kernel
theorem dL_law_629 : decode cL_law 629 = .ok (.iload 4, 2) := by decide +kernel
theorem dL_law_631 : decode cL_law 631 = .ok (.iconst 2, 1) := by decide +kernel
theorem dL_law_632 : decode cL_law 632 = .ok (.iadd, 1) := by decide +kernel
theorem dL_law_633 : decode cL_law 633 = .ok (.iaload, 1) := by decide +kernel
theorem dL_law_634 : decode cL_law 634 = .ok (.aload_n 0, 1) := by decide +kernel
theorem dL_law_635 : decode cL_law 635 = .ok (.iload 4, 2) := by decide +kernel
theorem dL_law_637 : decode cL_law 637 = .ok (.iconst 3, 1) := by decide +kernel
theorem dL_law_638 : decode cL_law 638 = .ok (.iadd, 1) := by decide +kernel
theorem dL_law_639 : decode cL_law 639 = .ok (.iaload, 1) := by decide +kernel
theorem dL_law_640 : decode cL_law 640 = .ok (.invokevirtual 72, 3) := by decide +kernel
theorem dL_law_643 : decode cL_law 643 = .ok (.if_icmp .eq 777, 3) := by decide +kernel
theorem dL_law_648 : decode cL_law 648 = .ok (.aload_n 1, 1) := by decide +kernel
theorem dL_law_649 : decode cL_law 649 = .ok (.aload_n 0, 1) := by decide +kernel
theorem dL_law_650 : decode cL_law 650 = .ok (.iload 4, 2) := by decide +kernel
theorem dL_law_652 : decode cL_law 652 = .ok (.iconst 1, 1) := by decide +kernel
theorem dL_law_653 : decode cL_law 653 = .ok (.iadd, 1) := by decide +kernel
theorem dL_law_654 : decode cL_law 654 = .ok (.iaload, 1) := by decide +kernel
theorem dL_law_655 : decode cL_law 655 = .ok (.aload_n 0, 1) := by decide +kernel
theorem dL_law_656 : decode cL_law 656 = .ok (.iload 4, 2) := by decide +kernel
theorem dL_law_658 : decode cL_law 658 = .ok (.iconst 2, 1) := by decide +kernel
theorem dL_law_659 : decode cL_law 659 = .ok (.iadd, 1) := by decide +kernel
theorem dL_law_660 : decode cL_law 660 = .ok (.iaload, 1) := by decide +kernel
theorem dL_law_661 : decode cL_law 661 = .ok (.invokevirtual 73, 3) := by decide +kernel
theorem dL_law_664 : decode cL_law 664 = .ok (.aload_n 2, 1) := by decide +kernel
theorem dL_law_665 : decode cL_law 665 = .ok (.aload_n 0, 1) := by decide +kernel
theorem dL_law_666 : decode cL_law 666 = .ok (.iload 4, 2) := by decide +kernel
theorem dL_law_668 : decode cL_law 668 = .ok (.iconst 1, 1) := by decide +kernel
theorem dL_law_669 : decode cL_law 669 = .ok (.iadd, 1) := by decide +kernel
theorem dL_law_670 : decode cL_law 670 = .ok (.iaload, 1) := by decide +kernel
theorem dL_law_671 : decode cL_law 671 = .ok (.aload_n 0, 1) := by decide +kernel
theorem dL_law_672 : decode cL_law 672 = .ok (.iload 4, 2) := by decide +kernel
theorem dL_law_674 : decode cL_law 674 = .ok (.iconst 2, 1) := by decide +kernel
theorem dL_law_675 : decode cL_law 675 = .ok (.iadd, 1) := by decide +kernel
theorem dL_law_676 : decode cL_law 676 = .ok (.iaload, 1) := by decide +kernel
theorem dL_law_677 : decode cL_law 677 = .ok (.invokevirtual 76, 3) := by decide +kernel
theorem dL_law_680 : decode cL_law 680 = .ok (.if_icmp .eq 740, 3) := by decide +kernel
theorem dL_law_685 : decode cL_law 685 = .ok (.aload_n 1, 1) := by decide +kernel
theorem dL_law_686 : decode cL_law 686 = .ok (.aload_n 0, 1) := by decide +kernel
theorem dL_law_687 : decode cL_law 687 = .ok (.iload 4, 2) := by decide +kernel
theorem dL_law_689 : decode cL_law 689 = .ok (.iconst 1, 1) := by decide +kernel
theorem dL_law_690 : decode cL_law 690 = .ok (.iadd, 1) := by decide +kernel
theorem dL_law_691 : decode cL_law 691 = .ok (.iaload, 1) := by decide +kernel
theorem dL_law_692 : decode cL_law 692 = .ok (.invokevirtual 77, 3) := by decide +kernel
theorem dL_law_695 : decode cL_law 695 = .ok (.aload_n 2, 1) := by decide +kernel
theorem dL_law_696 : decode cL_law 696 = .ok (.aload_n 0, 1) := by decide +kernel
theorem dL_law_697 : decode cL_law 697 = .ok (.iload 4, 2) := by decide +kernel
theorem dL_law_699 : decode cL_law 699 = .ok (.iconst 1, 1) := by decide +kernel
theorem dL_law_700 : decode cL_law 700 = .ok (.iadd, 1) := by decide +kernel
theorem dL_law_701 : decode cL_law 701 = .ok (.iaload, 1) := by decide +kernel
theorem dL_law_702 : decode cL_law 702 = .ok (.invokevirtual 80, 3) := by decide +kernel
theorem dL_law_705 : decode cL_law 705 = .ok (.if_icmp .eq 715, 3) := by decide +kernel
theorem dL_law_710 : decode cL_law 710 = .ok (.aload_n 1, 1) := by decide +kernel
theorem dL_law_711 : decode cL_law 711 = .ok (.aload_n 0, 1) := by decide +kernel
theorem dL_law_712 : decode cL_law 712 = .ok (.iload 4, 2) := by decide +kernel
theorem dL_law_714 : decode cL_law 714 = .ok (.iconst 1, 1) := by decide +kernel
theorem dL_law_715 : decode cL_law 715 = .ok (.iadd, 1) := by decide +kernel
theorem dL_law_716 : decode cL_law 716 = .ok (.iaload, 1) := by decide +kernel
theorem dL_law_717 : decode cL_law 717 = .ok (.aload_n 0, 1) := by decide +kernel
theorem dL_law_718 : decode cL_law 718 = .ok (.iload 4, 2) := by decide +kernel
theorem dL_law_720 : decode cL_law 720 = .ok (.iconst 2, 1) := by decide +kernel
theorem dL_law_721 : decode cL_law 721 = .ok (.iadd, 1) := by decide +kernel
theorem dL_law_722 : decode cL_law 722 = .ok (.iaload, 1) := by decide +kernel
theorem dL_law_723 : decode cL_law 723 = .ok (.invokevirtual 81, 3) := by decide +kernel
theorem dL_law_726 : decode cL_law 726 = .ok (.aload_n 2, 1) := by decide +kernel
theorem dL_law_727 : decode cL_law 727 = .ok (.aload_n 0, 1) := by decide +kernel
theorem dL_law_728 : decode cL_law 728 = .ok (.iload 4, 2) := by decide +kernel
theorem dL_law_730 : decode cL_law 730 = .ok (.iconst 1, 1) := by decide +kernel
theorem dL_law_731 : decode cL_law 731 = .ok (.iadd, 1) := by decide +kernel
theorem dL_law_732 : decode cL_law 732 = .ok (.iaload, 1) := by decide +kernel
theorem dL_law_733 : decode cL_law 733 = .ok (.aload_n 0, 1) := by decide +kernel
theorem dL_law_734 : decode cL_law 734 = .ok (.iload 4, 2) := by decide +kernel
theorem dL_law_736 : decode cL_law 736 = .ok (.iconst 2, 1) := by decide +kernel
theorem dL_law_737 : decode cL_law 737 = .ok (.iadd, 1) := by decide +kernel
theorem dL_law_738 : decode cL_law 738 = .ok (.iaload, 1) := by decide +kernel
theorem dL_law_739 : decode cL_law 739 = .ok (.invokevirtual 84, 3) := by decide +kernel
theorem dL_law_742 : decode cL_law 742 = .ok (.if_icmp .eq 678, 3) := by decide +kernel
theorem dL_law_747 : decode cL_law 747 = .ok (.aload_n 1, 1) := by decide +kernel
theorem dL_law_748 : decode cL_law 748 = .ok (.aload_n 0, 1) := by decide +kernel
theorem dL_law_749 : decode cL_law 749 = .ok (.iload 4, 2) := by decide +kernel
theorem dL_law_751 : decode cL_law 751 = .ok (.iconst 1, 1) := by decide +kernel
theorem dL_law_752 : decode cL_law 752 = .ok (.iadd, 1) := by decide +kernel
theorem dL_law_753 : decode cL_law 753 = .ok (.iaload, 1) := by decide +kernel
theorem dL_law_754 : decode cL_law 754 = .ok (.aload_n 0, 1) := by decide +kernel
theorem dL_law_755 : decode cL_law 755 = .ok (.iload 4, 2) := by decide +kernel
theorem dL_law_757 : decode cL_law 757 = .ok (.iconst 2, 1) := by decide +kernel
theorem dL_law_758 : decode cL_law 758 = .ok (.iadd, 1) := by decide +kernel
theorem dL_law_759 : decode cL_law 759 = .ok (.iaload, 1) := by decide +kernel
theorem dL_law_760 : decode cL_law 760 = .ok (.invokevirtual 85, 3) := by decide +kernel
theorem dL_law_763 : decode cL_law 763 = .ok (.aload_n 2, 1) := by decide +kernel
theorem dL_law_764 : decode cL_law 764 = .ok (.aload_n 0, 1) := by decide +kernel
theorem dL_law_765 : decode cL_law 765 = .ok (.iload 4, 2) := by decide +kernel
theorem dL_law_767 : decode cL_law 767 = .ok (.iconst 1, 1) := by decide +kernel
theorem dL_law_768 : decode cL_law 768 = .ok (.iadd, 1) := by decide +kernel
theorem dL_law_769 : decode cL_law 769 = .ok (.iaload, 1) := by decide +kernel
theorem dL_law_770 : decode cL_law 770 = .ok (.aload_n 0, 1) := by decide +kernel
theorem dL_law_771 : decode cL_law 771 = .ok (.iload 4, 2) := by decide +kernel
theorem dL_law_773 : decode cL_law 773 = .ok (.iconst 2, 1) := by decide +kernel
theorem dL_law_774 : decode cL_law 774 = .ok (.iadd, 1) := by decide +kernel
theorem dL_law_775 : decode cL_law 775 = .ok (.iaload, 1) := by decide +kernel
theorem dL_law_776 : decode cL_law 776 = .ok (.invokevirtual 88, 3) := by decide +kernel
theorem dL_law_779 : decode cL_law 779 = .ok (.if_icmp .eq 641, 3) := by decide +kernel
theorem dL_law_784 : decode cL_law 784 = .ok (.aload_n 1, 1) := by decide +kernel
theorem dL_law_785 : decode cL_law 785 = .ok (.aload_n 0, 1) := by decide +kernel
theorem dL_law_786 : decode cL_law 786 = .ok (.iload 4, 2) := by decide +kernel
theorem dL_law_788 : decode cL_law 788 = .ok (.iconst 1, 1) := by decide +kernel
theorem dL_law_789 : decode cL_law 789 = .ok (.iadd, 1) := by decide +kernel
theorem dL_law_790 : decode cL_law 790 = .ok (.iaload, 1) := by decide +kernel
theorem dL_law_791 : decode cL_law 791 = .ok (.aload_n 0, 1) := by decide +kernel
theorem dL_law_792 : decode cL_law 792 = .ok (.iload 4, 2) := by decide +kernel
theorem dL_law_794 : decode cL_law 794 = .ok (.iconst 2, 1) := by decide +kernel
theorem dL_law_795 : decode cL_law 795 = .ok (.iadd, 1) := by decide +kernel
theorem dL_law_796 : decode cL_law 796 = .ok (.iaload, 1) := by decide +kernel
theorem dL_law_797 : decode cL_law 797 = .ok (.invokevirtual 89, 3) := by decide +kernel
theorem dL_law_800 : decode cL_law 800 = .ok (.aload_n 2, 1) := by decide +kernel
theorem dL_law_801 : decode cL_law 801 = .ok (.aload_n 0, 1) := by decide +kernel
theorem dL_law_802 : decode cL_law 802 = .ok (.iload 4, 2) := by decide +kernel
theorem dL_law_804 : decode cL_law 804 = .ok (.iconst 1, 1) := by decide +kernel
theorem dL_law_805 : decode cL_law 805 = .ok (.iadd, 1) := by decide +kernel
theorem dL_law_806 : decode cL_law 806 = .ok (.iaload, 1) := by decide +kernel
theorem dL_law_807 : decode cL_law 807 = .ok (.aload_n 0, 1) := by decide +kernel
theorem dL_law_808 : decode cL_law 808 = .ok (.iload 4, 2) := by decide +kernel
theorem dL_law_810 : decode cL_law 810 = .ok (.iconst 2, 1) := by decide +kernel
theorem dL_law_811 : decode cL_law 811 = .ok (.iadd, 1) := by decide +kernel
theorem dL_law_812 : decode cL_law 812 = .ok (.iaload, 1) := by decide +kernel
theorem dL_law_813 : decode cL_law 813 = .ok (.invokevirtual 92, 3) := by decide +kernel
theorem dL_law_816 : decode cL_law 816 = .ok (.if_icmp .eq 604, 3) := by decide +kernel
theorem dL_law_821 : decode cL_law 821 = .ok (.aload_n 1, 1) := by decide +kernel
theorem dL_law_822 : decode cL_law 822 = .ok (.aload_n 0, 1) := by decide +kernel
theorem dL_law_823 : decode cL_law 823 = .ok (.iload 4, 2) := by decide +kernel
theorem dL_law_825 : decode cL_law 825 = .ok (.iconst 1, 1) := by decide +kernel
theorem dL_law_826 : decode cL_law 826 = .ok (.iadd, 1) := by decide +kernel
theorem dL_law_827 : decode cL_law 827 = .ok (.iaload, 1) := by decide +kernel
theorem dL_law_828 : decode cL_law 828 = .ok (.aload_n 0, 1) := by decide +kernel
theorem dL_law_829 : decode cL_law 829 = .ok (.iload 4, 2) := by decide +kernel
theorem dL_law_831 : decode cL_law 831 = .ok (.iconst 2, 1) := by decide +kernel
theorem dL_law_832 : decode cL_law 832 = .ok (.iadd, 1) := by decide +kernel
theorem dL_law_833 : decode cL_law 833 = .ok (.iaload, 1) := by decide +kernel
theorem dL_law_834 : decode cL_law 834 = .ok (.invokevirtual 93, 3) := by decide +kernel
theorem dL_law_837 : decode cL_law 837 = .ok (.aload_n 2, 1) := by decide +kernel
theorem dL_law_838 : decode cL_law 838 = .ok (.aload_n 0, 1) := by decide +kernel
theorem dL_law_839 : decode cL_law 839 = .ok (.iload 4, 2) := by decide +kernel
theorem dL_law_841 : decode cL_law 841 = .ok (.iconst 1, 1) := by decide +kernel
theorem dL_law_842 : decode cL_law 842 = .ok (.iadd, 1) := by decide +kernel
theorem dL_law_843 : decode cL_law 843 = .ok (.iaload, 1) := by decide +kernel
theorem dL_law_844 : decode cL_law 844 = .ok (.aload_n 0, 1) := by decide +kernel
theorem dL_law_845 : decode cL_law 845 = .ok (.iload 4, 2) := by decide +kernel
theorem dL_law_847 : decode cL_law 847 = .ok (.iconst 2, 1) := by decide +kernel
theorem dL_law_848 : decode cL_law 848 = .ok (.iadd, 1) := by decide +kernel
theorem dL_law_849 : decode cL_law 849 = .ok (.iaload, 1) := by decide +kernel
theorem dL_law_850 : decode cL_law 850 = .ok (.invokevirtual 96, 3) := by decide +kernel
theorem dL_law_853 : decode cL_law 853 = .ok (.if_icmp .eq 567, 3) := by decide +kernel
theorem dL_law_858 : decode cL_law 858 = .ok (.aload_n 1, 1) := by decide +kernel
theorem dL_law_859 : decode cL_law 859 = .ok (.aload_n 0, 1) := by decide +kernel
theorem dL_law_860 : decode cL_law 860 = .ok (.iload 4, 2) := by decide +kernel
theorem dL_law_862 : decode cL_law 862 = .ok (.iconst 1, 1) := by decide +kernel
theorem dL_law_863 : decode cL_law 863 = .ok (.iadd, 1) := by decide +kernel
theorem dL_law_864 : decode cL_law 864 = .ok (.iaload, 1) := by decide +kernel
theorem dL_law_865 : decode cL_law 865 = .ok (.aload_n 0, 1) := by decide +kernel
theorem dL_law_866 : decode cL_law 866 = .ok (.iload 4, 2) := by decide +kernel
theorem dL_law_868 : decode cL_law 868 = .ok (.iconst 2, 1) := by decide +kernel
theorem dL_law_869 : decode cL_law 869 = .ok (.iadd, 1) := by decide +kernel
theorem dL_law_870 : decode cL_law 870 = .ok (.iaload, 1) := by decide +kernel
theorem dL_law_871 : decode cL_law 871 = .ok (.invokevirtual 97, 3) := by decide +kernel
theorem dL_law_874 : decode cL_law 874 = .ok (.aload_n 2, 1) := by decide +kernel
theorem dL_law_875 : decode cL_law 875 = .ok (.aload_n 0, 1) := by decide +kernel
theorem dL_law_876 : decode cL_law 876 = .ok (.iload 4, 2) := by decide +kernel
theorem dL_law_878 : decode cL_law 878 = .ok (.iconst 1, 1) := by decide +kernel
theorem dL_law_879 : decode cL_law 879 = .ok (.iadd, 1) := by decide +kernel
theorem dL_law_880 : decode cL_law 880 = .ok (.iaload, 1) := by decide +kernel
theorem dL_law_881 : decode cL_law 881 = .ok (.aload_n 0, 1) := by decide +kernel
theorem dL_law_882 : decode cL_law 882 = .ok (.iload 4, 2) := by decide +kernel
theorem dL_law_884 : decode cL_law 884 = .ok (.iconst 2, 1) := by decide +kernel
theorem dL_law_885 : decode cL_law 885 = .ok (.iadd, 1) := by decide +kernel
theorem dL_law_886 : decode cL_law 886 = .ok (.iaload, 1) := by decide +kernel
theorem dL_law_887 : decode cL_law 887 = .ok (.invokevirtual 100, 3) := by decide +kernel
theorem dL_law_890 : decode cL_law 890 = .ok (.if_icmp .eq 530, 3) := by decide +kernel
theorem dL_law_895 : decode cL_law 895 = .ok (.aload_n 1, 1) := by decide +kernel
theorem dL_law_896 : decode cL_law 896 = .ok (.invokevirtual 101, 3) := by decide +kernel
theorem dL_law_899 : decode cL_law 899 = .ok (.aload_n 2, 1) := by decide +kernel
theorem dL_law_900 : decode cL_law 900 = .ok (.invokevirtual 104, 3) := by decide +kernel
theorem dL_law_903 : decode cL_law 903 = .ok (.if_icmp .eq 517, 3) := by decide +kernel
theorem dL_law_908 : decode cL_law 908 = .ok (.aload_n 1, 1) := by decide +kernel
theorem dL_law_909 : decode cL_law 909 = .ok (.aload_n 0, 1) := by decide +kernel
theorem dL_law_910 : decode cL_law 910 = .ok (.iload 4, 2) := by decide +kernel
theorem dL_law_912 : decode cL_law 912 = .ok (.iconst 1, 1) := by decide +kernel
theorem dL_law_913 : decode cL_law 913 = .ok (.iadd, 1) := by decide +kernel
theorem dL_law_914 : decode cL_law 914 = .ok (.iaload, 1) := by decide +kernel
theorem dL_law_915 : decode cL_law 915 = .ok (.invokevirtual 105, 3) := by decide +kernel
theorem dL_law_918 : decode cL_law 918 = .ok (.aload_n 2, 1) := by decide +kernel
theorem dL_law_919 : decode cL_law 919 = .ok (.aload_n 0, 1) := by decide +kernel
theorem dL_law_920 : decode cL_law 920 = .ok (.iload 4, 2) := by decide +kernel
theorem dL_law_922 : decode cL_law 922 = .ok (.iconst 1, 1) := by decide +kernel
theorem dL_law_923 : decode cL_law 923 = .ok (.iadd, 1) := by decide +kernel
theorem dL_law_924 : decode cL_law 924 = .ok (.iaload, 1) := by decide +kernel
theorem dL_law_925 : decode cL_law 925 = .ok (.invokevirtual 108, 3) := by decide +kernel
theorem dL_law_928 : decode cL_law 928 = .ok (.if_icmp .eq 492, 3) := by decide +kernel
theorem dL_law_933 : decode cL_law 933 = .ok (.aload_n 1, 1) := by decide +kernel
theorem dL_law_934 : decode cL_law 934 = .ok (.invokevirtual 109, 3) := by decide +kernel
theorem dL_law_937 : decode cL_law 937 = .ok (.aload_n 2, 1) := by decide +kernel
theorem dL_law_938 : decode cL_law 938 = .ok (.invokevirtual 112, 3) := by decide +kernel
theorem dL_law_941 : decode cL_law 941 = .ok (.if_icmp .eq 479, 3) := by decide +kernel
theorem dL_law_946 : decode cL_law 946 = .ok (.aload_n 1, 1) := by decide +kernel
theorem dL_law_947 : decode cL_law 947 = .ok (.invokevirtual 113, 3) := by decide +kernel
theorem dL_law_950 : decode cL_law 950 = .ok (.aload_n 2, 1) := by decide +kernel
theorem dL_law_951 : decode cL_law 951 = .ok (.invokevirtual 116, 3) := by decide +kernel
theorem dL_law_954 : decode cL_law 954 = .ok (.if_icmp .eq 466, 3) := by decide +kernel
theorem dL_law_959 : decode cL_law 959 = .ok (.aload_n 1, 1) := by decide +kernel
theorem dL_law_960 : decode cL_law 960 = .ok (.invokevirtual 117, 3) := by decide +kernel
theorem dL_law_963 : decode cL_law 963 = .ok (.aload_n 2, 1) := by decide +kernel
theorem dL_law_964 : decode cL_law 964 = .ok (.invokevirtual 120, 3) := by decide +kernel
theorem dL_law_967 : decode cL_law 967 = .ok (.if_icmp .eq 453, 3) := by decide +kernel
theorem dL_law_972 : decode cL_law 972 = .ok (.aload_n 1, 1) := by decide +kernel
theorem dL_law_973 : decode cL_law 973 = .ok (.invokevirtual 121, 3) := by decide +kernel
theorem dL_law_976 : decode cL_law 976 = .ok (.aload_n 2, 1) := by decide +kernel
theorem dL_law_977 : decode cL_law 977 = .ok (.invokevirtual 124, 3) := by decide +kernel
theorem dL_law_980 : decode cL_law 980 = .ok (.if_icmp .eq 440, 3) := by decide +kernel
theorem dL_law_985 : decode cL_law 985 = .ok (.aload_n 1, 1) := by decide +kernel
theorem dL_law_986 : decode cL_law 986 = .ok (.aload_n 0, 1) := by decide +kernel
theorem dL_law_987 : decode cL_law 987 = .ok (.iload 4, 2) := by decide +kernel
theorem dL_law_989 : decode cL_law 989 = .ok (.iconst 1, 1) := by decide +kernel
theorem dL_law_990 : decode cL_law 990 = .ok (.iadd, 1) := by decide +kernel
theorem dL_law_991 : decode cL_law 991 = .ok (.iaload, 1) := by decide +kernel
theorem dL_law_992 : decode cL_law 992 = .ok (.invokevirtual 125, 3) := by decide +kernel
theorem dL_law_995 : decode cL_law 995 = .ok (.aload_n 2, 1) := by decide +kernel
theorem dL_law_996 : decode cL_law 996 = .ok (.aload_n 0, 1) := by decide +kernel
theorem dL_law_997 : decode cL_law 997 = .ok (.iload 4, 2) := by decide +kernel
theorem dL_law_999 : decode cL_law 999 = .ok (.iconst 1, 1) := by decide +kernel
theorem dL_law_1000 : decode cL_law 1000 = .ok (.iadd, 1) := by decide +kernel
theorem dL_law_1001 : decode cL_law 1001 = .ok (.iaload, 1) := by decide +kernel
theorem dL_law_1002 : decode cL_law 1002 = .ok (.invokevirtual 128, 3) := by decide +kernel
theorem dL_law_1005 : decode cL_law 1005 = .ok (.if_icmp .eq 415, 3) := by decide +kernel
theorem dL_law_1010 : decode cL_law 1010 = .ok (.aload_n 1, 1) := by decide +kernel
theorem dL_law_1011 : decode cL_law 1011 = .ok (.aload_n 0, 1) := by decide +kernel
theorem dL_law_1012 : decode cL_law 1012 = .ok (.iload 4, 2) := by decide +kernel
theorem dL_law_1014 : decode cL_law 1014 = .ok (.iconst 1, 1) := by decide +kernel
theorem dL_law_1015 : decode cL_law 1015 = .ok (.iadd, 1) := by decide +kernel
theorem dL_law_1016 : decode cL_law 1016 = .ok (.iaload, 1) := by decide +kernel
theorem dL_law_1017 : decode cL_law 1017 = .ok (.invokevirtual 129, 3) := by decide +kernel
theorem dL_law_1020 : decode cL_law 1020 = .ok (.aload_n 2, 1) := by decide +kernel
theorem dL_law_1021 : decode cL_law 1021 = .ok (.aload_n 0, 1) := by decide +kernel
theorem dL_law_1022 : decode cL_law 1022 = .ok (.iload 4, 2) := by decide +kernel
theorem dL_law_1024 : decode cL_law 1024 = .ok (.iconst 1, 1) := by decide +kernel
theorem dL_law_1025 : decode cL_law 1025 = .ok (.iadd, 1) := by decide +kernel
theorem dL_law_1026 : decode cL_law 1026 = .ok (.iaload, 1) := by decide +kernel
theorem dL_law_1027 : decode cL_law 1027 = .ok (.invokevirtual 132, 3) := by decide +kernel
theorem dL_law_1030 : decode cL_law 1030 = .ok (.if_icmp .eq 390, 3) := by decide +kernel
theorem dL_law_1035 : decode cL_law 1035 = .ok (.aload_n 1, 1) := by decide +kernel
theorem dL_law_1036 : decode cL_law 1036 = .ok (.aload_n 0, 1) := by decide +kernel
theorem dL_law_1037 : decode cL_law 1037 = .ok (.iload 4, 2) := by decide +kernel
theorem dL_law_1039 : decode cL_law 1039 = .ok (.iconst 1, 1) := by decide +kernel
theorem dL_law_1040 : decode cL_law 1040 = .ok (.iadd, 1) := by decide +kernel
theorem dL_law_1041 : decode cL_law 1041 = .ok (.iaload, 1) := by decide +kernel
theorem dL_law_1042 : decode cL_law 1042 = .ok (.aload_n 0, 1) := by decide +kernel
theorem dL_law_1043 : decode cL_law 1043 = .ok (.iload 4, 2) := by decide +kernel
theorem dL_law_1045 : decode cL_law 1045 = .ok (.iconst 2, 1) := by decide +kernel
theorem dL_law_1046 : decode cL_law 1046 = .ok (.iadd, 1) := by decide +kernel
theorem dL_law_1047 : decode cL_law 1047 = .ok (.iaload, 1) := by decide +kernel
theorem dL_law_1048 : decode cL_law 1048 = .ok (.aload_n 0, 1) := by decide +kernel
theorem dL_law_1049 : decode cL_law 1049 = .ok (.iload 4, 2) := by decide +kernel
theorem dL_law_1051 : decode cL_law 1051 = .ok (.iconst 3, 1) := by decide +kernel
theorem dL_law_1052 : decode cL_law 1052 = .ok (.iadd, 1) := by decide +kernel
theorem dL_law_1053 : decode cL_law 1053 = .ok (.iaload, 1) := by decide +kernel
theorem dL_law_1054 : decode cL_law 1054 = .ok (.invokevirtual 133, 3) := by decide +kernel
theorem dL_law_1057 : decode cL_law 1057 = .ok (.aload_n 2, 1) := by decide +kernel
theorem dL_law_1058 : decode cL_law 1058 = .ok (.aload_n 0, 1) := by decide +kernel
theorem dL_law_1059 : decode cL_law 1059 = .ok (.iload 4, 2) := by decide +kernel
theorem dL_law_1061 : decode cL_law 1061 = .ok (.iconst 1, 1) := by decide +kernel
theorem dL_law_1062 : decode cL_law 1062 = .ok (.iadd, 1) := by decide +kernel
theorem dL_law_1063 : decode cL_law 1063 = .ok (.iaload, 1) := by decide +kernel
theorem dL_law_1064 : decode cL_law 1064 = .ok (.aload_n 0, 1) := by decide +kernel
theorem dL_law_1065 : decode cL_law 1065 = .ok (.iload 4, 2) := by decide +kernel
theorem dL_law_1067 : decode cL_law 1067 = .ok (.iconst 2, 1) := by decide +kernel
theorem dL_law_1068 : decode cL_law 1068 = .ok (.iadd, 1) := by decide +kernel
theorem dL_law_1069 : decode cL_law 1069 = .ok (.iaload, 1) := by decide +kernel
theorem dL_law_1070 : decode cL_law 1070 = .ok (.aload_n 0, 1) := by decide +kernel
theorem dL_law_1071 : decode cL_law 1071 = .ok (.iload 4, 2) := by decide +kernel
theorem dL_law_1073 : decode cL_law 1073 = .ok (.iconst 3, 1) := by decide +kernel
theorem dL_law_1074 : decode cL_law 1074 = .ok (.iadd, 1) := by decide +kernel
theorem dL_law_1075 : decode cL_law 1075 = .ok (.iaload, 1) := by decide +kernel
theorem dL_law_1076 : decode cL_law 1076 = .ok (.invokevirtual 136, 3) := by decide +kernel
theorem dL_law_1079 : decode cL_law 1079 = .ok (.if_icmp .eq 341, 3) := by decide +kernel
theorem dL_law_1084 : decode cL_law 1084 = .ok (.aload_n 1, 1) := by decide +kernel
theorem dL_law_1085 : decode cL_law 1085 = .ok (.aload_n 0, 1) := by decide +kernel
theorem dL_law_1086 : decode cL_law 1086 = .ok (.iload 4, 2) := by decide +kernel
theorem dL_law_1088 : decode cL_law 1088 = .ok (.iconst 1, 1) := by decide +kernel
theorem dL_law_1089 : decode cL_law 1089 = .ok (.iadd, 1) := by decide +kernel
theorem dL_law_1090 : decode cL_law 1090 = .ok (.iaload, 1) := by decide +kernel
theorem dL_law_1091 : decode cL_law 1091 = .ok (.aload_n 0, 1) := by decide +kernel
theorem dL_law_1092 : decode cL_law 1092 = .ok (.iload 4, 2) := by decide +kernel
theorem dL_law_1094 : decode cL_law 1094 = .ok (.iconst 2, 1) := by decide +kernel
theorem dL_law_1095 : decode cL_law 1095 = .ok (.iadd, 1) := by decide +kernel
theorem dL_law_1096 : decode cL_law 1096 = .ok (.iaload, 1) := by decide +kernel
theorem dL_law_1097 : decode cL_law 1097 = .ok (.ifCond .eq 7, 3) := by decide +kernel
theorem dL_law_1100 : decode cL_law 1100 = .ok (.iconst 1, 1) := by decide +kernel
theorem dL_law_1101 : decode cL_law 1101 = .ok (.goto 4, 3) := by decide +kernel
theorem dL_law_1104 : decode cL_law 1104 = .ok (.iconst 0, 1) := by decide +kernel
theorem dL_law_1105 : decode cL_law 1105 = .ok (.invokevirtual 137, 3) := by decide +kernel
theorem dL_law_1108 : decode cL_law 1108 = .ok (.aload_n 2, 1) := by decide +kernel
theorem dL_law_1109 : decode cL_law 1109 = .ok (.aload_n 0, 1) := by decide +kernel
theorem dL_law_1110 : decode cL_law 1110 = .ok (.iload 4, 2) := by decide +kernel
theorem dL_law_1112 : decode cL_law 1112 = .ok (.iconst 1, 1) := by decide +kernel
theorem dL_law_1113 : decode cL_law 1113 = .ok (.iadd, 1) := by decide +kernel
theorem dL_law_1114 : decode cL_law 1114 = .ok (.iaload, 1) := by decide +kernel
theorem dL_law_1115 : decode cL_law 1115 = .ok (.aload_n 0, 1) := by decide +kernel
theorem dL_law_1116 : decode cL_law 1116 = .ok (.iload 4, 2) := by decide +kernel
theorem dL_law_1118 : decode cL_law 1118 = .ok (.iconst 2, 1) := by decide +kernel
theorem dL_law_1119 : decode cL_law 1119 = .ok (.iadd, 1) := by decide +kernel
theorem dL_law_1120 : decode cL_law 1120 = .ok (.iaload, 1) := by decide +kernel
theorem dL_law_1121 : decode cL_law 1121 = .ok (.ifCond .eq 7, 3) := by decide +kernel
theorem dL_law_1124 : decode cL_law 1124 = .ok (.iconst 1, 1) := by decide +kernel
theorem dL_law_1125 : decode cL_law 1125 = .ok (.goto 4, 3) := by decide +kernel
theorem dL_law_1128 : decode cL_law 1128 = .ok (.iconst 0, 1) := by decide +kernel
theorem dL_law_1129 : decode cL_law 1129 = .ok (.invokevirtual 141, 3) := by decide +kernel
theorem dL_law_1132 : decode cL_law 1132 = .ok (.if_icmp .eq 288, 3) := by decide +kernel
theorem dL_law_1137 : decode cL_law 1137 = .ok (.aload_n 1, 1) := by decide +kernel
theorem dL_law_1138 : decode cL_law 1138 = .ok (.invokevirtual 142, 3) := by decide +kernel
theorem dL_law_1141 : decode cL_law 1141 = .ok (.aload_n 2, 1) := by decide +kernel
theorem dL_law_1142 : decode cL_law 1142 = .ok (.invokevirtual 145, 3) := by decide +kernel
theorem dL_law_1145 : decode cL_law 1145 = .ok (.if_icmp .eq 275, 3) := by decide +kernel
theorem dL_law_1150 : decode cL_law 1150 = .ok (.aload_n 1, 1) := by decide +kernel
theorem dL_law_1151 : decode cL_law 1151 = .ok (.aload_n 0, 1) := by decide +kernel
theorem dL_law_1152 : decode cL_law 1152 = .ok (.iload 4, 2) := by decide +kernel
theorem dL_law_1154 : decode cL_law 1154 = .ok (.iconst 1, 1) := by decide +kernel
theorem dL_law_1155 : decode cL_law 1155 = .ok (.iadd, 1) := by decide +kernel
theorem dL_law_1156 : decode cL_law 1156 = .ok (.iaload, 1) := by decide +kernel
theorem dL_law_1157 : decode cL_law 1157 = .ok (.aload_n 0, 1) := by decide +kernel
theorem dL_law_1158 : decode cL_law 1158 = .ok (.iload 4, 2) := by decide +kernel
theorem dL_law_1160 : decode cL_law 1160 = .ok (.iconst 2, 1) := by decide +kernel
theorem dL_law_1161 : decode cL_law 1161 = .ok (.iadd, 1) := by decide +kernel
theorem dL_law_1162 : decode cL_law 1162 = .ok (.iaload, 1) := by decide +kernel
theorem dL_law_1163 : decode cL_law 1163 = .ok (.invokevirtual 146, 3) := by decide +kernel
theorem dL_law_1166 : decode cL_law 1166 = .ok (.aload_n 2, 1) := by decide +kernel
theorem dL_law_1167 : decode cL_law 1167 = .ok (.aload_n 0, 1) := by decide +kernel
theorem dL_law_1168 : decode cL_law 1168 = .ok (.iload 4, 2) := by decide +kernel
theorem dL_law_1170 : decode cL_law 1170 = .ok (.iconst 1, 1) := by decide +kernel
theorem dL_law_1171 : decode cL_law 1171 = .ok (.iadd, 1) := by decide +kernel
theorem dL_law_1172 : decode cL_law 1172 = .ok (.iaload, 1) := by decide +kernel
theorem dL_law_1173 : decode cL_law 1173 = .ok (.aload_n 0, 1) := by decide +kernel
theorem dL_law_1174 : decode cL_law 1174 = .ok (.iload 4, 2) := by decide +kernel
theorem dL_law_1176 : decode cL_law 1176 = .ok (.iconst 2, 1) := by decide +kernel
theorem dL_law_1177 : decode cL_law 1177 = .ok (.iadd, 1) := by decide +kernel
theorem dL_law_1178 : decode cL_law 1178 = .ok (.iaload, 1) := by decide +kernel
theorem dL_law_1179 : decode cL_law 1179 = .ok (.invokevirtual 150, 3) := by decide +kernel
theorem dL_law_1182 : decode cL_law 1182 = .ok (.if_icmp .eq 238, 3) := by decide +kernel
theorem dL_law_1187 : decode cL_law 1187 = .ok (.aload_n 1, 1) := by decide +kernel
theorem dL_law_1188 : decode cL_law 1188 = .ok (.invokevirtual 151, 3) := by decide +kernel
theorem dL_law_1191 : decode cL_law 1191 = .ok (.aload_n 2, 1) := by decide +kernel
theorem dL_law_1192 : decode cL_law 1192 = .ok (.invokevirtual 154, 3) := by decide +kernel
theorem dL_law_1195 : decode cL_law 1195 = .ok (.if_icmp .eq 225, 3) := by decide +kernel
theorem dL_law_1200 : decode cL_law 1200 = .ok (.aload_n 1, 1) := by decide +kernel
theorem dL_law_1201 : decode cL_law 1201 = .ok (.invokevirtual 155, 3) := by decide +kernel
theorem dL_law_1204 : decode cL_law 1204 = .ok (.aload_n 2, 1) := by decide +kernel
theorem dL_law_1205 : decode cL_law 1205 = .ok (.invokevirtual 159, 3) := by decide +kernel
theorem dL_law_1208 : decode cL_law 1208 = .ok (.if_icmp .eq 212, 3) := by decide +kernel
theorem dL_law_1213 : decode cL_law 1213 = .ok (.aload_n 1, 1) := by decide +kernel
theorem dL_law_1214 : decode cL_law 1214 = .ok (.aload_n 0, 1) := by decide +kernel
theorem dL_law_1215 : decode cL_law 1215 = .ok (.iload 4, 2) := by decide +kernel
theorem dL_law_1217 : decode cL_law 1217 = .ok (.iconst 1, 1) := by decide +kernel
theorem dL_law_1218 : decode cL_law 1218 = .ok (.iadd, 1) := by decide +kernel
theorem dL_law_1219 : decode cL_law 1219 = .ok (.iaload, 1) := by decide +kernel
theorem dL_law_1220 : decode cL_law 1220 = .ok (.invokevirtual 160, 3) := by decide +kernel
theorem dL_law_1223 : decode cL_law 1223 = .ok (.aload_n 2, 1) := by decide +kernel
theorem dL_law_1224 : decode cL_law 1224 = .ok (.aload_n 0, 1) := by decide +kernel
theorem dL_law_1225 : decode cL_law 1225 = .ok (.iload 4, 2) := by decide +kernel
theorem dL_law_1227 : decode cL_law 1227 = .ok (.iconst 1, 1) := by decide +kernel
theorem dL_law_1228 : decode cL_law 1228 = .ok (.iadd, 1) := by decide +kernel
theorem dL_law_1229 : decode cL_law 1229 = .ok (.iaload, 1) := by decide +kernel
theorem dL_law_1230 : decode cL_law 1230 = .ok (.invokevirtual 164, 3) := by decide +kernel
theorem dL_law_1233 : decode cL_law 1233 = .ok (.if_icmp .eq 187, 3) := by decide +kernel
theorem dL_law_1238 : decode cL_law 1238 = .ok (.aload_n 1, 1) := by decide +kernel
theorem dL_law_1239 : decode cL_law 1239 = .ok (.invokevirtual 165, 3) := by decide +kernel
theorem dL_law_1242 : decode cL_law 1242 = .ok (.aload_n 2, 1) := by decide +kernel
theorem dL_law_1243 : decode cL_law 1243 = .ok (.invokevirtual 168, 3) := by decide +kernel
theorem dL_law_1246 : decode cL_law 1246 = .ok (.if_icmp .eq 174, 3) := by decide +kernel
theorem dL_law_1251 : decode cL_law 1251 = .ok (.aload_n 1, 1) := by decide +kernel
theorem dL_law_1252 : decode cL_law 1252 = .ok (.invokevirtual 169, 3) := by decide +kernel
theorem dL_law_1255 : decode cL_law 1255 = .ok (.aload_n 2, 1) := by decide +kernel
theorem dL_law_1256 : decode cL_law 1256 = .ok (.invokevirtual 172, 3) := by decide +kernel
theorem dL_law_1259 : decode cL_law 1259 = .ok (.if_icmp .eq 161, 3) := by decide +kernel
theorem dL_law_1264 : decode cL_law 1264 = .ok (.aload_n 1, 1) := by decide +kernel
theorem dL_law_1265 : decode cL_law 1265 = .ok (.aload_n 0, 1) := by decide +kernel
theorem dL_law_1266 : decode cL_law 1266 = .ok (.iload 4, 2) := by decide +kernel
theorem dL_law_1268 : decode cL_law 1268 = .ok (.iconst 1, 1) := by decide +kernel
theorem dL_law_1269 : decode cL_law 1269 = .ok (.iadd, 1) := by decide +kernel
theorem dL_law_1270 : decode cL_law 1270 = .ok (.iaload, 1) := by decide +kernel
theorem dL_law_1271 : decode cL_law 1271 = .ok (.invokevirtual 173, 3) := by decide +kernel
theorem dL_law_1274 : decode cL_law 1274 = .ok (.aload_n 2, 1) := by decide +kernel
theorem dL_law_1275 : decode cL_law 1275 = .ok (.aload_n 0, 1) := by decide +kernel
theorem dL_law_1276 : decode cL_law 1276 = .ok (.iload 4, 2) := by decide +kernel
theorem dL_law_1278 : decode cL_law 1278 = .ok (.iconst 1, 1) := by decide +kernel
theorem dL_law_1279 : decode cL_law 1279 = .ok (.iadd, 1) := by decide +kernel
theorem dL_law_1280 : decode cL_law 1280 = .ok (.iaload, 1) := by decide +kernel
theorem dL_law_1281 : decode cL_law 1281 = .ok (.invokevirtual 176, 3) := by decide +kernel
theorem dL_law_1284 : decode cL_law 1284 = .ok (.if_icmp .eq 136, 3) := by decide +kernel
theorem dL_law_1289 : decode cL_law 1289 = .ok (.aload_n 1, 1) := by decide +kernel
theorem dL_law_1290 : decode cL_law 1290 = .ok (.aload_n 0, 1) := by decide +kernel
theorem dL_law_1291 : decode cL_law 1291 = .ok (.iload 4, 2) := by decide +kernel
theorem dL_law_1293 : decode cL_law 1293 = .ok (.iconst 1, 1) := by decide +kernel
theorem dL_law_1294 : decode cL_law 1294 = .ok (.iadd, 1) := by decide +kernel
theorem dL_law_1295 : decode cL_law 1295 = .ok (.iaload, 1) := by decide +kernel
theorem dL_law_1296 : decode cL_law 1296 = .ok (.aload_n 0, 1) := by decide +kernel
theorem dL_law_1297 : decode cL_law 1297 = .ok (.iload 4, 2) := by decide +kernel
theorem dL_law_1299 : decode cL_law 1299 = .ok (.iconst 2, 1) := by decide +kernel
theorem dL_law_1300 : decode cL_law 1300 = .ok (.iadd, 1) := by decide +kernel
theorem dL_law_1301 : decode cL_law 1301 = .ok (.iaload, 1) := by decide +kernel
theorem dL_law_1302 : decode cL_law 1302 = .ok (.invokevirtual 177, 3) := by decide +kernel
theorem dL_law_1305 : decode cL_law 1305 = .ok (.aload_n 2, 1) := by decide +kernel
theorem dL_law_1306 : decode cL_law 1306 = .ok (.aload_n 0, 1) := by decide +kernel
theorem dL_law_1307 : decode cL_law 1307 = .ok (.iload 4, 2) := by decide +kernel
theorem dL_law_1309 : decode cL_law 1309 = .ok (.iconst 1, 1) := by decide +kernel
theorem dL_law_1310 : decode cL_law 1310 = .ok (.iadd, 1) := by decide +kernel
theorem dL_law_1311 : decode cL_law 1311 = .ok (.iaload, 1) := by decide +kernel
theorem dL_law_1312 : decode cL_law 1312 = .ok (.aload_n 0, 1) := by decide +kernel
theorem dL_law_1313 : decode cL_law 1313 = .ok (.iload 4, 2) := by decide +kernel
theorem dL_law_1315 : decode cL_law 1315 = .ok (.iconst 2, 1) := by decide +kernel
theorem dL_law_1316 : decode cL_law 1316 = .ok (.iadd, 1) := by decide +kernel
theorem dL_law_1317 : decode cL_law 1317 = .ok (.iaload, 1) := by decide +kernel
theorem dL_law_1318 : decode cL_law 1318 = .ok (.invokevirtual 180, 3) := by decide +kernel
theorem dL_law_1321 : decode cL_law 1321 = .ok (.if_icmp .eq 99, 3) := by decide +kernel
theorem dL_law_1382 : decode cL_law 1382 = .ok (.aload_n 1, 1) := by decide +kernel
theorem dL_law_1383 : decode cL_law 1383 = .ok (.aload_n 0, 1) := by decide +kernel
theorem dL_law_1384 : decode cL_law 1384 = .ok (.iload 4, 2) := by decide +kernel
theorem dL_law_1386 : decode cL_law 1386 = .ok (.iconst 1, 1) := by decide +kernel
theorem dL_law_1387 : decode cL_law 1387 = .ok (.iadd, 1) := by decide +kernel
theorem dL_law_1388 : decode cL_law 1388 = .ok (.iaload, 1) := by decide +kernel
theorem dL_law_1389 : decode cL_law 1389 = .ok (.invokevirtual 190, 3) := by decide +kernel
theorem dL_law_1392 : decode cL_law 1392 = .ok (.aload_n 2, 1) := by decide +kernel
theorem dL_law_1393 : decode cL_law 1393 = .ok (.aload_n 0, 1) := by decide +kernel
theorem dL_law_1394 : decode cL_law 1394 = .ok (.iload 4, 2) := by decide +kernel
theorem dL_law_1396 : decode cL_law 1396 = .ok (.iconst 1, 1) := by decide +kernel
theorem dL_law_1397 : decode cL_law 1397 = .ok (.iadd, 1) := by decide +kernel
theorem dL_law_1398 : decode cL_law 1398 = .ok (.iaload, 1) := by decide +kernel
theorem dL_law_1399 : decode cL_law 1399 = .ok (.invokevirtual 193, 3) := by decide +kernel
theorem dL_law_1402 : decode cL_law 1402 = .ok (.if_icmp .eq 18, 3) := by decide +kernel
theorem dL_law_1407 : decode cL_law 1407 = .ok (.aload_n 1, 1) := by decide +kernel
theorem dL_law_1408 : decode cL_law 1408 = .ok (.invokevirtual 194, 3) := by decide +kernel
theorem dL_law_1411 : decode cL_law 1411 = .ok (.aload_n 2, 1) := by decide +kernel
theorem dL_law_1412 : decode cL_law 1412 = .ok (.invokevirtual 197, 3) := by decide +kernel
theorem dL_law_1415 : decode cL_law 1415 = .ok (.if_icmp .eq 5, 3) := by decide +kernel
theorem dL_law_1420 : decode cL_law 1420 = .ok (.iinc 4 6, 3) := by decide +kernel
theorem dL_law_1423 : decode cL_law 1423 = .ok (.goto (-1400), 3) := by decide +kernel
theorem dL_law_1426 : decode cL_law 1426 = .ok (.iconst 1, 1) := by decide +kernel
theorem dL_law_1427 : decode cL_law 1427 = .ok (.ireturn, 1) := by decide +kernel
theorem law_nx {X : cz_X} {xs : Nat → Int32} {ls : Nat → Option Value} {cn : Nat} {K N : Nat → Nat} {I : cz_I} {R : cz_R} {L : cz_L} {n w : Nat} (hZ : cz_LZ X) (hs : cz_scr X 6 xs) (h0 : ls 0 = some (.float 1000000)) (h4 : ls 4 = some (.int 0)) (hn : n ≤ 600002) (hw : w ≤ 7302232) : Tr X mL_law 1420 ls [] cn K N I R L n w := by
  refine tr_iinc dL_law_1420 h4 (by decide) ?_
  refine tr_goto 23 dL_law_1423 (by decide) ?_
  refine tr_iload dL_law_23 (by first | exact h0 | rfl) ?_
  refine tr_aload_nS dL_law_25 (by first | exact h0 | rfl) ?_
  refine tr_slen hs dL_law_26 ?_
  refine tr_topi 6 (by decide +kernel) ?_
  refine tr_bipush (v := 6) dL_law_27 (by decide +kernel) ?_
  refine tr_isub dL_law_29 ?_
  refine tr_topi 0 (by decide +kernel) ?_
  refine tr_icmp_gt 1426 dL_law_30 (by decide) (fun _ => ?_) (fun h => absurd (by decide +kernel) h)
  refine tr_iconst (v := 1) dL_law_1426 (by decide +kernel) ?_
  exact tr_lawret hZ dL_law_1427 hn hw
set_option maxHeartbeats 4000000 in
set_option maxRecDepth 100000 in
theorem law_c0 {X : cz_X} {xs : Nat → Int32} {K N : Nat → Nat} {I : cz_I} {R : cz_R} {L : cz_L} (hZ : cz_LZ X) (hs : cz_scr X 6 xs) (hf1 : cz_f1 K N I R) (hf2 : cz_f2 K N I R) : Tr X mL_law 220 law_ls [] 203 K N I R L 203 15311 := by
  refine tr_aload_n dL_law_220 rfl ?_
  refine tr_aload_nS dL_law_221 rfl ?_
  refine tr_iload dL_law_222 rfl ?_
  refine tr_iconst (v := 1) dL_law_224 (by decide +kernel) ?_
  refine tr_iadd dL_law_225 ?_
  refine tr_topi 1 (by decide +kernel) ?_
  refine tr_sld hs dL_law_226 (cz_inl 6 rfl (by decide +kernel)) ?_
  refine tr_aload_nS dL_law_227 rfl ?_
  refine tr_iload dL_law_228 rfl ?_
  refine tr_iconst (v := 2) dL_law_230 (by decide +kernel) ?_
  refine tr_iadd dL_law_231 ?_
  refine tr_topi 2 (by decide +kernel) ?_
  refine tr_sld hs dL_law_232 (cz_inl 6 rfl (by decide +kernel)) ?_
  refine tr_aload_nS dL_law_233 rfl ?_
  refine tr_iload dL_law_234 rfl ?_
  refine tr_iconst (v := 3) dL_law_236 (by decide +kernel) ?_
  refine tr_iadd dL_law_237 ?_
  refine tr_topi 3 (by decide +kernel) ?_
  refine tr_sld hs dL_law_238 (cz_inl 6 rfl (by decide +kernel)) ?_
  refine tr_aload_nS dL_law_239 rfl ?_
  refine tr_iload dL_law_240 rfl ?_
  refine tr_iconst (v := 4) dL_law_242 (by decide +kernel) ?_
  refine tr_iadd dL_law_243 ?_
  refine tr_topi 4 (by decide +kernel) ?_
  refine tr_sld hs dL_law_244 (cz_inl 6 rfl (by decide +kernel)) ?_
  refine tr_aload_nS dL_law_245 rfl ?_
  refine tr_iload dL_law_246 rfl ?_
  refine tr_iconst (v := 5) dL_law_248 (by decide +kernel) ?_
  refine tr_iadd dL_law_249 ?_
  refine tr_topi 5 (by decide +kernel) ?_
  refine tr_sld hs dL_law_250 (cz_inl 6 rfl (by decide +kernel)) ?_
  refine tr_ctr (M' := mX10_feed) (as := [_, _, _, _, _]) dL_law_251 lk13_19 inX10_feed seX10_feed myX10_feed (by decide) ⟨by decide, by decide⟩ rfl (hf1.1 0 10 (by decide) kd_0) (Nat.le_of_ble_eq_true rfl) (by decide) (by decide) (fX10_feed _ _ _ _ _ hf1) ?_
  rintro _ cn9 K9 N9 I9 R9 L9 ⟨rfl, rfl, rfl, rfl, hk9⟩
  replace hf2 := hf2.kept hk9
  show Tr _ _ _ _ (.int _ :: _) _ _ _ _ _ _ _ _
  refine tr_aload_n dL_law_254 rfl ?_
  refine tr_aload_nS dL_law_255 rfl ?_
  refine tr_iload dL_law_256 rfl ?_
  refine tr_iconst (v := 1) dL_law_258 (by decide +kernel) ?_
  refine tr_iadd dL_law_259 ?_
  refine tr_topi 1 (by decide +kernel) ?_
  refine tr_sld hs dL_law_260 (cz_inl 6 rfl (by decide +kernel)) ?_
  refine tr_aload_nS dL_law_261 rfl ?_
  refine tr_iload dL_law_262 rfl ?_
  refine tr_iconst (v := 2) dL_law_264 (by decide +kernel) ?_
  refine tr_iadd dL_law_265 ?_
  refine tr_topi 2 (by decide +kernel) ?_
  refine tr_sld hs dL_law_266 (cz_inl 6 rfl (by decide +kernel)) ?_
  refine tr_aload_nS dL_law_267 rfl ?_
  refine tr_iload dL_law_268 rfl ?_
  refine tr_iconst (v := 3) dL_law_270 (by decide +kernel) ?_
  refine tr_iadd dL_law_271 ?_
  refine tr_topi 3 (by decide +kernel) ?_
  refine tr_sld hs dL_law_272 (cz_inl 6 rfl (by decide +kernel)) ?_
  refine tr_aload_nS dL_law_273 rfl ?_
  refine tr_iload dL_law_274 rfl ?_
  refine tr_iconst (v := 4) dL_law_276 (by decide +kernel) ?_
  refine tr_iadd dL_law_277 ?_
  refine tr_topi 4 (by decide +kernel) ?_
  refine tr_sld hs dL_law_278 (cz_inl 6 rfl (by decide +kernel)) ?_
  refine tr_aload_nS dL_law_279 rfl ?_
  refine tr_iload dL_law_280 rfl ?_
  refine tr_iconst (v := 5) dL_law_282 (by decide +kernel) ?_
  refine tr_iadd dL_law_283 ?_
  refine tr_topi 5 (by decide +kernel) ?_
  refine tr_sld hs dL_law_284 (cz_inl 6 rfl (by decide +kernel)) ?_
  refine tr_ctr (M' := mX12_feed) (as := [_, _, _, _, _]) dL_law_285 lk13_23 inX12_feed seX12_feed myX12_feed (by decide) ⟨by decide, by decide⟩ rfl (hf2.1 183 12 (by decide) kd_183) (Nat.le_of_ble_eq_true rfl) (by decide) (by decide) (fX12_feed _ _ _ _ _ hf2) ?_
  rintro _ cn9 K9 N9 I9 R9 L9 rfl
  show Tr _ _ _ _ (.int _ :: .int _ :: _) _ _ _ _ _ _ _ _
  refine tr_icmp_eq 1420 dL_law_288 (by decide) (fun _ => ?_) (fun h => absurd (by decide +kernel) h)
  exact law_nx hZ hs rfl rfl (by decide) (by decide)
set_option maxHeartbeats 4000000 in
set_option maxRecDepth 100000 in
theorem law_c1 {X : cz_X} {xs : Nat → Int32} {K N : Nat → Nat} {I : cz_I} {R : cz_R} {L : cz_L} (hZ : cz_LZ X) (hs : cz_scr X 6 xs) (hf1 : cz_f1 K N I R) (hf2 : cz_f2 K N I R) : Tr X mL_law 293 law_ls [] 203 K N I R L 203 15311 := by
  refine tr_aload_n dL_law_293 rfl ?_
  refine tr_aload_nS dL_law_294 rfl ?_
  refine tr_iload dL_law_295 rfl ?_
  refine tr_iconst (v := 1) dL_law_297 (by decide +kernel) ?_
  refine tr_iadd dL_law_298 ?_
  refine tr_topi 1 (by decide +kernel) ?_
  refine tr_sld hs dL_law_299 (cz_inl 6 rfl (by decide +kernel)) ?_
  refine tr_ctr (M' := mX10_alp) (as := [_]) dL_law_300 lk13_24 inX10_alp seX10_alp myX10_alp (by decide) ⟨by decide, by decide⟩ rfl (hf1.1 0 10 (by decide) kd_0) (Nat.le_of_ble_eq_true rfl) (by decide) (by decide) (fX10_alp _ hf1) ?_
  rintro _ cn9 K9 N9 I9 R9 L9 ⟨rfl, rfl, rfl, rfl, hk9⟩
  replace hf2 := hf2.kept hk9
  show Tr _ _ _ _ (.int _ :: _) _ _ _ _ _ _ _ _
  refine tr_aload_n dL_law_303 rfl ?_
  refine tr_aload_nS dL_law_304 rfl ?_
  refine tr_iload dL_law_305 rfl ?_
  refine tr_iconst (v := 1) dL_law_307 (by decide +kernel) ?_
  refine tr_iadd dL_law_308 ?_
  refine tr_topi 1 (by decide +kernel) ?_
  refine tr_sld hs dL_law_309 (cz_inl 6 rfl (by decide +kernel)) ?_
  refine tr_ctr (M' := mX12_alp) (as := [_]) dL_law_310 lk13_27 inX12_alp seX12_alp myX12_alp (by decide) ⟨by decide, by decide⟩ rfl (hf2.1 183 12 (by decide) kd_183) (Nat.le_of_ble_eq_true rfl) (by decide) (by decide) (fX12_alp _ hf2) ?_
  rintro _ cn9 K9 N9 I9 R9 L9 rfl
  show Tr _ _ _ _ (.int _ :: .int _ :: _) _ _ _ _ _ _ _ _
  refine tr_icmp_eq 1420 dL_law_313 (by decide) (fun _ => ?_) (fun h => absurd (by decide +kernel) h)
  exact law_nx hZ hs rfl rfl (by decide) (by decide)
set_option maxHeartbeats 4000000 in
set_option maxRecDepth 100000 in
theorem law_c2 {X : cz_X} {xs : Nat → Int32} {K N : Nat → Nat} {I : cz_I} {R : cz_R} {L : cz_L} (hZ : cz_LZ X) (hs : cz_scr X 6 xs) (hf1 : cz_f1 K N I R) (hf2 : cz_f2 K N I R) : Tr X mL_law 318 law_ls [] 203 K N I R L 203 15311 := by
  refine tr_aload_n dL_law_318 rfl ?_
  refine tr_ctr (M' := mX10_fault) (as := []) dL_law_319 lk13_28 inX10_fault seX10_fault myX10_fault (by decide) ⟨by decide, by decide⟩ rfl (hf1.1 0 10 (by decide) kd_0) (Nat.le_of_ble_eq_true rfl) (by decide) (by decide) (fX10_fault  hf1) ?_
  rintro _ cn9 K9 N9 I9 R9 L9 ⟨rfl, rfl, rfl, rfl, hk9⟩
  replace hf2 := hf2.kept hk9
  show Tr _ _ _ _ (.int _ :: _) _ _ _ _ _ _ _ _
  refine tr_aload_n dL_law_322 rfl ?_
  refine tr_ctr (M' := mX12_fault) (as := []) dL_law_323 lk13_32 inX12_fault seX12_fault myX12_fault (by decide) ⟨by decide, by decide⟩ rfl (hf2.1 183 12 (by decide) kd_183) (Nat.le_of_ble_eq_true rfl) (by decide) (by decide) (fX12_fault  hf2) ?_
  rintro _ cn9 K9 N9 I9 R9 L9 rfl
  show Tr _ _ _ _ (.int _ :: .int _ :: _) _ _ _ _ _ _ _ _
  refine tr_icmp_eq 1420 dL_law_326 (by decide) (fun _ => ?_) (fun h => absurd (by decide +kernel) h)
  exact law_nx hZ hs rfl rfl (by decide) (by decide)
set_option maxHeartbeats 4000000 in
set_option maxRecDepth 100000 in
theorem law_c3 {X : cz_X} {xs : Nat → Int32} {K N : Nat → Nat} {I : cz_I} {R : cz_R} {L : cz_L} (hZ : cz_LZ X) (hs : cz_scr X 6 xs) (hf1 : cz_f1 K N I R) (hf2 : cz_f2 K N I R) : Tr X mL_law 331 law_ls [] 203 K N I R L 203 15311 := by
  refine tr_aload_n dL_law_331 rfl ?_
  refine tr_ctr (M' := mX10_where) (as := []) dL_law_332 lk13_33 inX10_where seX10_where myX10_where (by decide) ⟨by decide, by decide⟩ rfl (hf1.1 0 10 (by decide) kd_0) (Nat.le_of_ble_eq_true rfl) (by decide) (by decide) (fX10_where  hf1) ?_
  rintro _ cn9 K9 N9 I9 R9 L9 ⟨rfl, rfl, rfl, rfl, hk9⟩
  replace hf2 := hf2.kept hk9
  show Tr _ _ _ _ (.int _ :: _) _ _ _ _ _ _ _ _
  refine tr_aload_n dL_law_335 rfl ?_
  refine tr_ctr (M' := mX12_where) (as := []) dL_law_336 lk13_36 inX12_where seX12_where myX12_where (by decide) ⟨by decide, by decide⟩ rfl (hf2.1 183 12 (by decide) kd_183) (Nat.le_of_ble_eq_true rfl) (by decide) (by decide) (fX12_where  hf2) ?_
  rintro _ cn9 K9 N9 I9 R9 L9 rfl
  show Tr _ _ _ _ (.int _ :: .int _ :: _) _ _ _ _ _ _ _ _
  refine tr_icmp_eq 1420 dL_law_339 (by decide) (fun _ => ?_) (fun h => absurd (by decide +kernel) h)
  exact law_nx hZ hs rfl rfl (by decide) (by decide)
set_option maxHeartbeats 4000000 in
set_option maxRecDepth 100000 in
theorem law_c4 {X : cz_X} {xs : Nat → Int32} {K N : Nat → Nat} {I : cz_I} {R : cz_R} {L : cz_L} (hZ : cz_LZ X) (hs : cz_scr X 6 xs) (hf1 : cz_f1 K N I R) (hf2 : cz_f2 K N I R) : Tr X mL_law 344 law_ls [] 203 K N I R L 203 15311 := by
  refine tr_aload_n dL_law_344 rfl ?_
  refine tr_aload_nS dL_law_345 rfl ?_
  refine tr_iload dL_law_346 rfl ?_
  refine tr_iconst (v := 1) dL_law_348 (by decide +kernel) ?_
  refine tr_iadd dL_law_349 ?_
  refine tr_topi 1 (by decide +kernel) ?_
  refine tr_sld hs dL_law_350 (cz_inl 6 rfl (by decide +kernel)) ?_
  refine tr_ctr (M' := mX10_sky) (as := [_]) dL_law_351 lk13_37 inX10_sky seX10_sky myX10_sky (by decide) ⟨by decide, by decide⟩ rfl (hf1.1 0 10 (by decide) kd_0) (Nat.le_of_ble_eq_true rfl) (by decide) (by decide) (fX10_sky _ hf1) ?_
  rintro _ cn9 K9 N9 I9 R9 L9 ⟨rfl, rfl, rfl, rfl, hk9⟩
  replace hf2 := hf2.kept hk9
  show Tr _ _ _ _ (.int _ :: _) _ _ _ _ _ _ _ _
  refine tr_aload_n dL_law_354 rfl ?_
  refine tr_aload_nS dL_law_355 rfl ?_
  refine tr_iload dL_law_356 rfl ?_
  refine tr_iconst (v := 1) dL_law_358 (by decide +kernel) ?_
  refine tr_iadd dL_law_359 ?_
  refine tr_topi 1 (by decide +kernel) ?_
  refine tr_sld hs dL_law_360 (cz_inl 6 rfl (by decide +kernel)) ?_
  refine tr_ctr (M' := mX12_sky) (as := [_]) dL_law_361 lk13_40 inX12_sky seX12_sky myX12_sky (by decide) ⟨by decide, by decide⟩ rfl (hf2.1 183 12 (by decide) kd_183) (Nat.le_of_ble_eq_true rfl) (by decide) (by decide) (fX12_sky _ hf2) ?_
  rintro _ cn9 K9 N9 I9 R9 L9 rfl
  show Tr _ _ _ _ (.int _ :: .int _ :: _) _ _ _ _ _ _ _ _
  refine tr_icmp_eq 1420 dL_law_364 (by decide) (fun _ => ?_) (fun h => absurd (by decide +kernel) h)
  exact law_nx hZ hs rfl rfl (by decide) (by decide)
set_option maxHeartbeats 4000000 in
set_option maxRecDepth 100000 in
theorem law_c5 {X : cz_X} {xs : Nat → Int32} {K N : Nat → Nat} {I : cz_I} {R : cz_R} {L : cz_L} (hZ : cz_LZ X) (hs : cz_scr X 6 xs) (hf1 : cz_f1 K N I R) (hf2 : cz_f2 K N I R) : Tr X mL_law 369 law_ls [] 203 K N I R L 203 15311 := by
  refine tr_aload_n dL_law_369 rfl ?_
  refine tr_aload_nS dL_law_370 rfl ?_
  refine tr_iload dL_law_371 rfl ?_
  refine tr_iconst (v := 1) dL_law_373 (by decide +kernel) ?_
  refine tr_iadd dL_law_374 ?_
  refine tr_topi 1 (by decide +kernel) ?_
  refine tr_sld hs dL_law_375 (cz_inl 6 rfl (by decide +kernel)) ?_
  refine tr_aload_nS dL_law_376 rfl ?_
  refine tr_iload dL_law_377 rfl ?_
  refine tr_iconst (v := 2) dL_law_379 (by decide +kernel) ?_
  refine tr_iadd dL_law_380 ?_
  refine tr_topi 2 (by decide +kernel) ?_
  refine tr_sld hs dL_law_381 (cz_inl 6 rfl (by decide +kernel)) ?_
  refine tr_aload_nS dL_law_382 rfl ?_
  refine tr_iload dL_law_383 rfl ?_
  refine tr_iconst (v := 3) dL_law_385 (by decide +kernel) ?_
  refine tr_iadd dL_law_386 ?_
  refine tr_topi 3 (by decide +kernel) ?_
  refine tr_sld hs dL_law_387 (cz_inl 6 rfl (by decide +kernel)) ?_
  refine tr_if_eq 395 dL_law_388 (by decide) (fun q5001 => ?_) (fun q5001 => ?_)
  · skip
    refine tr_iconst (v := 0) dL_law_395 (by decide +kernel) ?_
    refine tr_ctr (M' := mX10_light) (as := [_, _, _]) dL_law_396 lk13_41 inX10_light seX10_light myX10_light (by decide) ⟨by decide, by decide⟩ rfl (hf1.1 0 10 (by decide) kd_0) (Nat.le_of_ble_eq_true rfl) (by decide) (by decide) (fX10_light _ _ _ hf1) ?_
    rintro _ cn9 K9 N9 I9 R9 L9 ⟨rfl, rfl, rfl, rfl, hk9⟩
    replace hf2 := hf2.kept hk9
    show Tr _ _ _ _ (.int _ :: _) _ _ _ _ _ _ _ _
    refine tr_aload_n dL_law_399 rfl ?_
    refine tr_aload_nS dL_law_400 rfl ?_
    refine tr_iload dL_law_401 rfl ?_
    refine tr_iconst (v := 1) dL_law_403 (by decide +kernel) ?_
    refine tr_iadd dL_law_404 ?_
    refine tr_topi 1 (by decide +kernel) ?_
    refine tr_sld hs dL_law_405 (cz_inl 6 rfl (by decide +kernel)) ?_
    refine tr_aload_nS dL_law_406 rfl ?_
    refine tr_iload dL_law_407 rfl ?_
    refine tr_iconst (v := 2) dL_law_409 (by decide +kernel) ?_
    refine tr_iadd dL_law_410 ?_
    refine tr_topi 2 (by decide +kernel) ?_
    refine tr_sld hs dL_law_411 (cz_inl 6 rfl (by decide +kernel)) ?_
    refine tr_aload_nS dL_law_412 rfl ?_
    refine tr_iload dL_law_413 rfl ?_
    refine tr_iconst (v := 3) dL_law_415 (by decide +kernel) ?_
    refine tr_iadd dL_law_416 ?_
    refine tr_topi 3 (by decide +kernel) ?_
    refine tr_sld hs dL_law_417 (cz_inl 6 rfl (by decide +kernel)) ?_
    refine tr_if_eq 425 dL_law_418 (by decide) (fun q5002 => ?_) (fun q5002 => ?_)
    · skip
      refine tr_iconst (v := 0) dL_law_425 (by decide +kernel) ?_
      refine tr_ctr (M' := mX12_light) (as := [_, _, _]) dL_law_426 lk13_45 inX12_light seX12_light myX12_light (by decide) ⟨by decide, by decide⟩ rfl (hf2.1 183 12 (by decide) kd_183) (Nat.le_of_ble_eq_true rfl) (by decide) (by decide) (fX12_light _ _ _ hf2) ?_
      rintro _ cn9 K9 N9 I9 R9 L9 rfl
      show Tr _ _ _ _ (.int _ :: .int _ :: _) _ _ _ _ _ _ _ _
      refine tr_icmp_eq 1420 dL_law_429 (by decide) (fun _ => ?_) (fun h => absurd (by decide +kernel) h)
      exact law_nx hZ hs rfl rfl (by decide) (by decide)
    · skip
      refine tr_iconst (v := 1) dL_law_421 (by decide +kernel) ?_
      refine tr_goto 426 dL_law_422 (by decide) ?_
      refine tr_ctr (M' := mX12_light) (as := [_, _, _]) dL_law_426 lk13_45 inX12_light seX12_light myX12_light (by decide) ⟨by decide, by decide⟩ rfl (hf2.1 183 12 (by decide) kd_183) (Nat.le_of_ble_eq_true rfl) (by decide) (by decide) (fX12_light _ _ _ hf2) ?_
      rintro _ cn9 K9 N9 I9 R9 L9 rfl
      show Tr _ _ _ _ (.int _ :: .int _ :: _) _ _ _ _ _ _ _ _
      refine tr_icmp_eq 1420 dL_law_429 (by decide) (fun _ => ?_) (fun h => absurd (by decide +kernel) h)
      exact law_nx hZ hs rfl rfl (by decide) (by decide)
  · skip
    refine tr_iconst (v := 1) dL_law_391 (by decide +kernel) ?_
    refine tr_goto 396 dL_law_392 (by decide) ?_
    refine tr_ctr (M' := mX10_light) (as := [_, _, _]) dL_law_396 lk13_41 inX10_light seX10_light myX10_light (by decide) ⟨by decide, by decide⟩ rfl (hf1.1 0 10 (by decide) kd_0) (Nat.le_of_ble_eq_true rfl) (by decide) (by decide) (fX10_light _ _ _ hf1) ?_
    rintro _ cn9 K9 N9 I9 R9 L9 ⟨rfl, rfl, rfl, rfl, hk9⟩
    replace hf2 := hf2.kept hk9
    show Tr _ _ _ _ (.int _ :: _) _ _ _ _ _ _ _ _
    refine tr_aload_n dL_law_399 rfl ?_
    refine tr_aload_nS dL_law_400 rfl ?_
    refine tr_iload dL_law_401 rfl ?_
    refine tr_iconst (v := 1) dL_law_403 (by decide +kernel) ?_
    refine tr_iadd dL_law_404 ?_
    refine tr_topi 1 (by decide +kernel) ?_
    refine tr_sld hs dL_law_405 (cz_inl 6 rfl (by decide +kernel)) ?_
    refine tr_aload_nS dL_law_406 rfl ?_
    refine tr_iload dL_law_407 rfl ?_
    refine tr_iconst (v := 2) dL_law_409 (by decide +kernel) ?_
    refine tr_iadd dL_law_410 ?_
    refine tr_topi 2 (by decide +kernel) ?_
    refine tr_sld hs dL_law_411 (cz_inl 6 rfl (by decide +kernel)) ?_
    refine tr_aload_nS dL_law_412 rfl ?_
    refine tr_iload dL_law_413 rfl ?_
    refine tr_iconst (v := 3) dL_law_415 (by decide +kernel) ?_
    refine tr_iadd dL_law_416 ?_
    refine tr_topi 3 (by decide +kernel) ?_
    refine tr_sld hs dL_law_417 (cz_inl 6 rfl (by decide +kernel)) ?_
    refine tr_if_eq 425 dL_law_418 (by decide) (fun q5003 => ?_) (fun q5003 => ?_)
    · skip
      refine tr_iconst (v := 0) dL_law_425 (by decide +kernel) ?_
      refine tr_ctr (M' := mX12_light) (as := [_, _, _]) dL_law_426 lk13_45 inX12_light seX12_light myX12_light (by decide) ⟨by decide, by decide⟩ rfl (hf2.1 183 12 (by decide) kd_183) (Nat.le_of_ble_eq_true rfl) (by decide) (by decide) (fX12_light _ _ _ hf2) ?_
      rintro _ cn9 K9 N9 I9 R9 L9 rfl
      show Tr _ _ _ _ (.int _ :: .int _ :: _) _ _ _ _ _ _ _ _
      refine tr_icmp_eq 1420 dL_law_429 (by decide) (fun _ => ?_) (fun h => absurd (by decide +kernel) h)
      exact law_nx hZ hs rfl rfl (by decide) (by decide)
    · skip
      refine tr_iconst (v := 1) dL_law_421 (by decide +kernel) ?_
      refine tr_goto 426 dL_law_422 (by decide) ?_
      refine tr_ctr (M' := mX12_light) (as := [_, _, _]) dL_law_426 lk13_45 inX12_light seX12_light myX12_light (by decide) ⟨by decide, by decide⟩ rfl (hf2.1 183 12 (by decide) kd_183) (Nat.le_of_ble_eq_true rfl) (by decide) (by decide) (fX12_light _ _ _ hf2) ?_
      rintro _ cn9 K9 N9 I9 R9 L9 rfl
      show Tr _ _ _ _ (.int _ :: .int _ :: _) _ _ _ _ _ _ _ _
      refine tr_icmp_eq 1420 dL_law_429 (by decide) (fun _ => ?_) (fun h => absurd (by decide +kernel) h)
      exact law_nx hZ hs rfl rfl (by decide) (by decide)
set_option maxHeartbeats 4000000 in
set_option maxRecDepth 100000 in
theorem law_c6 {X : cz_X} {xs : Nat → Int32} {K N : Nat → Nat} {I : cz_I} {R : cz_R} {L : cz_L} (hZ : cz_LZ X) (hs : cz_scr X 6 xs) (hf1 : cz_f1 K N I R) (hf2 : cz_f2 K N I R) : Tr X mL_law 434 law_ls [] 203 K N I R L 203 15311 := by
  refine tr_aload_n dL_law_434 rfl ?_
  refine tr_aload_nS dL_law_435 rfl ?_
  refine tr_iload dL_law_436 rfl ?_
  refine tr_iconst (v := 1) dL_law_438 (by decide +kernel) ?_
  refine tr_iadd dL_law_439 ?_
  refine tr_topi 1 (by decide +kernel) ?_
  refine tr_sld hs dL_law_440 (cz_inl 6 rfl (by decide +kernel)) ?_
  refine tr_aload_nS dL_law_441 rfl ?_
  refine tr_iload dL_law_442 rfl ?_
  refine tr_iconst (v := 2) dL_law_444 (by decide +kernel) ?_
  refine tr_iadd dL_law_445 ?_
  refine tr_topi 2 (by decide +kernel) ?_
  refine tr_sld hs dL_law_446 (cz_inl 6 rfl (by decide +kernel)) ?_
  refine tr_if_eq 454 dL_law_447 (by decide) (fun q5004 => ?_) (fun q5004 => ?_)
  · skip
    refine tr_iconst (v := 0) dL_law_454 (by decide +kernel) ?_
    refine tr_ctr (M' := mX10_changes) (as := [_, _]) dL_law_455 lk13_46 inX10_changes seX10_changes myX10_changes (by decide) ⟨by decide, by decide⟩ rfl (hf1.1 0 10 (by decide) kd_0) (Nat.le_of_ble_eq_true rfl) (by decide) (by decide) (fX10_changes _ _ hf1) ?_
    rintro _ cn9 K9 N9 I9 R9 L9 ⟨rfl, rfl, rfl, rfl, hk9⟩
    replace hf2 := hf2.kept hk9
    show Tr _ _ _ _ (.int _ :: _) _ _ _ _ _ _ _ _
    refine tr_aload_n dL_law_458 rfl ?_
    refine tr_aload_nS dL_law_459 rfl ?_
    refine tr_iload dL_law_460 rfl ?_
    refine tr_iconst (v := 1) dL_law_462 (by decide +kernel) ?_
    refine tr_iadd dL_law_463 ?_
    refine tr_topi 1 (by decide +kernel) ?_
    refine tr_sld hs dL_law_464 (cz_inl 6 rfl (by decide +kernel)) ?_
    refine tr_aload_nS dL_law_465 rfl ?_
    refine tr_iload dL_law_466 rfl ?_
    refine tr_iconst (v := 2) dL_law_468 (by decide +kernel) ?_
    refine tr_iadd dL_law_469 ?_
    refine tr_topi 2 (by decide +kernel) ?_
    refine tr_sld hs dL_law_470 (cz_inl 6 rfl (by decide +kernel)) ?_
    refine tr_if_eq 478 dL_law_471 (by decide) (fun q5005 => ?_) (fun q5005 => ?_)
    · skip
      refine tr_iconst (v := 0) dL_law_478 (by decide +kernel) ?_
      refine tr_ctr (M' := mX12_changes) (as := [_, _]) dL_law_479 lk13_50 inX12_changes seX12_changes myX12_changes (by decide) ⟨by decide, by decide⟩ rfl (hf2.1 183 12 (by decide) kd_183) (Nat.le_of_ble_eq_true rfl) (by decide) (by decide) (fX12_changes _ _ hf2) ?_
      rintro _ cn9 K9 N9 I9 R9 L9 rfl
      show Tr _ _ _ _ (.int _ :: .int _ :: _) _ _ _ _ _ _ _ _
      refine tr_icmp_eq 1420 dL_law_482 (by decide) (fun _ => ?_) (fun h => absurd (by decide +kernel) h)
      exact law_nx hZ hs rfl rfl (by decide) (by decide)
    · skip
      refine tr_iconst (v := 1) dL_law_474 (by decide +kernel) ?_
      refine tr_goto 479 dL_law_475 (by decide) ?_
      refine tr_ctr (M' := mX12_changes) (as := [_, _]) dL_law_479 lk13_50 inX12_changes seX12_changes myX12_changes (by decide) ⟨by decide, by decide⟩ rfl (hf2.1 183 12 (by decide) kd_183) (Nat.le_of_ble_eq_true rfl) (by decide) (by decide) (fX12_changes _ _ hf2) ?_
      rintro _ cn9 K9 N9 I9 R9 L9 rfl
      show Tr _ _ _ _ (.int _ :: .int _ :: _) _ _ _ _ _ _ _ _
      refine tr_icmp_eq 1420 dL_law_482 (by decide) (fun _ => ?_) (fun h => absurd (by decide +kernel) h)
      exact law_nx hZ hs rfl rfl (by decide) (by decide)
  · skip
    refine tr_iconst (v := 1) dL_law_450 (by decide +kernel) ?_
    refine tr_goto 455 dL_law_451 (by decide) ?_
    refine tr_ctr (M' := mX10_changes) (as := [_, _]) dL_law_455 lk13_46 inX10_changes seX10_changes myX10_changes (by decide) ⟨by decide, by decide⟩ rfl (hf1.1 0 10 (by decide) kd_0) (Nat.le_of_ble_eq_true rfl) (by decide) (by decide) (fX10_changes _ _ hf1) ?_
    rintro _ cn9 K9 N9 I9 R9 L9 ⟨rfl, rfl, rfl, rfl, hk9⟩
    replace hf2 := hf2.kept hk9
    show Tr _ _ _ _ (.int _ :: _) _ _ _ _ _ _ _ _
    refine tr_aload_n dL_law_458 rfl ?_
    refine tr_aload_nS dL_law_459 rfl ?_
    refine tr_iload dL_law_460 rfl ?_
    refine tr_iconst (v := 1) dL_law_462 (by decide +kernel) ?_
    refine tr_iadd dL_law_463 ?_
    refine tr_topi 1 (by decide +kernel) ?_
    refine tr_sld hs dL_law_464 (cz_inl 6 rfl (by decide +kernel)) ?_
    refine tr_aload_nS dL_law_465 rfl ?_
    refine tr_iload dL_law_466 rfl ?_
    refine tr_iconst (v := 2) dL_law_468 (by decide +kernel) ?_
    refine tr_iadd dL_law_469 ?_
    refine tr_topi 2 (by decide +kernel) ?_
    refine tr_sld hs dL_law_470 (cz_inl 6 rfl (by decide +kernel)) ?_
    refine tr_if_eq 478 dL_law_471 (by decide) (fun q5006 => ?_) (fun q5006 => ?_)
    · skip
      refine tr_iconst (v := 0) dL_law_478 (by decide +kernel) ?_
      refine tr_ctr (M' := mX12_changes) (as := [_, _]) dL_law_479 lk13_50 inX12_changes seX12_changes myX12_changes (by decide) ⟨by decide, by decide⟩ rfl (hf2.1 183 12 (by decide) kd_183) (Nat.le_of_ble_eq_true rfl) (by decide) (by decide) (fX12_changes _ _ hf2) ?_
      rintro _ cn9 K9 N9 I9 R9 L9 rfl
      show Tr _ _ _ _ (.int _ :: .int _ :: _) _ _ _ _ _ _ _ _
      refine tr_icmp_eq 1420 dL_law_482 (by decide) (fun _ => ?_) (fun h => absurd (by decide +kernel) h)
      exact law_nx hZ hs rfl rfl (by decide) (by decide)
    · skip
      refine tr_iconst (v := 1) dL_law_474 (by decide +kernel) ?_
      refine tr_goto 479 dL_law_475 (by decide) ?_
      refine tr_ctr (M' := mX12_changes) (as := [_, _]) dL_law_479 lk13_50 inX12_changes seX12_changes myX12_changes (by decide) ⟨by decide, by decide⟩ rfl (hf2.1 183 12 (by decide) kd_183) (Nat.le_of_ble_eq_true rfl) (by decide) (by decide) (fX12_changes _ _ hf2) ?_
      rintro _ cn9 K9 N9 I9 R9 L9 rfl
      show Tr _ _ _ _ (.int _ :: .int _ :: _) _ _ _ _ _ _ _ _
      refine tr_icmp_eq 1420 dL_law_482 (by decide) (fun _ => ?_) (fun h => absurd (by decide +kernel) h)
      exact law_nx hZ hs rfl rfl (by decide) (by decide)
set_option maxHeartbeats 4000000 in
set_option maxRecDepth 100000 in
theorem law_c7 {X : cz_X} {xs : Nat → Int32} {K N : Nat → Nat} {I : cz_I} {R : cz_R} {L : cz_L} (hZ : cz_LZ X) (hs : cz_scr X 6 xs) (hf1 : cz_f1 K N I R) (hf2 : cz_f2 K N I R) : Tr X mL_law 487 law_ls [] 203 K N I R L 203 15311 := by
  refine tr_aload_n dL_law_487 rfl ?_
  refine tr_aload_nS dL_law_488 rfl ?_
  refine tr_iload dL_law_489 rfl ?_
  refine tr_iconst (v := 1) dL_law_491 (by decide +kernel) ?_
  refine tr_iadd dL_law_492 ?_
  refine tr_topi 1 (by decide +kernel) ?_
  refine tr_sld hs dL_law_493 (cz_inl 6 rfl (by decide +kernel)) ?_
  refine tr_aload_nS dL_law_494 rfl ?_
  refine tr_iload dL_law_495 rfl ?_
  refine tr_iconst (v := 2) dL_law_497 (by decide +kernel) ?_
  refine tr_iadd dL_law_498 ?_
  refine tr_topi 2 (by decide +kernel) ?_
  refine tr_sld hs dL_law_499 (cz_inl 6 rfl (by decide +kernel)) ?_
  refine tr_ctr (M' := mX10_change) (as := [_, _]) dL_law_500 lk13_51 inX10_change seX10_change myX10_change (by decide) ⟨by decide, by decide⟩ rfl (hf1.1 0 10 (by decide) kd_0) (Nat.le_of_ble_eq_true rfl) (by decide) (by decide) (fX10_change _ _ hf1) ?_
  rintro _ cn9 K9 N9 I9 R9 L9 ⟨rfl, rfl, rfl, rfl, hk9⟩
  replace hf2 := hf2.kept hk9
  show Tr _ _ _ _ (.int _ :: _) _ _ _ _ _ _ _ _
  refine tr_aload_n dL_law_503 rfl ?_
  refine tr_aload_nS dL_law_504 rfl ?_
  refine tr_iload dL_law_505 rfl ?_
  refine tr_iconst (v := 1) dL_law_507 (by decide +kernel) ?_
  refine tr_iadd dL_law_508 ?_
  refine tr_topi 1 (by decide +kernel) ?_
  refine tr_sld hs dL_law_509 (cz_inl 6 rfl (by decide +kernel)) ?_
  refine tr_aload_nS dL_law_510 rfl ?_
  refine tr_iload dL_law_511 rfl ?_
  refine tr_iconst (v := 2) dL_law_513 (by decide +kernel) ?_
  refine tr_iadd dL_law_514 ?_
  refine tr_topi 2 (by decide +kernel) ?_
  refine tr_sld hs dL_law_515 (cz_inl 6 rfl (by decide +kernel)) ?_
  refine tr_ctr (M' := mX12_change) (as := [_, _]) dL_law_516 lk13_55 inX12_change seX12_change myX12_change (by decide) ⟨by decide, by decide⟩ rfl (hf2.1 183 12 (by decide) kd_183) (Nat.le_of_ble_eq_true rfl) (by decide) (by decide) (fX12_change _ _ hf2) ?_
  rintro _ cn9 K9 N9 I9 R9 L9 rfl
  show Tr _ _ _ _ (.int _ :: .int _ :: _) _ _ _ _ _ _ _ _
  refine tr_icmp_eq 1420 dL_law_519 (by decide) (fun _ => ?_) (fun h => absurd (by decide +kernel) h)
  exact law_nx hZ hs rfl rfl (by decide) (by decide)
set_option maxHeartbeats 4000000 in
set_option maxRecDepth 100000 in
theorem law_c8 {X : cz_X} {xs : Nat → Int32} {K N : Nat → Nat} {I : cz_I} {R : cz_R} {L : cz_L} (hZ : cz_LZ X) (hs : cz_scr X 6 xs) (hf1 : cz_f1 K N I R) (hf2 : cz_f2 K N I R) : Tr X mL_law 524 law_ls [] 203 K N I R L 203 15311 := by
  refine tr_aload_n dL_law_524 rfl ?_
  refine tr_ctr (M' := mX10_peak) (as := []) dL_law_525 lk13_56 inX10_peak seX10_peak myX10_peak (by decide) ⟨by decide, by decide⟩ rfl (hf1.1 0 10 (by decide) kd_0) (Nat.le_of_ble_eq_true rfl) (by decide) (by decide) (fX10_peak  hf1) ?_
  rintro _ cn9 K9 N9 I9 R9 L9 ⟨rfl, rfl, rfl, rfl, hk9⟩
  replace hf2 := hf2.kept hk9
  show Tr _ _ _ _ (.int _ :: _) _ _ _ _ _ _ _ _
  refine tr_aload_n dL_law_528 rfl ?_
  refine tr_ctr (M' := mX12_peak) (as := []) dL_law_529 lk13_59 inX12_peak seX12_peak myX12_peak (by decide) ⟨by decide, by decide⟩ rfl (hf2.1 183 12 (by decide) kd_183) (Nat.le_of_ble_eq_true rfl) (by decide) (by decide) (fX12_peak  hf2) ?_
  rintro _ cn9 K9 N9 I9 R9 L9 rfl
  show Tr _ _ _ _ (.int _ :: .int _ :: _) _ _ _ _ _ _ _ _
  refine tr_icmp_eq 1420 dL_law_532 (by decide) (fun _ => ?_) (fun h => absurd (by decide +kernel) h)
  exact law_nx hZ hs rfl rfl (by decide) (by decide)
set_option maxHeartbeats 4000000 in
set_option maxRecDepth 100000 in
theorem law_c9 {X : cz_X} {xs : Nat → Int32} {K N : Nat → Nat} {I : cz_I} {R : cz_R} {L : cz_L} (hZ : cz_LZ X) (hs : cz_scr X 6 xs) (hf1 : cz_f1 K N I R) (hf2 : cz_f2 K N I R) : Tr X mL_law 537 law_ls [] 203 K N I R L 203 15311 := by
  refine tr_aload_n dL_law_537 rfl ?_
  refine tr_aload_nS dL_law_538 rfl ?_
  refine tr_iload dL_law_539 rfl ?_
  refine tr_iconst (v := 1) dL_law_541 (by decide +kernel) ?_
  refine tr_iadd dL_law_542 ?_
  refine tr_topi 1 (by decide +kernel) ?_
  refine tr_sld hs dL_law_543 (cz_inl 6 rfl (by decide +kernel)) ?_
  refine tr_ctr (M' := mX10_due) (as := [_]) dL_law_544 lk13_60 inX10_due seX10_due myX10_due (by decide) ⟨by decide, by decide⟩ rfl (hf1.1 0 10 (by decide) kd_0) (Nat.le_of_ble_eq_true rfl) (by decide) (by decide) (fX10_due _ hf1) ?_
  rintro _ cn9 K9 N9 I9 R9 L9 ⟨rfl, rfl, rfl, rfl, hk9⟩
  replace hf2 := hf2.kept hk9
  show Tr _ _ _ _ (.int _ :: _) _ _ _ _ _ _ _ _
  refine tr_aload_n dL_law_547 rfl ?_
  refine tr_aload_nS dL_law_548 rfl ?_
  refine tr_iload dL_law_549 rfl ?_
  refine tr_iconst (v := 1) dL_law_551 (by decide +kernel) ?_
  refine tr_iadd dL_law_552 ?_
  refine tr_topi 1 (by decide +kernel) ?_
  refine tr_sld hs dL_law_553 (cz_inl 6 rfl (by decide +kernel)) ?_
  refine tr_ctr (M' := mX12_due) (as := [_]) dL_law_554 lk13_63 inX12_due seX12_due myX12_due (by decide) ⟨by decide, by decide⟩ rfl (hf2.1 183 12 (by decide) kd_183) (Nat.le_of_ble_eq_true rfl) (by decide) (by decide) (fX12_due _ hf2) ?_
  rintro _ cn9 K9 N9 I9 R9 L9 rfl
  show Tr _ _ _ _ (.int _ :: .int _ :: _) _ _ _ _ _ _ _ _
  refine tr_icmp_eq 1420 dL_law_557 (by decide) (fun _ => ?_) (fun h => absurd (by decide +kernel) h)
  exact law_nx hZ hs rfl rfl (by decide) (by decide)
set_option maxHeartbeats 4000000 in
set_option maxRecDepth 100000 in
theorem law_c10 {X : cz_X} {xs : Nat → Int32} {K N : Nat → Nat} {I : cz_I} {R : cz_R} {L : cz_L} (hZ : cz_LZ X) (hs : cz_scr X 6 xs) (hf1 : cz_f1 K N I R) (hf2 : cz_f2 K N I R) : Tr X mL_law 562 law_ls [] 203 K N I R L 203 15311 := by
  refine tr_aload_n dL_law_562 rfl ?_
  refine tr_aload_nS dL_law_563 rfl ?_
  refine tr_iload dL_law_564 rfl ?_
  refine tr_iconst (v := 1) dL_law_566 (by decide +kernel) ?_
  refine tr_iadd dL_law_567 ?_
  refine tr_topi 1 (by decide +kernel) ?_
  refine tr_sld hs dL_law_568 (cz_inl 6 rfl (by decide +kernel)) ?_
  refine tr_aload_nS dL_law_569 rfl ?_
  refine tr_iload dL_law_570 rfl ?_
  refine tr_iconst (v := 2) dL_law_572 (by decide +kernel) ?_
  refine tr_iadd dL_law_573 ?_
  refine tr_topi 2 (by decide +kernel) ?_
  refine tr_sld hs dL_law_574 (cz_inl 6 rfl (by decide +kernel)) ?_
  refine tr_ctr (M' := mX10_awake) (as := [_, _]) dL_law_575 lk13_64 inX10_awake seX10_awake myX10_awake (by decide) ⟨by decide, by decide⟩ rfl (hf1.1 0 10 (by decide) kd_0) (Nat.le_of_ble_eq_true rfl) (by decide) (by decide) (fX10_awake _ _ hf1) ?_
  rintro _ cn9 K9 N9 I9 R9 L9 ⟨rfl, rfl, rfl, rfl, hk9⟩
  replace hf2 := hf2.kept hk9
  show Tr _ _ _ _ (.int _ :: _) _ _ _ _ _ _ _ _
  refine tr_aload_n dL_law_578 rfl ?_
  refine tr_aload_nS dL_law_579 rfl ?_
  refine tr_iload dL_law_580 rfl ?_
  refine tr_iconst (v := 1) dL_law_582 (by decide +kernel) ?_
  refine tr_iadd dL_law_583 ?_
  refine tr_topi 1 (by decide +kernel) ?_
  refine tr_sld hs dL_law_584 (cz_inl 6 rfl (by decide +kernel)) ?_
  refine tr_aload_nS dL_law_585 rfl ?_
  refine tr_iload dL_law_586 rfl ?_
  refine tr_iconst (v := 2) dL_law_588 (by decide +kernel) ?_
  refine tr_iadd dL_law_589 ?_
  refine tr_topi 2 (by decide +kernel) ?_
  refine tr_sld hs dL_law_590 (cz_inl 6 rfl (by decide +kernel)) ?_
  refine tr_ctr (M' := mX12_awake) (as := [_, _]) dL_law_591 lk13_67 inX12_awake seX12_awake myX12_awake (by decide) ⟨by decide, by decide⟩ rfl (hf2.1 183 12 (by decide) kd_183) (Nat.le_of_ble_eq_true rfl) (by decide) (by decide) (fX12_awake _ _ hf2) ?_
  rintro _ cn9 K9 N9 I9 R9 L9 rfl
  show Tr _ _ _ _ (.int _ :: .int _ :: _) _ _ _ _ _ _ _ _
  refine tr_icmp_eq 1420 dL_law_594 (by decide) (fun _ => ?_) (fun h => absurd (by decide +kernel) h)
  exact law_nx hZ hs rfl rfl (by decide) (by decide)
set_option maxHeartbeats 4000000 in
set_option maxRecDepth 100000 in
theorem law_c11 {X : cz_X} {xs : Nat → Int32} {K N : Nat → Nat} {I : cz_I} {R : cz_R} {L : cz_L} (hZ : cz_LZ X) (hs : cz_scr X 6 xs) (hf1 : cz_f1 K N I R) (hf2 : cz_f2 K N I R) : Tr X mL_law 599 law_ls [] 203 K N I R L 203 15311 := by
  refine tr_aload_n dL_law_599 rfl ?_
  refine tr_aload_nS dL_law_600 rfl ?_
  refine tr_iload dL_law_601 rfl ?_
  refine tr_iconst (v := 1) dL_law_603 (by decide +kernel) ?_
  refine tr_iadd dL_law_604 ?_
  refine tr_topi 1 (by decide +kernel) ?_
  refine tr_sld hs dL_law_605 (cz_inl 6 rfl (by decide +kernel)) ?_
  refine tr_aload_nS dL_law_606 rfl ?_
  refine tr_iload dL_law_607 rfl ?_
  refine tr_iconst (v := 2) dL_law_609 (by decide +kernel) ?_
  refine tr_iadd dL_law_610 ?_
  refine tr_topi 2 (by decide +kernel) ?_
  refine tr_sld hs dL_law_611 (cz_inl 6 rfl (by decide +kernel)) ?_
  refine tr_aload_nS dL_law_612 rfl ?_
  refine tr_iload dL_law_613 rfl ?_
  refine tr_iconst (v := 3) dL_law_615 (by decide +kernel) ?_
  refine tr_iadd dL_law_616 ?_
  refine tr_topi 3 (by decide +kernel) ?_
  refine tr_sld hs dL_law_617 (cz_inl 6 rfl (by decide +kernel)) ?_
  refine tr_ctr (M' := mX10_notices) (as := [_, _, _]) dL_law_618 lk13_68 inX10_notices seX10_notices myX10_notices (by decide) ⟨by decide, by decide⟩ rfl (hf1.1 0 10 (by decide) kd_0) (Nat.le_of_ble_eq_true rfl) (by decide) (by decide) (fX10_notices _ _ _ hf1) ?_
  rintro _ cn9 K9 N9 I9 R9 L9 ⟨rfl, rfl, rfl, rfl, hk9⟩
  replace hf2 := hf2.kept hk9
  show Tr _ _ _ _ (.int _ :: _) _ _ _ _ _ _ _ _
  refine tr_aload_n dL_law_621 rfl ?_
  refine tr_aload_nS dL_law_622 rfl ?_
  refine tr_iload dL_law_623 rfl ?_
  refine tr_iconst (v := 1) dL_law_625 (by decide +kernel) ?_
  refine tr_iadd dL_law_626 ?_
  refine tr_topi 1 (by decide +kernel) ?_
  refine tr_sld hs dL_law_627 (cz_inl 6 rfl (by decide +kernel)) ?_
  refine tr_aload_nS dL_law_628 rfl ?_
  refine tr_iload dL_law_629 rfl ?_
  refine tr_iconst (v := 2) dL_law_631 (by decide +kernel) ?_
  refine tr_iadd dL_law_632 ?_
  refine tr_topi 2 (by decide +kernel) ?_
  refine tr_sld hs dL_law_633 (cz_inl 6 rfl (by decide +kernel)) ?_
  refine tr_aload_nS dL_law_634 rfl ?_
  refine tr_iload dL_law_635 rfl ?_
  refine tr_iconst (v := 3) dL_law_637 (by decide +kernel) ?_
  refine tr_iadd dL_law_638 ?_
  refine tr_topi 3 (by decide +kernel) ?_
  refine tr_sld hs dL_law_639 (cz_inl 6 rfl (by decide +kernel)) ?_
  refine tr_ctr (M' := mX12_notices) (as := [_, _, _]) dL_law_640 lk13_72 inX12_notices seX12_notices myX12_notices (by decide) ⟨by decide, by decide⟩ rfl (hf2.1 183 12 (by decide) kd_183) (Nat.le_of_ble_eq_true rfl) (by decide) (by decide) (fX12_notices _ _ _ hf2) ?_
  rintro _ cn9 K9 N9 I9 R9 L9 rfl
  show Tr _ _ _ _ (.int _ :: .int _ :: _) _ _ _ _ _ _ _ _
  refine tr_icmp_eq 1420 dL_law_643 (by decide) (fun _ => ?_) (fun h => absurd (by decide +kernel) h)
  exact law_nx hZ hs rfl rfl (by decide) (by decide)
set_option maxHeartbeats 4000000 in
set_option maxRecDepth 100000 in
theorem law_c12 {X : cz_X} {xs : Nat → Int32} {K N : Nat → Nat} {I : cz_I} {R : cz_R} {L : cz_L} (hZ : cz_LZ X) (hs : cz_scr X 6 xs) (hf1 : cz_f1 K N I R) (hf2 : cz_f2 K N I R) : Tr X mL_law 648 law_ls [] 203 K N I R L 203 15311 := by
  refine tr_aload_n dL_law_648 rfl ?_
  refine tr_aload_nS dL_law_649 rfl ?_
  refine tr_iload dL_law_650 rfl ?_
  refine tr_iconst (v := 1) dL_law_652 (by decide +kernel) ?_
  refine tr_iadd dL_law_653 ?_
  refine tr_topi 1 (by decide +kernel) ?_
  refine tr_sld hs dL_law_654 (cz_inl 6 rfl (by decide +kernel)) ?_
  refine tr_aload_nS dL_law_655 rfl ?_
  refine tr_iload dL_law_656 rfl ?_
  refine tr_iconst (v := 2) dL_law_658 (by decide +kernel) ?_
  refine tr_iadd dL_law_659 ?_
  refine tr_topi 2 (by decide +kernel) ?_
  refine tr_sld hs dL_law_660 (cz_inl 6 rfl (by decide +kernel)) ?_
  refine tr_ctr (M' := mX10_work) (as := [_, _]) dL_law_661 lk13_73 inX10_work seX10_work myX10_work (by decide) ⟨by decide, by decide⟩ rfl (hf1.1 0 10 (by decide) kd_0) (Nat.le_of_ble_eq_true rfl) (by decide) (by decide) (fX10_work _ _ hf1) ?_
  rintro _ cn9 K9 N9 I9 R9 L9 ⟨rfl, rfl, rfl, rfl, hk9⟩
  replace hf2 := hf2.kept hk9
  show Tr _ _ _ _ (.int _ :: _) _ _ _ _ _ _ _ _
  refine tr_aload_n dL_law_664 rfl ?_
  refine tr_aload_nS dL_law_665 rfl ?_
  refine tr_iload dL_law_666 rfl ?_
  refine tr_iconst (v := 1) dL_law_668 (by decide +kernel) ?_
  refine tr_iadd dL_law_669 ?_
  refine tr_topi 1 (by decide +kernel) ?_
  refine tr_sld hs dL_law_670 (cz_inl 6 rfl (by decide +kernel)) ?_
  refine tr_aload_nS dL_law_671 rfl ?_
  refine tr_iload dL_law_672 rfl ?_
  refine tr_iconst (v := 2) dL_law_674 (by decide +kernel) ?_
  refine tr_iadd dL_law_675 ?_
  refine tr_topi 2 (by decide +kernel) ?_
  refine tr_sld hs dL_law_676 (cz_inl 6 rfl (by decide +kernel)) ?_
  refine tr_ctr (M' := mX12_work) (as := [_, _]) dL_law_677 lk13_76 inX12_work seX12_work myX12_work (by decide) ⟨by decide, by decide⟩ rfl (hf2.1 183 12 (by decide) kd_183) (Nat.le_of_ble_eq_true rfl) (by decide) (by decide) (fX12_work _ _ hf2) ?_
  rintro _ cn9 K9 N9 I9 R9 L9 rfl
  show Tr _ _ _ _ (.int _ :: .int _ :: _) _ _ _ _ _ _ _ _
  refine tr_icmp_eq 1420 dL_law_680 (by decide) (fun _ => ?_) (fun h => absurd (by decide +kernel) h)
  exact law_nx hZ hs rfl rfl (by decide) (by decide)
set_option maxHeartbeats 4000000 in
set_option maxRecDepth 100000 in
theorem law_c13 {X : cz_X} {xs : Nat → Int32} {K N : Nat → Nat} {I : cz_I} {R : cz_R} {L : cz_L} (hZ : cz_LZ X) (hs : cz_scr X 6 xs) (hf1 : cz_f1 K N I R) (hf2 : cz_f2 K N I R) : Tr X mL_law 685 law_ls [] 203 K N I R L 203 15311 := by
  refine tr_aload_n dL_law_685 rfl ?_
  refine tr_aload_nS dL_law_686 rfl ?_
  refine tr_iload dL_law_687 rfl ?_
  refine tr_iconst (v := 1) dL_law_689 (by decide +kernel) ?_
  refine tr_iadd dL_law_690 ?_
  refine tr_topi 1 (by decide +kernel) ?_
  refine tr_sld hs dL_law_691 (cz_inl 6 rfl (by decide +kernel)) ?_
  refine tr_ctr (M' := mX10_worth) (as := [_]) dL_law_692 lk13_77 inX10_worth seX10_worth myX10_worth (by decide) ⟨by decide, by decide⟩ rfl (hf1.1 0 10 (by decide) kd_0) (Nat.le_of_ble_eq_true rfl) (by decide) (by decide) (fX10_worth _ hf1) ?_
  rintro _ cn9 K9 N9 I9 R9 L9 ⟨rfl, rfl, rfl, rfl, hk9⟩
  replace hf2 := hf2.kept hk9
  show Tr _ _ _ _ (.int _ :: _) _ _ _ _ _ _ _ _
  refine tr_aload_n dL_law_695 rfl ?_
  refine tr_aload_nS dL_law_696 rfl ?_
  refine tr_iload dL_law_697 rfl ?_
  refine tr_iconst (v := 1) dL_law_699 (by decide +kernel) ?_
  refine tr_iadd dL_law_700 ?_
  refine tr_topi 1 (by decide +kernel) ?_
  refine tr_sld hs dL_law_701 (cz_inl 6 rfl (by decide +kernel)) ?_
  refine tr_ctr (M' := mX12_worth) (as := [_]) dL_law_702 lk13_80 inX12_worth seX12_worth myX12_worth (by decide) ⟨by decide, by decide⟩ rfl (hf2.1 183 12 (by decide) kd_183) (Nat.le_of_ble_eq_true rfl) (by decide) (by decide) (fX12_worth _ hf2) ?_
  rintro _ cn9 K9 N9 I9 R9 L9 rfl
  show Tr _ _ _ _ (.int _ :: .int _ :: _) _ _ _ _ _ _ _ _
  refine tr_icmp_eq 1420 dL_law_705 (by decide) (fun _ => ?_) (fun h => absurd (by decide +kernel) h)
  exact law_nx hZ hs rfl rfl (by decide) (by decide)
set_option maxHeartbeats 4000000 in
set_option maxRecDepth 100000 in
theorem law_c14 {X : cz_X} {xs : Nat → Int32} {K N : Nat → Nat} {I : cz_I} {R : cz_R} {L : cz_L} (hZ : cz_LZ X) (hs : cz_scr X 6 xs) (hf1 : cz_f1 K N I R) (hf2 : cz_f2 K N I R) : Tr X mL_law 710 law_ls [] 203 K N I R L 203 15311 := by
  refine tr_aload_n dL_law_710 rfl ?_
  refine tr_aload_nS dL_law_711 rfl ?_
  refine tr_iload dL_law_712 rfl ?_
  refine tr_iconst (v := 1) dL_law_714 (by decide +kernel) ?_
  refine tr_iadd dL_law_715 ?_
  refine tr_topi 1 (by decide +kernel) ?_
  refine tr_sld hs dL_law_716 (cz_inl 6 rfl (by decide +kernel)) ?_
  refine tr_aload_nS dL_law_717 rfl ?_
  refine tr_iload dL_law_718 rfl ?_
  refine tr_iconst (v := 2) dL_law_720 (by decide +kernel) ?_
  refine tr_iadd dL_law_721 ?_
  refine tr_topi 2 (by decide +kernel) ?_
  refine tr_sld hs dL_law_722 (cz_inl 6 rfl (by decide +kernel)) ?_
  refine tr_ctr (M' := mX10_turned) (as := [_, _]) dL_law_723 lk13_81 inX10_turned seX10_turned myX10_turned (by decide) ⟨by decide, by decide⟩ rfl (hf1.1 0 10 (by decide) kd_0) (Nat.le_of_ble_eq_true rfl) (by decide) (by decide) (fX10_turned _ _ hf1) ?_
  rintro _ cn9 K9 N9 I9 R9 L9 ⟨rfl, rfl, rfl, rfl, hk9⟩
  replace hf2 := hf2.kept hk9
  show Tr _ _ _ _ (.int _ :: _) _ _ _ _ _ _ _ _
  refine tr_aload_n dL_law_726 rfl ?_
  refine tr_aload_nS dL_law_727 rfl ?_
  refine tr_iload dL_law_728 rfl ?_
  refine tr_iconst (v := 1) dL_law_730 (by decide +kernel) ?_
  refine tr_iadd dL_law_731 ?_
  refine tr_topi 1 (by decide +kernel) ?_
  refine tr_sld hs dL_law_732 (cz_inl 6 rfl (by decide +kernel)) ?_
  refine tr_aload_nS dL_law_733 rfl ?_
  refine tr_iload dL_law_734 rfl ?_
  refine tr_iconst (v := 2) dL_law_736 (by decide +kernel) ?_
  refine tr_iadd dL_law_737 ?_
  refine tr_topi 2 (by decide +kernel) ?_
  refine tr_sld hs dL_law_738 (cz_inl 6 rfl (by decide +kernel)) ?_
  refine tr_ctr (M' := mX12_turned) (as := [_, _]) dL_law_739 lk13_84 inX12_turned seX12_turned myX12_turned (by decide) ⟨by decide, by decide⟩ rfl (hf2.1 183 12 (by decide) kd_183) (Nat.le_of_ble_eq_true rfl) (by decide) (by decide) (fX12_turned _ _ hf2) ?_
  rintro _ cn9 K9 N9 I9 R9 L9 rfl
  show Tr _ _ _ _ (.int _ :: .int _ :: _) _ _ _ _ _ _ _ _
  refine tr_icmp_eq 1420 dL_law_742 (by decide) (fun _ => ?_) (fun h => absurd (by decide +kernel) h)
  exact law_nx hZ hs rfl rfl (by decide) (by decide)
set_option maxHeartbeats 4000000 in
set_option maxRecDepth 100000 in
theorem law_c15 {X : cz_X} {xs : Nat → Int32} {K N : Nat → Nat} {I : cz_I} {R : cz_R} {L : cz_L} (hZ : cz_LZ X) (hs : cz_scr X 6 xs) (hf1 : cz_f1 K N I R) (hf2 : cz_f2 K N I R) : Tr X mL_law 747 law_ls [] 203 K N I R L 203 15311 := by
  refine tr_aload_n dL_law_747 rfl ?_
  refine tr_aload_nS dL_law_748 rfl ?_
  refine tr_iload dL_law_749 rfl ?_
  refine tr_iconst (v := 1) dL_law_751 (by decide +kernel) ?_
  refine tr_iadd dL_law_752 ?_
  refine tr_topi 1 (by decide +kernel) ?_
  refine tr_sld hs dL_law_753 (cz_inl 6 rfl (by decide +kernel)) ?_
  refine tr_aload_nS dL_law_754 rfl ?_
  refine tr_iload dL_law_755 rfl ?_
  refine tr_iconst (v := 2) dL_law_757 (by decide +kernel) ?_
  refine tr_iadd dL_law_758 ?_
  refine tr_topi 2 (by decide +kernel) ?_
  refine tr_sld hs dL_law_759 (cz_inl 6 rfl (by decide +kernel)) ?_
  refine tr_ctr (M' := mX10_up) (as := [_, _]) dL_law_760 lk13_85 inX10_up seX10_up myX10_up (by decide) ⟨by decide, by decide⟩ rfl (hf1.1 0 10 (by decide) kd_0) (Nat.le_of_ble_eq_true rfl) (by decide) (by decide) (fX10_up _ _ hf1) ?_
  rintro _ cn9 K9 N9 I9 R9 L9 ⟨rfl, rfl, rfl, rfl, hk9⟩
  replace hf2 := hf2.kept hk9
  show Tr _ _ _ _ (.int _ :: _) _ _ _ _ _ _ _ _
  refine tr_aload_n dL_law_763 rfl ?_
  refine tr_aload_nS dL_law_764 rfl ?_
  refine tr_iload dL_law_765 rfl ?_
  refine tr_iconst (v := 1) dL_law_767 (by decide +kernel) ?_
  refine tr_iadd dL_law_768 ?_
  refine tr_topi 1 (by decide +kernel) ?_
  refine tr_sld hs dL_law_769 (cz_inl 6 rfl (by decide +kernel)) ?_
  refine tr_aload_nS dL_law_770 rfl ?_
  refine tr_iload dL_law_771 rfl ?_
  refine tr_iconst (v := 2) dL_law_773 (by decide +kernel) ?_
  refine tr_iadd dL_law_774 ?_
  refine tr_topi 2 (by decide +kernel) ?_
  refine tr_sld hs dL_law_775 (cz_inl 6 rfl (by decide +kernel)) ?_
  refine tr_ctr (M' := mX12_up) (as := [_, _]) dL_law_776 lk13_88 inX12_up seX12_up myX12_up (by decide) ⟨by decide, by decide⟩ rfl (hf2.1 183 12 (by decide) kd_183) (Nat.le_of_ble_eq_true rfl) (by decide) (by decide) (fX12_up _ _ hf2) ?_
  rintro _ cn9 K9 N9 I9 R9 L9 rfl
  show Tr _ _ _ _ (.int _ :: .int _ :: _) _ _ _ _ _ _ _ _
  refine tr_icmp_eq 1420 dL_law_779 (by decide) (fun _ => ?_) (fun h => absurd (by decide +kernel) h)
  exact law_nx hZ hs rfl rfl (by decide) (by decide)
set_option maxHeartbeats 4000000 in
set_option maxRecDepth 100000 in
theorem law_c16 {X : cz_X} {xs : Nat → Int32} {K N : Nat → Nat} {I : cz_I} {R : cz_R} {L : cz_L} (hZ : cz_LZ X) (hs : cz_scr X 6 xs) (hf1 : cz_f1 K N I R) (hf2 : cz_f2 K N I R) : Tr X mL_law 784 law_ls [] 203 K N I R L 203 15311 := by
  refine tr_aload_n dL_law_784 rfl ?_
  refine tr_aload_nS dL_law_785 rfl ?_
  refine tr_iload dL_law_786 rfl ?_
  refine tr_iconst (v := 1) dL_law_788 (by decide +kernel) ?_
  refine tr_iadd dL_law_789 ?_
  refine tr_topi 1 (by decide +kernel) ?_
  refine tr_sld hs dL_law_790 (cz_inl 6 rfl (by decide +kernel)) ?_
  refine tr_aload_nS dL_law_791 rfl ?_
  refine tr_iload dL_law_792 rfl ?_
  refine tr_iconst (v := 2) dL_law_794 (by decide +kernel) ?_
  refine tr_iadd dL_law_795 ?_
  refine tr_topi 2 (by decide +kernel) ?_
  refine tr_sld hs dL_law_796 (cz_inl 6 rfl (by decide +kernel)) ?_
  refine tr_ctr (M' := mX10_cheese) (as := [_, _]) dL_law_797 lk13_89 inX10_cheese seX10_cheese myX10_cheese (by decide) ⟨by decide, by decide⟩ rfl (hf1.1 0 10 (by decide) kd_0) (Nat.le_of_ble_eq_true rfl) (by decide) (by decide) (fX10_cheese _ _ hf1) ?_
  rintro _ cn9 K9 N9 I9 R9 L9 ⟨rfl, rfl, rfl, rfl, hk9⟩
  replace hf2 := hf2.kept hk9
  show Tr _ _ _ _ (.int _ :: _) _ _ _ _ _ _ _ _
  refine tr_aload_n dL_law_800 rfl ?_
  refine tr_aload_nS dL_law_801 rfl ?_
  refine tr_iload dL_law_802 rfl ?_
  refine tr_iconst (v := 1) dL_law_804 (by decide +kernel) ?_
  refine tr_iadd dL_law_805 ?_
  refine tr_topi 1 (by decide +kernel) ?_
  refine tr_sld hs dL_law_806 (cz_inl 6 rfl (by decide +kernel)) ?_
  refine tr_aload_nS dL_law_807 rfl ?_
  refine tr_iload dL_law_808 rfl ?_
  refine tr_iconst (v := 2) dL_law_810 (by decide +kernel) ?_
  refine tr_iadd dL_law_811 ?_
  refine tr_topi 2 (by decide +kernel) ?_
  refine tr_sld hs dL_law_812 (cz_inl 6 rfl (by decide +kernel)) ?_
  refine tr_ctr (M' := mX12_cheese) (as := [_, _]) dL_law_813 lk13_92 inX12_cheese seX12_cheese myX12_cheese (by decide) ⟨by decide, by decide⟩ rfl (hf2.1 183 12 (by decide) kd_183) (Nat.le_of_ble_eq_true rfl) (by decide) (by decide) (fX12_cheese _ _ hf2) ?_
  rintro _ cn9 K9 N9 I9 R9 L9 rfl
  show Tr _ _ _ _ (.int _ :: .int _ :: _) _ _ _ _ _ _ _ _
  refine tr_icmp_eq 1420 dL_law_816 (by decide) (fun _ => ?_) (fun h => absurd (by decide +kernel) h)
  exact law_nx hZ hs rfl rfl (by decide) (by decide)
set_option maxHeartbeats 4000000 in
set_option maxRecDepth 100000 in
theorem law_c17 {X : cz_X} {xs : Nat → Int32} {K N : Nat → Nat} {I : cz_I} {R : cz_R} {L : cz_L} (hZ : cz_LZ X) (hs : cz_scr X 6 xs) (hf1 : cz_f1 K N I R) (hf2 : cz_f2 K N I R) : Tr X mL_law 821 law_ls [] 203 K N I R L 203 15311 := by
  refine tr_aload_n dL_law_821 rfl ?_
  refine tr_aload_nS dL_law_822 rfl ?_
  refine tr_iload dL_law_823 rfl ?_
  refine tr_iconst (v := 1) dL_law_825 (by decide +kernel) ?_
  refine tr_iadd dL_law_826 ?_
  refine tr_topi 1 (by decide +kernel) ?_
  refine tr_sld hs dL_law_827 (cz_inl 6 rfl (by decide +kernel)) ?_
  refine tr_aload_nS dL_law_828 rfl ?_
  refine tr_iload dL_law_829 rfl ?_
  refine tr_iconst (v := 2) dL_law_831 (by decide +kernel) ?_
  refine tr_iadd dL_law_832 ?_
  refine tr_topi 2 (by decide +kernel) ?_
  refine tr_sld hs dL_law_833 (cz_inl 6 rfl (by decide +kernel)) ?_
  refine tr_ctr (M' := mX10_vein) (as := [_, _]) dL_law_834 lk13_93 inX10_vein seX10_vein myX10_vein (by decide) ⟨by decide, by decide⟩ rfl (hf1.1 0 10 (by decide) kd_0) (Nat.le_of_ble_eq_true rfl) (by decide) (by decide) (fX10_vein _ _ hf1) ?_
  rintro _ cn9 K9 N9 I9 R9 L9 ⟨rfl, rfl, rfl, rfl, hk9⟩
  replace hf2 := hf2.kept hk9
  show Tr _ _ _ _ (.int _ :: _) _ _ _ _ _ _ _ _
  refine tr_aload_n dL_law_837 rfl ?_
  refine tr_aload_nS dL_law_838 rfl ?_
  refine tr_iload dL_law_839 rfl ?_
  refine tr_iconst (v := 1) dL_law_841 (by decide +kernel) ?_
  refine tr_iadd dL_law_842 ?_
  refine tr_topi 1 (by decide +kernel) ?_
  refine tr_sld hs dL_law_843 (cz_inl 6 rfl (by decide +kernel)) ?_
  refine tr_aload_nS dL_law_844 rfl ?_
  refine tr_iload dL_law_845 rfl ?_
  refine tr_iconst (v := 2) dL_law_847 (by decide +kernel) ?_
  refine tr_iadd dL_law_848 ?_
  refine tr_topi 2 (by decide +kernel) ?_
  refine tr_sld hs dL_law_849 (cz_inl 6 rfl (by decide +kernel)) ?_
  refine tr_ctr (M' := mX12_vein) (as := [_, _]) dL_law_850 lk13_96 inX12_vein seX12_vein myX12_vein (by decide) ⟨by decide, by decide⟩ rfl (hf2.1 183 12 (by decide) kd_183) (Nat.le_of_ble_eq_true rfl) (by decide) (by decide) (fX12_vein _ _ hf2) ?_
  rintro _ cn9 K9 N9 I9 R9 L9 rfl
  show Tr _ _ _ _ (.int _ :: .int _ :: _) _ _ _ _ _ _ _ _
  refine tr_icmp_eq 1420 dL_law_853 (by decide) (fun _ => ?_) (fun h => absurd (by decide +kernel) h)
  exact law_nx hZ hs rfl rfl (by decide) (by decide)
set_option maxHeartbeats 4000000 in
set_option maxRecDepth 100000 in
theorem law_c18 {X : cz_X} {xs : Nat → Int32} {K N : Nat → Nat} {I : cz_I} {R : cz_R} {L : cz_L} (hZ : cz_LZ X) (hs : cz_scr X 6 xs) (hf1 : cz_f1 K N I R) (hf2 : cz_f2 K N I R) : Tr X mL_law 858 law_ls [] 203 K N I R L 203 15311 := by
  refine tr_aload_n dL_law_858 rfl ?_
  refine tr_aload_nS dL_law_859 rfl ?_
  refine tr_iload dL_law_860 rfl ?_
  refine tr_iconst (v := 1) dL_law_862 (by decide +kernel) ?_
  refine tr_iadd dL_law_863 ?_
  refine tr_topi 1 (by decide +kernel) ?_
  refine tr_sld hs dL_law_864 (cz_inl 6 rfl (by decide +kernel)) ?_
  refine tr_aload_nS dL_law_865 rfl ?_
  refine tr_iload dL_law_866 rfl ?_
  refine tr_iconst (v := 2) dL_law_868 (by decide +kernel) ?_
  refine tr_iadd dL_law_869 ?_
  refine tr_topi 2 (by decide +kernel) ?_
  refine tr_sld hs dL_law_870 (cz_inl 6 rfl (by decide +kernel)) ?_
  refine tr_ctr (M' := mX10_cause) (as := [_, _]) dL_law_871 lk13_97 inX10_cause seX10_cause myX10_cause (by decide) ⟨by decide, by decide⟩ rfl (hf1.1 0 10 (by decide) kd_0) (Nat.le_of_ble_eq_true rfl) (by decide) (by decide) (fX10_cause _ _ hf1) ?_
  rintro _ cn9 K9 N9 I9 R9 L9 ⟨rfl, rfl, rfl, rfl, hk9⟩
  replace hf2 := hf2.kept hk9
  show Tr _ _ _ _ (.int _ :: _) _ _ _ _ _ _ _ _
  refine tr_aload_n dL_law_874 rfl ?_
  refine tr_aload_nS dL_law_875 rfl ?_
  refine tr_iload dL_law_876 rfl ?_
  refine tr_iconst (v := 1) dL_law_878 (by decide +kernel) ?_
  refine tr_iadd dL_law_879 ?_
  refine tr_topi 1 (by decide +kernel) ?_
  refine tr_sld hs dL_law_880 (cz_inl 6 rfl (by decide +kernel)) ?_
  refine tr_aload_nS dL_law_881 rfl ?_
  refine tr_iload dL_law_882 rfl ?_
  refine tr_iconst (v := 2) dL_law_884 (by decide +kernel) ?_
  refine tr_iadd dL_law_885 ?_
  refine tr_topi 2 (by decide +kernel) ?_
  refine tr_sld hs dL_law_886 (cz_inl 6 rfl (by decide +kernel)) ?_
  refine tr_ctr (M' := mX12_cause) (as := [_, _]) dL_law_887 lk13_100 inX12_cause seX12_cause myX12_cause (by decide) ⟨by decide, by decide⟩ rfl (hf2.1 183 12 (by decide) kd_183) (Nat.le_of_ble_eq_true rfl) (by decide) (by decide) (fX12_cause _ _ hf2) ?_
  rintro _ cn9 K9 N9 I9 R9 L9 rfl
  show Tr _ _ _ _ (.int _ :: .int _ :: _) _ _ _ _ _ _ _ _
  refine tr_icmp_eq 1420 dL_law_890 (by decide) (fun _ => ?_) (fun h => absurd (by decide +kernel) h)
  exact law_nx hZ hs rfl rfl (by decide) (by decide)
set_option maxHeartbeats 4000000 in
set_option maxRecDepth 100000 in
theorem law_c19 {X : cz_X} {xs : Nat → Int32} {K N : Nat → Nat} {I : cz_I} {R : cz_R} {L : cz_L} (hZ : cz_LZ X) (hs : cz_scr X 6 xs) (hf1 : cz_f1 K N I R) (hf2 : cz_f2 K N I R) : Tr X mL_law 895 law_ls [] 203 K N I R L 203 15311 := by
  refine tr_aload_n dL_law_895 rfl ?_
  refine tr_ctr (M' := mX10_total) (as := []) dL_law_896 lk13_101 inX10_total seX10_total myX10_total (by decide) ⟨by decide, by decide⟩ rfl (hf1.1 0 10 (by decide) kd_0) (Nat.le_of_ble_eq_true rfl) (by decide) (by decide) (fX10_total  hf1) ?_
  rintro _ cn9 K9 N9 I9 R9 L9 ⟨rfl, rfl, rfl, rfl, hk9⟩
  replace hf2 := hf2.kept hk9
  show Tr _ _ _ _ (.int _ :: _) _ _ _ _ _ _ _ _
  refine tr_aload_n dL_law_899 rfl ?_
  refine tr_ctr (M' := mX12_total) (as := []) dL_law_900 lk13_104 inX12_total seX12_total myX12_total (by decide) ⟨by decide, by decide⟩ rfl (hf2.1 183 12 (by decide) kd_183) (Nat.le_of_ble_eq_true rfl) (by decide) (by decide) (fX12_total  hf2) ?_
  rintro _ cn9 K9 N9 I9 R9 L9 rfl
  show Tr _ _ _ _ (.int _ :: .int _ :: _) _ _ _ _ _ _ _ _
  refine tr_icmp_eq 1420 dL_law_903 (by decide) (fun _ => ?_) (fun h => absurd (by decide +kernel) h)
  exact law_nx hZ hs rfl rfl (by decide) (by decide)
set_option maxHeartbeats 4000000 in
set_option maxRecDepth 100000 in
theorem law_c20 {X : cz_X} {xs : Nat → Int32} {K N : Nat → Nat} {I : cz_I} {R : cz_R} {L : cz_L} (hZ : cz_LZ X) (hs : cz_scr X 6 xs) (hf1 : cz_f1 K N I R) (hf2 : cz_f2 K N I R) : Tr X mL_law 908 law_ls [] 203 K N I R L 203 15311 := by
  refine tr_aload_n dL_law_908 rfl ?_
  refine tr_aload_nS dL_law_909 rfl ?_
  refine tr_iload dL_law_910 rfl ?_
  refine tr_iconst (v := 1) dL_law_912 (by decide +kernel) ?_
  refine tr_iadd dL_law_913 ?_
  refine tr_topi 1 (by decide +kernel) ?_
  refine tr_sld hs dL_law_914 (cz_inl 6 rfl (by decide +kernel)) ?_
  refine tr_ctr (M' := mX10_without) (as := [_]) dL_law_915 lk13_105 inX10_without seX10_without myX10_without (by decide) ⟨by decide, by decide⟩ rfl (hf1.1 0 10 (by decide) kd_0) (Nat.le_of_ble_eq_true rfl) (by decide) (by decide) (fX10_without _ hf1) ?_
  rintro _ cn9 K9 N9 I9 R9 L9 ⟨rfl, rfl, rfl, rfl, hk9⟩
  replace hf2 := hf2.kept hk9
  show Tr _ _ _ _ (.int _ :: _) _ _ _ _ _ _ _ _
  refine tr_aload_n dL_law_918 rfl ?_
  refine tr_aload_nS dL_law_919 rfl ?_
  refine tr_iload dL_law_920 rfl ?_
  refine tr_iconst (v := 1) dL_law_922 (by decide +kernel) ?_
  refine tr_iadd dL_law_923 ?_
  refine tr_topi 1 (by decide +kernel) ?_
  refine tr_sld hs dL_law_924 (cz_inl 6 rfl (by decide +kernel)) ?_
  refine tr_ctr (M' := mX12_without) (as := [_]) dL_law_925 lk13_108 inX12_without seX12_without myX12_without (by decide) ⟨by decide, by decide⟩ rfl (hf2.1 183 12 (by decide) kd_183) (Nat.le_of_ble_eq_true rfl) (by decide) (by decide) (fX12_without _ hf2) ?_
  rintro _ cn9 K9 N9 I9 R9 L9 rfl
  show Tr _ _ _ _ (.int _ :: .int _ :: _) _ _ _ _ _ _ _ _
  refine tr_icmp_eq 1420 dL_law_928 (by decide) (fun _ => ?_) (fun h => absurd (by decide +kernel) h)
  exact law_nx hZ hs rfl rfl (by decide) (by decide)
set_option maxHeartbeats 4000000 in
set_option maxRecDepth 100000 in
theorem law_c21 {X : cz_X} {xs : Nat → Int32} {K N : Nat → Nat} {I : cz_I} {R : cz_R} {L : cz_L} (hZ : cz_LZ X) (hs : cz_scr X 6 xs) (hf1 : cz_f1 K N I R) (hf2 : cz_f2 K N I R) : Tr X mL_law 933 law_ls [] 203 K N I R L 203 15311 := by
  refine tr_aload_n dL_law_933 rfl ?_
  refine tr_ctr (M' := mX10_wake) (as := []) dL_law_934 lk13_109 inX10_wake seX10_wake myX10_wake (by decide) ⟨by decide, by decide⟩ rfl (hf1.1 0 10 (by decide) kd_0) (Nat.le_of_ble_eq_true rfl) (by decide) (by decide) (fX10_wake  hf1) ?_
  rintro _ cn9 K9 N9 I9 R9 L9 ⟨rfl, rfl, rfl, rfl, hk9⟩
  replace hf2 := hf2.kept hk9
  show Tr _ _ _ _ (.int _ :: _) _ _ _ _ _ _ _ _
  refine tr_aload_n dL_law_937 rfl ?_
  refine tr_ctr (M' := mX12_wake) (as := []) dL_law_938 lk13_112 inX12_wake seX12_wake myX12_wake (by decide) ⟨by decide, by decide⟩ rfl (hf2.1 183 12 (by decide) kd_183) (Nat.le_of_ble_eq_true rfl) (by decide) (by decide) (fX12_wake  hf2) ?_
  rintro _ cn9 K9 N9 I9 R9 L9 rfl
  show Tr _ _ _ _ (.int _ :: .int _ :: _) _ _ _ _ _ _ _ _
  refine tr_icmp_eq 1420 dL_law_941 (by decide) (fun _ => ?_) (fun h => absurd (by decide +kernel) h)
  exact law_nx hZ hs rfl rfl (by decide) (by decide)
set_option maxHeartbeats 4000000 in
set_option maxRecDepth 100000 in
theorem law_c22 {X : cz_X} {xs : Nat → Int32} {K N : Nat → Nat} {I : cz_I} {R : cz_R} {L : cz_L} (hZ : cz_LZ X) (hs : cz_scr X 6 xs) (hf1 : cz_f1 K N I R) (hf2 : cz_f2 K N I R) : Tr X mL_law 946 law_ls [] 203 K N I R L 203 15311 := by
  refine tr_aload_n dL_law_946 rfl ?_
  refine tr_ctr (M' := mX10_wakeTotal) (as := []) dL_law_947 lk13_113 inX10_wakeTotal seX10_wakeTotal myX10_wakeTotal (by decide) ⟨by decide, by decide⟩ rfl (hf1.1 0 10 (by decide) kd_0) (Nat.le_of_ble_eq_true rfl) (by decide) (by decide) (fX10_wakeTotal  hf1) ?_
  rintro _ cn9 K9 N9 I9 R9 L9 ⟨rfl, rfl, rfl, rfl, hk9⟩
  replace hf2 := hf2.kept hk9
  show Tr _ _ _ _ (.int _ :: _) _ _ _ _ _ _ _ _
  refine tr_aload_n dL_law_950 rfl ?_
  refine tr_ctr (M' := mX12_wakeTotal) (as := []) dL_law_951 lk13_116 inX12_wakeTotal seX12_wakeTotal myX12_wakeTotal (by decide) ⟨by decide, by decide⟩ rfl (hf2.1 183 12 (by decide) kd_183) (Nat.le_of_ble_eq_true rfl) (by decide) (by decide) (fX12_wakeTotal  hf2) ?_
  rintro _ cn9 K9 N9 I9 R9 L9 rfl
  show Tr _ _ _ _ (.int _ :: .int _ :: _) _ _ _ _ _ _ _ _
  refine tr_icmp_eq 1420 dL_law_954 (by decide) (fun _ => ?_) (fun h => absurd (by decide +kernel) h)
  exact law_nx hZ hs rfl rfl (by decide) (by decide)
set_option maxHeartbeats 4000000 in
set_option maxRecDepth 100000 in
theorem law_c23 {X : cz_X} {xs : Nat → Int32} {K N : Nat → Nat} {I : cz_I} {R : cz_R} {L : cz_L} (hZ : cz_LZ X) (hs : cz_scr X 6 xs) (hf1 : cz_f1 K N I R) (hf2 : cz_f2 K N I R) : Tr X mL_law 959 law_ls [] 203 K N I R L 203 15311 := by
  refine tr_aload_n dL_law_959 rfl ?_
  refine tr_ctr (M' := mX10_fewest) (as := []) dL_law_960 lk13_117 inX10_fewest seX10_fewest myX10_fewest (by decide) ⟨by decide, by decide⟩ rfl (hf1.1 0 10 (by decide) kd_0) (Nat.le_of_ble_eq_true rfl) (by decide) (by decide) (fX10_fewest  hf1) ?_
  rintro _ cn9 K9 N9 I9 R9 L9 ⟨rfl, rfl, rfl, rfl, hk9⟩
  replace hf2 := hf2.kept hk9
  show Tr _ _ _ _ (.int _ :: _) _ _ _ _ _ _ _ _
  refine tr_aload_n dL_law_963 rfl ?_
  refine tr_ctr (M' := mX12_fewest) (as := []) dL_law_964 lk13_120 inX12_fewest seX12_fewest myX12_fewest (by decide) ⟨by decide, by decide⟩ rfl (hf2.1 183 12 (by decide) kd_183) (Nat.le_of_ble_eq_true rfl) (by decide) (by decide) (fX12_fewest  hf2) ?_
  rintro _ cn9 K9 N9 I9 R9 L9 rfl
  show Tr _ _ _ _ (.int _ :: .int _ :: _) _ _ _ _ _ _ _ _
  refine tr_icmp_eq 1420 dL_law_967 (by decide) (fun _ => ?_) (fun h => absurd (by decide +kernel) h)
  exact law_nx hZ hs rfl rfl (by decide) (by decide)
set_option maxHeartbeats 4000000 in
set_option maxRecDepth 100000 in
theorem law_c24 {X : cz_X} {xs : Nat → Int32} {K N : Nat → Nat} {I : cz_I} {R : cz_R} {L : cz_L} (hZ : cz_LZ X) (hs : cz_scr X 6 xs) (hf1 : cz_f1 K N I R) (hf2 : cz_f2 K N I R) : Tr X mL_law 972 law_ls [] 203 K N I R L 203 15311 := by
  refine tr_aload_n dL_law_972 rfl ?_
  refine tr_ctr (M' := mX10_fewestBy) (as := []) dL_law_973 lk13_121 inX10_fewestBy seX10_fewestBy myX10_fewestBy (by decide) ⟨by decide, by decide⟩ rfl (hf1.1 0 10 (by decide) kd_0) (Nat.le_of_ble_eq_true rfl) (by decide) (by decide) (fX10_fewestBy  hf1) ?_
  rintro _ cn9 K9 N9 I9 R9 L9 ⟨rfl, rfl, rfl, rfl, hk9⟩
  replace hf2 := hf2.kept hk9
  show Tr _ _ _ _ (.int _ :: _) _ _ _ _ _ _ _ _
  refine tr_aload_n dL_law_976 rfl ?_
  refine tr_ctr (M' := mX12_fewestBy) (as := []) dL_law_977 lk13_124 inX12_fewestBy seX12_fewestBy myX12_fewestBy (by decide) ⟨by decide, by decide⟩ rfl (hf2.1 183 12 (by decide) kd_183) (Nat.le_of_ble_eq_true rfl) (by decide) (by decide) (fX12_fewestBy  hf2) ?_
  rintro _ cn9 K9 N9 I9 R9 L9 rfl
  show Tr _ _ _ _ (.int _ :: .int _ :: _) _ _ _ _ _ _ _ _
  refine tr_icmp_eq 1420 dL_law_980 (by decide) (fun _ => ?_) (fun h => absurd (by decide +kernel) h)
  exact law_nx hZ hs rfl rfl (by decide) (by decide)
set_option maxHeartbeats 4000000 in
set_option maxRecDepth 100000 in
theorem law_c25 {X : cz_X} {xs : Nat → Int32} {K N : Nat → Nat} {I : cz_I} {R : cz_R} {L : cz_L} (hZ : cz_LZ X) (hs : cz_scr X 6 xs) (hf1 : cz_f1 K N I R) (hf2 : cz_f2 K N I R) : Tr X mL_law 985 law_ls [] 203 K N I R L 203 15311 := by
  refine tr_aload_n dL_law_985 rfl ?_
  refine tr_aload_nS dL_law_986 rfl ?_
  refine tr_iload dL_law_987 rfl ?_
  refine tr_iconst (v := 1) dL_law_989 (by decide +kernel) ?_
  refine tr_iadd dL_law_990 ?_
  refine tr_topi 1 (by decide +kernel) ?_
  refine tr_sld hs dL_law_991 (cz_inl 6 rfl (by decide +kernel)) ?_
  refine tr_ctr (M' := mX10_fits) (as := [_]) dL_law_992 lk13_125 inX10_fits seX10_fits myX10_fits (by decide) ⟨by decide, by decide⟩ rfl (hf1.1 0 10 (by decide) kd_0) (Nat.le_of_ble_eq_true rfl) (by decide) (by decide) (fX10_fits _ hf1) ?_
  rintro _ cn9 K9 N9 I9 R9 L9 ⟨rfl, rfl, rfl, rfl, hk9⟩
  replace hf2 := hf2.kept hk9
  show Tr _ _ _ _ (.int _ :: _) _ _ _ _ _ _ _ _
  refine tr_aload_n dL_law_995 rfl ?_
  refine tr_aload_nS dL_law_996 rfl ?_
  refine tr_iload dL_law_997 rfl ?_
  refine tr_iconst (v := 1) dL_law_999 (by decide +kernel) ?_
  refine tr_iadd dL_law_1000 ?_
  refine tr_topi 1 (by decide +kernel) ?_
  refine tr_sld hs dL_law_1001 (cz_inl 6 rfl (by decide +kernel)) ?_
  refine tr_ctr (M' := mX12_fits) (as := [_]) dL_law_1002 lk13_128 inX12_fits seX12_fits myX12_fits (by decide) ⟨by decide, by decide⟩ rfl (hf2.1 183 12 (by decide) kd_183) (Nat.le_of_ble_eq_true rfl) (by decide) (by decide) (fX12_fits _ hf2) ?_
  rintro _ cn9 K9 N9 I9 R9 L9 rfl
  show Tr _ _ _ _ (.int _ :: .int _ :: _) _ _ _ _ _ _ _ _
  refine tr_icmp_eq 1420 dL_law_1005 (by decide) (fun _ => ?_) (fun h => absurd (by decide +kernel) h)
  exact law_nx hZ hs rfl rfl (by decide) (by decide)
set_option maxHeartbeats 4000000 in
set_option maxRecDepth 100000 in
theorem law_c26 {X : cz_X} {xs : Nat → Int32} {K N : Nat → Nat} {I : cz_I} {R : cz_R} {L : cz_L} (hZ : cz_LZ X) (hs : cz_scr X 6 xs) (hf1 : cz_f1 K N I R) (hf2 : cz_f2 K N I R) : Tr X mL_law 1010 law_ls [] 203 K N I R L 203 15311 := by
  refine tr_aload_n dL_law_1010 rfl ?_
  refine tr_aload_nS dL_law_1011 rfl ?_
  refine tr_iload dL_law_1012 rfl ?_
  refine tr_iconst (v := 1) dL_law_1014 (by decide +kernel) ?_
  refine tr_iadd dL_law_1015 ?_
  refine tr_topi 1 (by decide +kernel) ?_
  refine tr_sld hs dL_law_1016 (cz_inl 6 rfl (by decide +kernel)) ?_
  refine tr_ctr (M' := mX10_by) (as := [_]) dL_law_1017 lk13_129 inX10_by seX10_by myX10_by (by decide) ⟨by decide, by decide⟩ rfl (hf1.1 0 10 (by decide) kd_0) (Nat.le_of_ble_eq_true rfl) (by decide) (by decide) (fX10_by _ hf1) ?_
  rintro _ cn9 K9 N9 I9 R9 L9 ⟨rfl, rfl, rfl, rfl, hk9⟩
  replace hf2 := hf2.kept hk9
  show Tr _ _ _ _ (.int _ :: _) _ _ _ _ _ _ _ _
  refine tr_aload_n dL_law_1020 rfl ?_
  refine tr_aload_nS dL_law_1021 rfl ?_
  refine tr_iload dL_law_1022 rfl ?_
  refine tr_iconst (v := 1) dL_law_1024 (by decide +kernel) ?_
  refine tr_iadd dL_law_1025 ?_
  refine tr_topi 1 (by decide +kernel) ?_
  refine tr_sld hs dL_law_1026 (cz_inl 6 rfl (by decide +kernel)) ?_
  refine tr_ctr (M' := mX12_by) (as := [_]) dL_law_1027 lk13_132 inX12_by seX12_by myX12_by (by decide) ⟨by decide, by decide⟩ rfl (hf2.1 183 12 (by decide) kd_183) (Nat.le_of_ble_eq_true rfl) (by decide) (by decide) (fX12_by _ hf2) ?_
  rintro _ cn9 K9 N9 I9 R9 L9 rfl
  show Tr _ _ _ _ (.int _ :: .int _ :: _) _ _ _ _ _ _ _ _
  refine tr_icmp_eq 1420 dL_law_1030 (by decide) (fun _ => ?_) (fun h => absurd (by decide +kernel) h)
  exact law_nx hZ hs rfl rfl (by decide) (by decide)
set_option maxHeartbeats 4000000 in
set_option maxRecDepth 100000 in
theorem law_c27 {X : cz_X} {xs : Nat → Int32} {K N : Nat → Nat} {I : cz_I} {R : cz_R} {L : cz_L} (hZ : cz_LZ X) (hs : cz_scr X 6 xs) (hf1 : cz_f1 K N I R) (hf2 : cz_f2 K N I R) : Tr X mL_law 1035 law_ls [] 203 K N I R L 203 15311 := by
  refine tr_aload_n dL_law_1035 rfl ?_
  refine tr_aload_nS dL_law_1036 rfl ?_
  refine tr_iload dL_law_1037 rfl ?_
  refine tr_iconst (v := 1) dL_law_1039 (by decide +kernel) ?_
  refine tr_iadd dL_law_1040 ?_
  refine tr_topi 1 (by decide +kernel) ?_
  refine tr_sld hs dL_law_1041 (cz_inl 6 rfl (by decide +kernel)) ?_
  refine tr_aload_nS dL_law_1042 rfl ?_
  refine tr_iload dL_law_1043 rfl ?_
  refine tr_iconst (v := 2) dL_law_1045 (by decide +kernel) ?_
  refine tr_iadd dL_law_1046 ?_
  refine tr_topi 2 (by decide +kernel) ?_
  refine tr_sld hs dL_law_1047 (cz_inl 6 rfl (by decide +kernel)) ?_
  refine tr_aload_nS dL_law_1048 rfl ?_
  refine tr_iload dL_law_1049 rfl ?_
  refine tr_iconst (v := 3) dL_law_1051 (by decide +kernel) ?_
  refine tr_iadd dL_law_1052 ?_
  refine tr_topi 3 (by decide +kernel) ?_
  refine tr_sld hs dL_law_1053 (cz_inl 6 rfl (by decide +kernel)) ?_
  refine tr_ctr (M' := mX10_nights) (as := [_, _, _]) dL_law_1054 lk13_133 inX10_nights seX10_nights myX10_nights (by decide) ⟨by decide, by decide⟩ rfl (hf1.1 0 10 (by decide) kd_0) (Nat.le_of_ble_eq_true rfl) (by decide) (by decide) (fX10_nights _ _ _ hf1) ?_
  rintro _ cn9 K9 N9 I9 R9 L9 ⟨rfl, rfl, rfl, rfl, hk9⟩
  replace hf2 := hf2.kept hk9
  show Tr _ _ _ _ (.int _ :: _) _ _ _ _ _ _ _ _
  refine tr_aload_n dL_law_1057 rfl ?_
  refine tr_aload_nS dL_law_1058 rfl ?_
  refine tr_iload dL_law_1059 rfl ?_
  refine tr_iconst (v := 1) dL_law_1061 (by decide +kernel) ?_
  refine tr_iadd dL_law_1062 ?_
  refine tr_topi 1 (by decide +kernel) ?_
  refine tr_sld hs dL_law_1063 (cz_inl 6 rfl (by decide +kernel)) ?_
  refine tr_aload_nS dL_law_1064 rfl ?_
  refine tr_iload dL_law_1065 rfl ?_
  refine tr_iconst (v := 2) dL_law_1067 (by decide +kernel) ?_
  refine tr_iadd dL_law_1068 ?_
  refine tr_topi 2 (by decide +kernel) ?_
  refine tr_sld hs dL_law_1069 (cz_inl 6 rfl (by decide +kernel)) ?_
  refine tr_aload_nS dL_law_1070 rfl ?_
  refine tr_iload dL_law_1071 rfl ?_
  refine tr_iconst (v := 3) dL_law_1073 (by decide +kernel) ?_
  refine tr_iadd dL_law_1074 ?_
  refine tr_topi 3 (by decide +kernel) ?_
  refine tr_sld hs dL_law_1075 (cz_inl 6 rfl (by decide +kernel)) ?_
  refine tr_ctr (M' := mX12_nights) (as := [_, _, _]) dL_law_1076 lk13_136 inX12_nights seX12_nights myX12_nights (by decide) ⟨by decide, by decide⟩ rfl (hf2.1 183 12 (by decide) kd_183) (Nat.le_of_ble_eq_true rfl) (by decide) (by decide) (fX12_nights _ _ _ hf2) ?_
  rintro _ cn9 K9 N9 I9 R9 L9 rfl
  show Tr _ _ _ _ (.int _ :: .int _ :: _) _ _ _ _ _ _ _ _
  refine tr_icmp_eq 1420 dL_law_1079 (by decide) (fun _ => ?_) (fun h => absurd (by decide +kernel) h)
  exact law_nx hZ hs rfl rfl (by decide) (by decide)
set_option maxHeartbeats 4000000 in
set_option maxRecDepth 100000 in
theorem law_c28 {X : cz_X} {xs : Nat → Int32} {K N : Nat → Nat} {I : cz_I} {R : cz_R} {L : cz_L} (hZ : cz_LZ X) (hs : cz_scr X 6 xs) (hf1 : cz_f1 K N I R) (hf2 : cz_f2 K N I R) : Tr X mL_law 1084 law_ls [] 203 K N I R L 203 15311 := by
  refine tr_aload_n dL_law_1084 rfl ?_
  refine tr_aload_nS dL_law_1085 rfl ?_
  refine tr_iload dL_law_1086 rfl ?_
  refine tr_iconst (v := 1) dL_law_1088 (by decide +kernel) ?_
  refine tr_iadd dL_law_1089 ?_
  refine tr_topi 1 (by decide +kernel) ?_
  refine tr_sld hs dL_law_1090 (cz_inl 6 rfl (by decide +kernel)) ?_
  refine tr_aload_nS dL_law_1091 rfl ?_
  refine tr_iload dL_law_1092 rfl ?_
  refine tr_iconst (v := 2) dL_law_1094 (by decide +kernel) ?_
  refine tr_iadd dL_law_1095 ?_
  refine tr_topi 2 (by decide +kernel) ?_
  refine tr_sld hs dL_law_1096 (cz_inl 6 rfl (by decide +kernel)) ?_
  refine tr_if_eq 1104 dL_law_1097 (by decide) (fun q5007 => ?_) (fun q5007 => ?_)
  · skip
    refine tr_iconst (v := 0) dL_law_1104 (by decide +kernel) ?_
    refine tr_ctr (M' := mX10_call) (as := [_, _]) dL_law_1105 lk13_137 inX10_call seX10_call myX10_call (by decide) ⟨by decide, by decide⟩ rfl (hf1.1 0 10 (by decide) kd_0) (Nat.le_of_ble_eq_true rfl) (by decide) (by decide) (fX10_call _ _ hf1) ?_
    rintro _ cn9 K9 N9 I9 R9 L9 ⟨rfl, rfl, rfl, rfl, hk9⟩
    replace hf2 := hf2.kept hk9
    show Tr _ _ _ _ (.int _ :: _) _ _ _ _ _ _ _ _
    refine tr_aload_n dL_law_1108 rfl ?_
    refine tr_aload_nS dL_law_1109 rfl ?_
    refine tr_iload dL_law_1110 rfl ?_
    refine tr_iconst (v := 1) dL_law_1112 (by decide +kernel) ?_
    refine tr_iadd dL_law_1113 ?_
    refine tr_topi 1 (by decide +kernel) ?_
    refine tr_sld hs dL_law_1114 (cz_inl 6 rfl (by decide +kernel)) ?_
    refine tr_aload_nS dL_law_1115 rfl ?_
    refine tr_iload dL_law_1116 rfl ?_
    refine tr_iconst (v := 2) dL_law_1118 (by decide +kernel) ?_
    refine tr_iadd dL_law_1119 ?_
    refine tr_topi 2 (by decide +kernel) ?_
    refine tr_sld hs dL_law_1120 (cz_inl 6 rfl (by decide +kernel)) ?_
    refine tr_if_eq 1128 dL_law_1121 (by decide) (fun q5008 => ?_) (fun q5008 => ?_)
    · skip
      refine tr_iconst (v := 0) dL_law_1128 (by decide +kernel) ?_
      refine tr_ctr (M' := mX12_call) (as := [_, _]) dL_law_1129 lk13_141 inX12_call seX12_call myX12_call (by decide) ⟨by decide, by decide⟩ rfl (hf2.1 183 12 (by decide) kd_183) (Nat.le_of_ble_eq_true rfl) (by decide) (by decide) (fX12_call _ _ hf2) ?_
      rintro _ cn9 K9 N9 I9 R9 L9 rfl
      show Tr _ _ _ _ (.int _ :: .int _ :: _) _ _ _ _ _ _ _ _
      refine tr_icmp_eq 1420 dL_law_1132 (by decide) (fun _ => ?_) (fun h => absurd (by decide +kernel) h)
      exact law_nx hZ hs rfl rfl (by decide) (by decide)
    · skip
      refine tr_iconst (v := 1) dL_law_1124 (by decide +kernel) ?_
      refine tr_goto 1129 dL_law_1125 (by decide) ?_
      refine tr_ctr (M' := mX12_call) (as := [_, _]) dL_law_1129 lk13_141 inX12_call seX12_call myX12_call (by decide) ⟨by decide, by decide⟩ rfl (hf2.1 183 12 (by decide) kd_183) (Nat.le_of_ble_eq_true rfl) (by decide) (by decide) (fX12_call _ _ hf2) ?_
      rintro _ cn9 K9 N9 I9 R9 L9 rfl
      show Tr _ _ _ _ (.int _ :: .int _ :: _) _ _ _ _ _ _ _ _
      refine tr_icmp_eq 1420 dL_law_1132 (by decide) (fun _ => ?_) (fun h => absurd (by decide +kernel) h)
      exact law_nx hZ hs rfl rfl (by decide) (by decide)
  · skip
    refine tr_iconst (v := 1) dL_law_1100 (by decide +kernel) ?_
    refine tr_goto 1105 dL_law_1101 (by decide) ?_
    refine tr_ctr (M' := mX10_call) (as := [_, _]) dL_law_1105 lk13_137 inX10_call seX10_call myX10_call (by decide) ⟨by decide, by decide⟩ rfl (hf1.1 0 10 (by decide) kd_0) (Nat.le_of_ble_eq_true rfl) (by decide) (by decide) (fX10_call _ _ hf1) ?_
    rintro _ cn9 K9 N9 I9 R9 L9 ⟨rfl, rfl, rfl, rfl, hk9⟩
    replace hf2 := hf2.kept hk9
    show Tr _ _ _ _ (.int _ :: _) _ _ _ _ _ _ _ _
    refine tr_aload_n dL_law_1108 rfl ?_
    refine tr_aload_nS dL_law_1109 rfl ?_
    refine tr_iload dL_law_1110 rfl ?_
    refine tr_iconst (v := 1) dL_law_1112 (by decide +kernel) ?_
    refine tr_iadd dL_law_1113 ?_
    refine tr_topi 1 (by decide +kernel) ?_
    refine tr_sld hs dL_law_1114 (cz_inl 6 rfl (by decide +kernel)) ?_
    refine tr_aload_nS dL_law_1115 rfl ?_
    refine tr_iload dL_law_1116 rfl ?_
    refine tr_iconst (v := 2) dL_law_1118 (by decide +kernel) ?_
    refine tr_iadd dL_law_1119 ?_
    refine tr_topi 2 (by decide +kernel) ?_
    refine tr_sld hs dL_law_1120 (cz_inl 6 rfl (by decide +kernel)) ?_
    refine tr_if_eq 1128 dL_law_1121 (by decide) (fun q5009 => ?_) (fun q5009 => ?_)
    · skip
      refine tr_iconst (v := 0) dL_law_1128 (by decide +kernel) ?_
      refine tr_ctr (M' := mX12_call) (as := [_, _]) dL_law_1129 lk13_141 inX12_call seX12_call myX12_call (by decide) ⟨by decide, by decide⟩ rfl (hf2.1 183 12 (by decide) kd_183) (Nat.le_of_ble_eq_true rfl) (by decide) (by decide) (fX12_call _ _ hf2) ?_
      rintro _ cn9 K9 N9 I9 R9 L9 rfl
      show Tr _ _ _ _ (.int _ :: .int _ :: _) _ _ _ _ _ _ _ _
      refine tr_icmp_eq 1420 dL_law_1132 (by decide) (fun _ => ?_) (fun h => absurd (by decide +kernel) h)
      exact law_nx hZ hs rfl rfl (by decide) (by decide)
    · skip
      refine tr_iconst (v := 1) dL_law_1124 (by decide +kernel) ?_
      refine tr_goto 1129 dL_law_1125 (by decide) ?_
      refine tr_ctr (M' := mX12_call) (as := [_, _]) dL_law_1129 lk13_141 inX12_call seX12_call myX12_call (by decide) ⟨by decide, by decide⟩ rfl (hf2.1 183 12 (by decide) kd_183) (Nat.le_of_ble_eq_true rfl) (by decide) (by decide) (fX12_call _ _ hf2) ?_
      rintro _ cn9 K9 N9 I9 R9 L9 rfl
      show Tr _ _ _ _ (.int _ :: .int _ :: _) _ _ _ _ _ _ _ _
      refine tr_icmp_eq 1420 dL_law_1132 (by decide) (fun _ => ?_) (fun h => absurd (by decide +kernel) h)
      exact law_nx hZ hs rfl rfl (by decide) (by decide)
set_option maxHeartbeats 4000000 in
set_option maxRecDepth 100000 in
theorem law_c29 {X : cz_X} {xs : Nat → Int32} {K N : Nat → Nat} {I : cz_I} {R : cz_R} {L : cz_L} (hZ : cz_LZ X) (hs : cz_scr X 6 xs) (hf1 : cz_f1 K N I R) (hf2 : cz_f2 K N I R) : Tr X mL_law 1137 law_ls [] 203 K N I R L 203 15311 := by
  refine tr_aload_n dL_law_1137 rfl ?_
  refine tr_ctr (M' := mX10_calls) (as := []) dL_law_1138 lk13_142 inX10_calls seX10_calls myX10_calls (by decide) ⟨by decide, by decide⟩ rfl (hf1.1 0 10 (by decide) kd_0) (Nat.le_of_ble_eq_true rfl) (by decide) (by decide) (fX10_calls  hf1) ?_
  rintro _ cn9 K9 N9 I9 R9 L9 ⟨rfl, rfl, rfl, rfl, hk9⟩
  replace hf2 := hf2.kept hk9
  show Tr _ _ _ _ (.int _ :: _) _ _ _ _ _ _ _ _
  refine tr_aload_n dL_law_1141 rfl ?_
  refine tr_ctr (M' := mX12_calls) (as := []) dL_law_1142 lk13_145 inX12_calls seX12_calls myX12_calls (by decide) ⟨by decide, by decide⟩ rfl (hf2.1 183 12 (by decide) kd_183) (Nat.le_of_ble_eq_true rfl) (by decide) (by decide) (fX12_calls  hf2) ?_
  rintro _ cn9 K9 N9 I9 R9 L9 rfl
  show Tr _ _ _ _ (.int _ :: .int _ :: _) _ _ _ _ _ _ _ _
  refine tr_icmp_eq 1420 dL_law_1145 (by decide) (fun _ => ?_) (fun h => absurd (by decide +kernel) h)
  exact law_nx hZ hs rfl rfl (by decide) (by decide)
set_option maxHeartbeats 4000000 in
set_option maxRecDepth 100000 in
theorem law_c30 {X : cz_X} {xs : Nat → Int32} {K N : Nat → Nat} {I : cz_I} {R : cz_R} {L : cz_L} (hZ : cz_LZ X) (hs : cz_scr X 6 xs) (hf1 : cz_f1 K N I R) (hf2 : cz_f2 K N I R) : Tr X mL_law 1150 law_ls [] 203 K N I R L 203 15311 := by
  refine tr_aload_n dL_law_1150 rfl ?_
  refine tr_aload_nS dL_law_1151 rfl ?_
  refine tr_iload dL_law_1152 rfl ?_
  refine tr_iconst (v := 1) dL_law_1154 (by decide +kernel) ?_
  refine tr_iadd dL_law_1155 ?_
  refine tr_topi 1 (by decide +kernel) ?_
  refine tr_sld hs dL_law_1156 (cz_inl 6 rfl (by decide +kernel)) ?_
  refine tr_aload_nS dL_law_1157 rfl ?_
  refine tr_iload dL_law_1158 rfl ?_
  refine tr_iconst (v := 2) dL_law_1160 (by decide +kernel) ?_
  refine tr_iadd dL_law_1161 ?_
  refine tr_topi 2 (by decide +kernel) ?_
  refine tr_sld hs dL_law_1162 (cz_inl 6 rfl (by decide +kernel)) ?_
  refine tr_ctr (M' := mX10_cloud) (as := [_, _]) dL_law_1163 lk13_146 inX10_cloud seX10_cloud myX10_cloud (by decide) ⟨by decide, by decide⟩ rfl (hf1.1 0 10 (by decide) kd_0) (Nat.le_of_ble_eq_true rfl) (by decide) (by decide) (fX10_cloud _ _ hf1) ?_
  rintro _ cn9 K9 N9 I9 R9 L9 ⟨rfl, rfl, rfl, rfl, hk9⟩
  replace hf2 := hf2.kept hk9
  show Tr _ _ _ _ (.int _ :: _) _ _ _ _ _ _ _ _
  refine tr_aload_n dL_law_1166 rfl ?_
  refine tr_aload_nS dL_law_1167 rfl ?_
  refine tr_iload dL_law_1168 rfl ?_
  refine tr_iconst (v := 1) dL_law_1170 (by decide +kernel) ?_
  refine tr_iadd dL_law_1171 ?_
  refine tr_topi 1 (by decide +kernel) ?_
  refine tr_sld hs dL_law_1172 (cz_inl 6 rfl (by decide +kernel)) ?_
  refine tr_aload_nS dL_law_1173 rfl ?_
  refine tr_iload dL_law_1174 rfl ?_
  refine tr_iconst (v := 2) dL_law_1176 (by decide +kernel) ?_
  refine tr_iadd dL_law_1177 ?_
  refine tr_topi 2 (by decide +kernel) ?_
  refine tr_sld hs dL_law_1178 (cz_inl 6 rfl (by decide +kernel)) ?_
  refine tr_ctr (M' := mX12_cloud) (as := [_, _]) dL_law_1179 lk13_150 inX12_cloud seX12_cloud myX12_cloud (by decide) ⟨by decide, by decide⟩ rfl (hf2.1 183 12 (by decide) kd_183) (Nat.le_of_ble_eq_true rfl) (by decide) (by decide) (fX12_cloud _ _ hf2) ?_
  rintro _ cn9 K9 N9 I9 R9 L9 rfl
  show Tr _ _ _ _ (.int _ :: .int _ :: _) _ _ _ _ _ _ _ _
  refine tr_icmp_eq 1420 dL_law_1182 (by decide) (fun _ => ?_) (fun h => absurd (by decide +kernel) h)
  exact law_nx hZ hs rfl rfl (by decide) (by decide)
set_option maxHeartbeats 4000000 in
set_option maxRecDepth 100000 in
theorem law_c31 {X : cz_X} {xs : Nat → Int32} {K N : Nat → Nat} {I : cz_I} {R : cz_R} {L : cz_L} (hZ : cz_LZ X) (hs : cz_scr X 6 xs) (hf1 : cz_f1 K N I R) (hf2 : cz_f2 K N I R) : Tr X mL_law 1187 law_ls [] 203 K N I R L 203 15311 := by
  refine tr_aload_n dL_law_1187 rfl ?_
  refine tr_ctr (M' := mX10_draw) (as := []) dL_law_1188 lk13_151 inX10_draw seX10_draw myX10_draw (by decide) ⟨by decide, by decide⟩ rfl (hf1.1 0 10 (by decide) kd_0) (Nat.le_of_ble_eq_true rfl) (by decide) (by decide) (fX10_draw  hf1) ?_
  rintro _ cn9 K9 N9 I9 R9 L9 ⟨rfl, rfl, rfl, rfl, hk9⟩
  replace hf2 := hf2.kept hk9
  show Tr _ _ _ _ (.int _ :: _) _ _ _ _ _ _ _ _
  refine tr_aload_n dL_law_1191 rfl ?_
  refine tr_ctr (M' := mX12_draw) (as := []) dL_law_1192 lk13_154 inX12_draw seX12_draw myX12_draw (by decide) ⟨by decide, by decide⟩ rfl (hf2.1 183 12 (by decide) kd_183) (Nat.le_of_ble_eq_true rfl) (by decide) (by decide) (fX12_draw  hf2) ?_
  rintro _ cn9 K9 N9 I9 R9 L9 rfl
  show Tr _ _ _ _ (.int _ :: .int _ :: _) _ _ _ _ _ _ _ _
  refine tr_icmp_eq 1420 dL_law_1195 (by decide) (fun _ => ?_) (fun h => absurd (by decide +kernel) h)
  exact law_nx hZ hs rfl rfl (by decide) (by decide)
set_option maxHeartbeats 4000000 in
set_option maxRecDepth 100000 in
theorem law_c32 {X : cz_X} {xs : Nat → Int32} {K N : Nat → Nat} {I : cz_I} {R : cz_R} {L : cz_L} (hZ : cz_LZ X) (hs : cz_scr X 6 xs) (hf1 : cz_f1 K N I R) (hf2 : cz_f2 K N I R) : Tr X mL_law 1200 law_ls [] 203 K N I R L 203 15311 := by
  refine tr_aload_n dL_law_1200 rfl ?_
  refine tr_ctr (M' := mX10_lift) (as := []) dL_law_1201 lk13_155 inX10_lift seX10_lift myX10_lift (by decide) ⟨by decide, by decide⟩ rfl (hf1.1 0 10 (by decide) kd_0) (Nat.le_of_ble_eq_true rfl) (by decide) (by decide) (fX10_lift  hf1) ?_
  rintro _ cn9 K9 N9 I9 R9 L9 ⟨rfl, rfl, rfl, rfl, hk9⟩
  replace hf2 := hf2.kept hk9
  show Tr _ _ _ _ (.int _ :: _) _ _ _ _ _ _ _ _
  refine tr_aload_n dL_law_1204 rfl ?_
  refine tr_ctr (M' := mX12_lift) (as := []) dL_law_1205 lk13_159 inX12_lift seX12_lift myX12_lift (by decide) ⟨by decide, by decide⟩ rfl (hf2.1 183 12 (by decide) kd_183) (Nat.le_of_ble_eq_true rfl) (by decide) (by decide) (fX12_lift  hf2) ?_
  rintro _ cn9 K9 N9 I9 R9 L9 rfl
  show Tr _ _ _ _ (.int _ :: .int _ :: _) _ _ _ _ _ _ _ _
  refine tr_icmp_eq 1420 dL_law_1208 (by decide) (fun _ => ?_) (fun h => absurd (by decide +kernel) h)
  exact law_nx hZ hs rfl rfl (by decide) (by decide)
set_option maxHeartbeats 4000000 in
set_option maxRecDepth 100000 in
theorem law_c33 {X : cz_X} {xs : Nat → Int32} {K N : Nat → Nat} {I : cz_I} {R : cz_R} {L : cz_L} (hZ : cz_LZ X) (hs : cz_scr X 6 xs) (hf1 : cz_f1 K N I R) (hf2 : cz_f2 K N I R) : Tr X mL_law 1213 law_ls [] 203 K N I R L 203 15311 := by
  refine tr_aload_n dL_law_1213 rfl ?_
  refine tr_aload_nS dL_law_1214 rfl ?_
  refine tr_iload dL_law_1215 rfl ?_
  refine tr_iconst (v := 1) dL_law_1217 (by decide +kernel) ?_
  refine tr_iadd dL_law_1218 ?_
  refine tr_topi 1 (by decide +kernel) ?_
  refine tr_sld hs dL_law_1219 (cz_inl 6 rfl (by decide +kernel)) ?_
  refine tr_ctr (M' := mX10_seed) (as := [_]) dL_law_1220 lk13_160 inX10_seed seX10_seed myX10_seed (by decide) ⟨by decide, by decide⟩ rfl (hf1.1 0 10 (by decide) kd_0) (Nat.le_of_ble_eq_true rfl) (by decide) (by decide) (fX10_seed _ hf1) ?_
  rintro _ cn9 K9 N9 I9 R9 L9 ⟨rfl, rfl, rfl, rfl, hk9⟩
  replace hf2 := hf2.kept hk9
  show Tr _ _ _ _ (.int _ :: _) _ _ _ _ _ _ _ _
  refine tr_aload_n dL_law_1223 rfl ?_
  refine tr_aload_nS dL_law_1224 rfl ?_
  refine tr_iload dL_law_1225 rfl ?_
  refine tr_iconst (v := 1) dL_law_1227 (by decide +kernel) ?_
  refine tr_iadd dL_law_1228 ?_
  refine tr_topi 1 (by decide +kernel) ?_
  refine tr_sld hs dL_law_1229 (cz_inl 6 rfl (by decide +kernel)) ?_
  refine tr_ctr (M' := mX12_seed) (as := [_]) dL_law_1230 lk13_164 inX12_seed seX12_seed myX12_seed (by decide) ⟨by decide, by decide⟩ rfl (hf2.1 183 12 (by decide) kd_183) (Nat.le_of_ble_eq_true rfl) (by decide) (by decide) (fX12_seed _ hf2) ?_
  rintro _ cn9 K9 N9 I9 R9 L9 rfl
  show Tr _ _ _ _ (.int _ :: .int _ :: _) _ _ _ _ _ _ _ _
  refine tr_icmp_eq 1420 dL_law_1233 (by decide) (fun _ => ?_) (fun h => absurd (by decide +kernel) h)
  exact law_nx hZ hs rfl rfl (by decide) (by decide)
set_option maxHeartbeats 4000000 in
set_option maxRecDepth 100000 in
theorem law_c34 {X : cz_X} {xs : Nat → Int32} {K N : Nat → Nat} {I : cz_I} {R : cz_R} {L : cz_L} (hZ : cz_LZ X) (hs : cz_scr X 6 xs) (hf1 : cz_f1 K N I R) (hf2 : cz_f2 K N I R) : Tr X mL_law 1238 law_ls [] 203 K N I R L 203 15311 := by
  refine tr_aload_n dL_law_1238 rfl ?_
  refine tr_ctr (M' := mX10_undo) (as := []) dL_law_1239 lk13_165 inX10_undo seX10_undo myX10_undo (by decide) ⟨by decide, by decide⟩ rfl (hf1.1 0 10 (by decide) kd_0) (Nat.le_of_ble_eq_true rfl) (by decide) (by decide) (fX10_undo  hf1) ?_
  rintro _ cn9 K9 N9 I9 R9 L9 ⟨rfl, rfl, rfl, rfl, hk9⟩
  replace hf2 := hf2.kept hk9
  show Tr _ _ _ _ (.int _ :: _) _ _ _ _ _ _ _ _
  refine tr_aload_n dL_law_1242 rfl ?_
  refine tr_ctr (M' := mX12_undo) (as := []) dL_law_1243 lk13_168 inX12_undo seX12_undo myX12_undo (by decide) ⟨by decide, by decide⟩ rfl (hf2.1 183 12 (by decide) kd_183) (Nat.le_of_ble_eq_true rfl) (by decide) (by decide) (fX12_undo  hf2) ?_
  rintro _ cn9 K9 N9 I9 R9 L9 rfl
  show Tr _ _ _ _ (.int _ :: .int _ :: _) _ _ _ _ _ _ _ _
  refine tr_icmp_eq 1420 dL_law_1246 (by decide) (fun _ => ?_) (fun h => absurd (by decide +kernel) h)
  exact law_nx hZ hs rfl rfl (by decide) (by decide)
set_option maxHeartbeats 4000000 in
set_option maxRecDepth 100000 in
theorem law_c35 {X : cz_X} {xs : Nat → Int32} {K N : Nat → Nat} {I : cz_I} {R : cz_R} {L : cz_L} (hZ : cz_LZ X) (hs : cz_scr X 6 xs) (hf1 : cz_f1 K N I R) (hf2 : cz_f2 K N I R) : Tr X mL_law 1251 law_ls [] 203 K N I R L 203 15311 := by
  refine tr_aload_n dL_law_1251 rfl ?_
  refine tr_ctr (M' := mX10_mark) (as := []) dL_law_1252 lk13_169 inX10_mark seX10_mark myX10_mark (by decide) ⟨by decide, by decide⟩ rfl (hf1.1 0 10 (by decide) kd_0) (Nat.le_of_ble_eq_true rfl) (by decide) (by decide) (fX10_mark  hf1) ?_
  rintro _ cn9 K9 N9 I9 R9 L9 ⟨rfl, rfl, rfl, rfl, hk9⟩
  replace hf2 := hf2.kept hk9
  show Tr _ _ _ _ (.int _ :: _) _ _ _ _ _ _ _ _
  refine tr_aload_n dL_law_1255 rfl ?_
  refine tr_ctr (M' := mX12_mark) (as := []) dL_law_1256 lk13_172 inX12_mark seX12_mark myX12_mark (by decide) ⟨by decide, by decide⟩ rfl (hf2.1 183 12 (by decide) kd_183) (Nat.le_of_ble_eq_true rfl) (by decide) (by decide) (fX12_mark  hf2) ?_
  rintro _ cn9 K9 N9 I9 R9 L9 rfl
  show Tr _ _ _ _ (.int _ :: .int _ :: _) _ _ _ _ _ _ _ _
  refine tr_icmp_eq 1420 dL_law_1259 (by decide) (fun _ => ?_) (fun h => absurd (by decide +kernel) h)
  exact law_nx hZ hs rfl rfl (by decide) (by decide)
set_option maxHeartbeats 4000000 in
set_option maxRecDepth 100000 in
theorem law_c36 {X : cz_X} {xs : Nat → Int32} {K N : Nat → Nat} {I : cz_I} {R : cz_R} {L : cz_L} (hZ : cz_LZ X) (hs : cz_scr X 6 xs) (hf1 : cz_f1 K N I R) (hf2 : cz_f2 K N I R) : Tr X mL_law 1264 law_ls [] 203 K N I R L 203 15311 := by
  refine tr_aload_n dL_law_1264 rfl ?_
  refine tr_aload_nS dL_law_1265 rfl ?_
  refine tr_iload dL_law_1266 rfl ?_
  refine tr_iconst (v := 1) dL_law_1268 (by decide +kernel) ?_
  refine tr_iadd dL_law_1269 ?_
  refine tr_topi 1 (by decide +kernel) ?_
  refine tr_sld hs dL_law_1270 (cz_inl 6 rfl (by decide +kernel)) ?_
  refine tr_ctr (M' := mX10_back) (as := [_]) dL_law_1271 lk13_173 inX10_back seX10_back myX10_back (by decide) ⟨by decide, by decide⟩ rfl (hf1.1 0 10 (by decide) kd_0) (Nat.le_of_ble_eq_true rfl) (by decide) (by decide) (fX10_back _ hf1) ?_
  rintro _ cn9 K9 N9 I9 R9 L9 ⟨rfl, rfl, rfl, rfl, hk9⟩
  replace hf2 := hf2.kept hk9
  show Tr _ _ _ _ (.int _ :: _) _ _ _ _ _ _ _ _
  refine tr_aload_n dL_law_1274 rfl ?_
  refine tr_aload_nS dL_law_1275 rfl ?_
  refine tr_iload dL_law_1276 rfl ?_
  refine tr_iconst (v := 1) dL_law_1278 (by decide +kernel) ?_
  refine tr_iadd dL_law_1279 ?_
  refine tr_topi 1 (by decide +kernel) ?_
  refine tr_sld hs dL_law_1280 (cz_inl 6 rfl (by decide +kernel)) ?_
  refine tr_ctr (M' := mX12_back) (as := [_]) dL_law_1281 lk13_176 inX12_back seX12_back myX12_back (by decide) ⟨by decide, by decide⟩ rfl (hf2.1 183 12 (by decide) kd_183) (Nat.le_of_ble_eq_true rfl) (by decide) (by decide) (fX12_back _ hf2) ?_
  rintro _ cn9 K9 N9 I9 R9 L9 rfl
  show Tr _ _ _ _ (.int _ :: .int _ :: _) _ _ _ _ _ _ _ _
  refine tr_icmp_eq 1420 dL_law_1284 (by decide) (fun _ => ?_) (fun h => absurd (by decide +kernel) h)
  exact law_nx hZ hs rfl rfl (by decide) (by decide)
set_option maxHeartbeats 4000000 in
set_option maxRecDepth 100000 in
theorem law_c37 {X : cz_X} {xs : Nat → Int32} {K N : Nat → Nat} {I : cz_I} {R : cz_R} {L : cz_L} (hZ : cz_LZ X) (hs : cz_scr X 6 xs) (hf1 : cz_f1 K N I R) (hf2 : cz_f2 K N I R) : Tr X mL_law 1289 law_ls [] 203 K N I R L 203 15311 := by
  refine tr_aload_n dL_law_1289 rfl ?_
  refine tr_aload_nS dL_law_1290 rfl ?_
  refine tr_iload dL_law_1291 rfl ?_
  refine tr_iconst (v := 1) dL_law_1293 (by decide +kernel) ?_
  refine tr_iadd dL_law_1294 ?_
  refine tr_topi 1 (by decide +kernel) ?_
  refine tr_sld hs dL_law_1295 (cz_inl 6 rfl (by decide +kernel)) ?_
  refine tr_aload_nS dL_law_1296 rfl ?_
  refine tr_iload dL_law_1297 rfl ?_
  refine tr_iconst (v := 2) dL_law_1299 (by decide +kernel) ?_
  refine tr_iadd dL_law_1300 ?_
  refine tr_topi 2 (by decide +kernel) ?_
  refine tr_sld hs dL_law_1301 (cz_inl 6 rfl (by decide +kernel)) ?_
  refine tr_ctr (M' := mX10_event) (as := [_, _]) dL_law_1302 lk13_177 inX10_event seX10_event myX10_event (by decide) ⟨by decide, by decide⟩ rfl (hf1.1 0 10 (by decide) kd_0) (Nat.le_of_ble_eq_true rfl) (by decide) (by decide) (fX10_event _ _ hf1) ?_
  rintro _ cn9 K9 N9 I9 R9 L9 ⟨rfl, rfl, rfl, rfl, hk9⟩
  replace hf2 := hf2.kept hk9
  show Tr _ _ _ _ (.int _ :: _) _ _ _ _ _ _ _ _
  refine tr_aload_n dL_law_1305 rfl ?_
  refine tr_aload_nS dL_law_1306 rfl ?_
  refine tr_iload dL_law_1307 rfl ?_
  refine tr_iconst (v := 1) dL_law_1309 (by decide +kernel) ?_
  refine tr_iadd dL_law_1310 ?_
  refine tr_topi 1 (by decide +kernel) ?_
  refine tr_sld hs dL_law_1311 (cz_inl 6 rfl (by decide +kernel)) ?_
  refine tr_aload_nS dL_law_1312 rfl ?_
  refine tr_iload dL_law_1313 rfl ?_
  refine tr_iconst (v := 2) dL_law_1315 (by decide +kernel) ?_
  refine tr_iadd dL_law_1316 ?_
  refine tr_topi 2 (by decide +kernel) ?_
  refine tr_sld hs dL_law_1317 (cz_inl 6 rfl (by decide +kernel)) ?_
  refine tr_ctr (M' := mX12_event) (as := [_, _]) dL_law_1318 lk13_180 inX12_event seX12_event myX12_event (by decide) ⟨by decide, by decide⟩ rfl (hf2.1 183 12 (by decide) kd_183) (Nat.le_of_ble_eq_true rfl) (by decide) (by decide) (fX12_event _ _ hf2) ?_
  rintro _ cn9 K9 N9 I9 R9 L9 rfl
  show Tr _ _ _ _ (.int _ :: .int _ :: _) _ _ _ _ _ _ _ _
  refine tr_icmp_eq 1420 dL_law_1321 (by decide) (fun _ => ?_) (fun h => absurd (by decide +kernel) h)
  exact law_nx hZ hs rfl rfl (by decide) (by decide)
set_option maxHeartbeats 4000000 in
set_option maxRecDepth 100000 in
theorem law_c39 {X : cz_X} {xs : Nat → Int32} {K N : Nat → Nat} {I : cz_I} {R : cz_R} {L : cz_L} (hZ : cz_LZ X) (hs : cz_scr X 6 xs) (hf1 : cz_f1 K N I R) (hf2 : cz_f2 K N I R) : Tr X mL_law 1382 law_ls [] 203 K N I R L 203 15311 := by
  refine tr_aload_n dL_law_1382 rfl ?_
  refine tr_aload_nS dL_law_1383 rfl ?_
  refine tr_iload dL_law_1384 rfl ?_
  refine tr_iconst (v := 1) dL_law_1386 (by decide +kernel) ?_
  refine tr_iadd dL_law_1387 ?_
  refine tr_topi 1 (by decide +kernel) ?_
  refine tr_sld hs dL_law_1388 (cz_inl 6 rfl (by decide +kernel)) ?_
  refine tr_ctr (M' := mX10_size) (as := [_]) dL_law_1389 lk13_190 inX10_size seX10_size myX10_size (by decide) ⟨by decide, by decide⟩ rfl (hf1.1 0 10 (by decide) kd_0) (Nat.le_of_ble_eq_true rfl) (by decide) (by decide) (fX10_size _ hf1) ?_
  rintro _ cn9 K9 N9 I9 R9 L9 ⟨rfl, rfl, rfl, rfl, hk9⟩
  replace hf2 := hf2.kept hk9
  show Tr _ _ _ _ (.int _ :: _) _ _ _ _ _ _ _ _
  refine tr_aload_n dL_law_1392 rfl ?_
  refine tr_aload_nS dL_law_1393 rfl ?_
  refine tr_iload dL_law_1394 rfl ?_
  refine tr_iconst (v := 1) dL_law_1396 (by decide +kernel) ?_
  refine tr_iadd dL_law_1397 ?_
  refine tr_topi 1 (by decide +kernel) ?_
  refine tr_sld hs dL_law_1398 (cz_inl 6 rfl (by decide +kernel)) ?_
  refine tr_ctr (M' := mX12_size) (as := [_]) dL_law_1399 lk13_193 inX12_size seX12_size myX12_size (by decide) ⟨by decide, by decide⟩ rfl (hf2.1 183 12 (by decide) kd_183) (Nat.le_of_ble_eq_true rfl) (by decide) (by decide) (fX12_size _ hf2) ?_
  rintro _ cn9 K9 N9 I9 R9 L9 rfl
  show Tr _ _ _ _ (.int _ :: .int _ :: _) _ _ _ _ _ _ _ _
  refine tr_icmp_eq 1420 dL_law_1402 (by decide) (fun _ => ?_) (fun h => absurd rfl h)
  exact law_nx hZ hs rfl rfl (by decide) (by decide)
set_option maxHeartbeats 4000000 in
set_option maxRecDepth 100000 in
theorem law_c40 {X : cz_X} {xs : Nat → Int32} {K N : Nat → Nat} {I : cz_I} {R : cz_R} {L : cz_L} (hZ : cz_LZ X) (hs : cz_scr X 6 xs) (hf1 : cz_f1 K N I R) (hf2 : cz_f2 K N I R) : Tr X mL_law 1407 law_ls [] 203 K N I R L 203 15311 := by
  refine tr_aload_n dL_law_1407 rfl ?_
  refine tr_ctr (M' := mX10_trouble) (as := []) dL_law_1408 lk13_194 inX10_trouble seX10_trouble myX10_trouble (by decide) ⟨by decide, by decide⟩ rfl (hf1.1 0 10 (by decide) kd_0) (Nat.le_of_ble_eq_true rfl) (by decide) (by decide) (fX10_trouble  hf1) ?_
  rintro _ cn9 K9 N9 I9 R9 L9 ⟨rfl, rfl, rfl, rfl, hk9⟩
  replace hf2 := hf2.kept hk9
  show Tr _ _ _ _ (.int _ :: _) _ _ _ _ _ _ _ _
  refine tr_aload_n dL_law_1411 rfl ?_
  refine tr_ctr (M' := mX12_trouble) (as := []) dL_law_1412 lk13_197 inX12_trouble seX12_trouble myX12_trouble (by decide) ⟨by decide, by decide⟩ rfl (hf2.1 183 12 (by decide) kd_183) (Nat.le_of_ble_eq_true rfl) (by decide) (by decide) (fX12_trouble  hf2) ?_
  rintro _ cn9 K9 N9 I9 R9 L9 rfl
  show Tr _ _ _ _ (.int _ :: .int _ :: _) _ _ _ _ _ _ _ _
  refine tr_icmp_eq 1420 dL_law_1415 (by decide) (fun _ => ?_) (fun h => absurd (by decide +kernel) h)
  exact law_nx hZ hs rfl rfl (by decide) (by decide)

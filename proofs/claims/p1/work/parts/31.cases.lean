theorem dL_law_204 : decode cL_law 204 = .ok (.aload_n 1, 1) := by decide +kernel
theorem dL_law_205 : decode cL_law 205 = .ok (.aload_n 0, 1) := by decide +kernel
theorem dL_law_206 : decode cL_law 206 = .ok (.iload 5, 2) := by decide +kernel
theorem dL_law_208 : decode cL_law 208 = .ok (.iconst 1, 1) := by decide +kernel
theorem dL_law_209 : decode cL_law 209 = .ok (.iadd, 1) := by decide +kernel
theorem dL_law_210 : decode cL_law 210 = .ok (.iaload, 1) := by decide +kernel
theorem dL_law_211 : decode cL_law 211 = .ok (.aload_n 0, 1) := by decide +kernel
theorem dL_law_212 : decode cL_law 212 = .ok (.iload 5, 2) := by decide +kernel
theorem dL_law_214 : decode cL_law 214 = .ok (.iconst 2, 1) := by decide +kernel
theorem dL_law_215 : decode cL_law 215 = .ok (.iadd, 1) := by decide +kernel
theorem dL_law_216 : decode cL_law 216 = .ok (.iaload, 1) := by decide +kernel
theorem dL_law_217 : decode cL_law 217 = .ok (.aload_n 3, 1) := by decide +kernel
theorem dL_law_218 : decode cL_law 218 = .ok (.invokestatic 94, 3) := by decide +kernel
theorem dL_law_221 : decode cL_law 221 = .ok (.istore 6, 2) := by decide +kernel
theorem dL_law_223 : decode cL_law 223 = .ok (.aload_n 2, 1) := by decide +kernel
theorem dL_law_224 : decode cL_law 224 = .ok (.aload_n 0, 1) := by decide +kernel
theorem dL_law_225 : decode cL_law 225 = .ok (.iload 5, 2) := by decide +kernel
theorem dL_law_227 : decode cL_law 227 = .ok (.iconst 1, 1) := by decide +kernel
theorem dL_law_228 : decode cL_law 228 = .ok (.iadd, 1) := by decide +kernel
theorem dL_law_229 : decode cL_law 229 = .ok (.iaload, 1) := by decide +kernel
theorem dL_law_230 : decode cL_law 230 = .ok (.aload_n 0, 1) := by decide +kernel
theorem dL_law_231 : decode cL_law 231 = .ok (.iload 5, 2) := by decide +kernel
theorem dL_law_233 : decode cL_law 233 = .ok (.iconst 2, 1) := by decide +kernel
theorem dL_law_234 : decode cL_law 234 = .ok (.iadd, 1) := by decide +kernel
theorem dL_law_235 : decode cL_law 235 = .ok (.iaload, 1) := by decide +kernel
theorem dL_law_236 : decode cL_law 236 = .ok (.invokevirtual 99, 3) := by decide +kernel
theorem dL_law_239 : decode cL_law 239 = .ok (.istore 7, 2) := by decide +kernel
theorem dL_law_241 : decode cL_law 241 = .ok (.aload_n 2, 1) := by decide +kernel
theorem dL_law_242 : decode cL_law 242 = .ok (.invokevirtual 100, 3) := by decide +kernel
theorem dL_law_245 : decode cL_law 245 = .ok (.iload 6, 2) := by decide +kernel
theorem dL_law_247 : decode cL_law 247 = .ok (.if_icmp .eq 5, 3) := by decide +kernel
theorem dL_law_252 : decode cL_law 252 = .ok (.iload 6, 2) := by decide +kernel
theorem dL_law_254 : decode cL_law 254 = .ok (.ifCond .ne 15, 3) := by decide +kernel
theorem dL_law_257 : decode cL_law 257 = .ok (.aload_n 3, 1) := by decide +kernel
theorem dL_law_258 : decode cL_law 258 = .ok (.iconst 0, 1) := by decide +kernel
theorem dL_law_259 : decode cL_law 259 = .ok (.laload, 1) := by decide +kernel
theorem dL_law_260 : decode cL_law 260 = .ok (.iload 7, 2) := by decide +kernel
theorem dL_law_262 : decode cL_law 262 = .ok (.i2l, 1) := by decide +kernel
theorem dL_law_263 : decode cL_law 263 = .ok (.lcmp, 1) := by decide +kernel
theorem dL_law_264 : decode cL_law 264 = .ok (.ifCond .eq 5, 3) := by decide +kernel
theorem dL_law_269 : decode cL_law 269 = .ok (.goto 1415, 3) := by decide +kernel
theorem dL_law_272 : decode cL_law 272 = .ok (.aload_n 1, 1) := by decide +kernel
theorem dL_law_273 : decode cL_law 273 = .ok (.aload_n 0, 1) := by decide +kernel
theorem dL_law_274 : decode cL_law 274 = .ok (.iload 5, 2) := by decide +kernel
theorem dL_law_276 : decode cL_law 276 = .ok (.iconst 1, 1) := by decide +kernel
theorem dL_law_277 : decode cL_law 277 = .ok (.iadd, 1) := by decide +kernel
theorem dL_law_278 : decode cL_law 278 = .ok (.iaload, 1) := by decide +kernel
theorem dL_law_279 : decode cL_law 279 = .ok (.aload_n 0, 1) := by decide +kernel
theorem dL_law_280 : decode cL_law 280 = .ok (.iload 5, 2) := by decide +kernel
theorem dL_law_282 : decode cL_law 282 = .ok (.iconst 2, 1) := by decide +kernel
theorem dL_law_283 : decode cL_law 283 = .ok (.iadd, 1) := by decide +kernel
theorem dL_law_284 : decode cL_law 284 = .ok (.iaload, 1) := by decide +kernel
theorem dL_law_285 : decode cL_law 285 = .ok (.aload_n 3, 1) := by decide +kernel
theorem dL_law_286 : decode cL_law 286 = .ok (.invokestatic 103, 3) := by decide +kernel
theorem dL_law_289 : decode cL_law 289 = .ok (.istore 6, 2) := by decide +kernel
theorem dL_law_291 : decode cL_law 291 = .ok (.aload_n 2, 1) := by decide +kernel
theorem dL_law_292 : decode cL_law 292 = .ok (.aload_n 0, 1) := by decide +kernel
theorem dL_law_293 : decode cL_law 293 = .ok (.iload 5, 2) := by decide +kernel
theorem dL_law_295 : decode cL_law 295 = .ok (.iconst 1, 1) := by decide +kernel
theorem dL_law_296 : decode cL_law 296 = .ok (.iadd, 1) := by decide +kernel
theorem dL_law_297 : decode cL_law 297 = .ok (.iaload, 1) := by decide +kernel
theorem dL_law_298 : decode cL_law 298 = .ok (.aload_n 0, 1) := by decide +kernel
theorem dL_law_299 : decode cL_law 299 = .ok (.iload 5, 2) := by decide +kernel
theorem dL_law_301 : decode cL_law 301 = .ok (.iconst 2, 1) := by decide +kernel
theorem dL_law_302 : decode cL_law 302 = .ok (.iadd, 1) := by decide +kernel
theorem dL_law_303 : decode cL_law 303 = .ok (.iaload, 1) := by decide +kernel
theorem dL_law_304 : decode cL_law 304 = .ok (.invokevirtual 105, 3) := by decide +kernel
theorem dL_law_307 : decode cL_law 307 = .ok (.istore 7, 2) := by decide +kernel
theorem dL_law_309 : decode cL_law 309 = .ok (.aload_n 2, 1) := by decide +kernel
theorem dL_law_310 : decode cL_law 310 = .ok (.invokevirtual 100, 3) := by decide +kernel
theorem dL_law_313 : decode cL_law 313 = .ok (.iload 6, 2) := by decide +kernel
theorem dL_law_315 : decode cL_law 315 = .ok (.if_icmp .eq 5, 3) := by decide +kernel
theorem dL_law_320 : decode cL_law 320 = .ok (.iload 6, 2) := by decide +kernel
theorem dL_law_322 : decode cL_law 322 = .ok (.ifCond .ne 22, 3) := by decide +kernel
theorem dL_law_325 : decode cL_law 325 = .ok (.aload_n 3, 1) := by decide +kernel
theorem dL_law_326 : decode cL_law 326 = .ok (.iconst 0, 1) := by decide +kernel
theorem dL_law_327 : decode cL_law 327 = .ok (.laload, 1) := by decide +kernel
theorem dL_law_328 : decode cL_law 328 = .ok (.iload 7, 2) := by decide +kernel
theorem dL_law_330 : decode cL_law 330 = .ok (.ifCond .eq 7, 3) := by decide +kernel
theorem dL_law_337 : decode cL_law 337 = .ok (.lconst 0, 1) := by decide +kernel
theorem dL_law_338 : decode cL_law 338 = .ok (.lcmp, 1) := by decide +kernel
theorem dL_law_339 : decode cL_law 339 = .ok (.ifCond .eq 5, 3) := by decide +kernel
theorem dL_law_344 : decode cL_law 344 = .ok (.goto 1340, 3) := by decide +kernel
theorem dL_law_347 : decode cL_law 347 = .ok (.aload_n 1, 1) := by decide +kernel
theorem dL_law_348 : decode cL_law 348 = .ok (.aload_n 0, 1) := by decide +kernel
theorem dL_law_349 : decode cL_law 349 = .ok (.iload 5, 2) := by decide +kernel
theorem dL_law_351 : decode cL_law 351 = .ok (.iconst 1, 1) := by decide +kernel
theorem dL_law_352 : decode cL_law 352 = .ok (.iadd, 1) := by decide +kernel
theorem dL_law_353 : decode cL_law 353 = .ok (.iaload, 1) := by decide +kernel
theorem dL_law_354 : decode cL_law 354 = .ok (.aload_n 3, 1) := by decide +kernel
theorem dL_law_355 : decode cL_law 355 = .ok (.invokestatic 106, 3) := by decide +kernel
theorem dL_law_358 : decode cL_law 358 = .ok (.istore 6, 2) := by decide +kernel
theorem dL_law_360 : decode cL_law 360 = .ok (.aload_n 2, 1) := by decide +kernel
theorem dL_law_361 : decode cL_law 361 = .ok (.aload_n 0, 1) := by decide +kernel
theorem dL_law_362 : decode cL_law 362 = .ok (.iload 5, 2) := by decide +kernel
theorem dL_law_364 : decode cL_law 364 = .ok (.iconst 1, 1) := by decide +kernel
theorem dL_law_365 : decode cL_law 365 = .ok (.iadd, 1) := by decide +kernel
theorem dL_law_366 : decode cL_law 366 = .ok (.iaload, 1) := by decide +kernel
theorem dL_law_367 : decode cL_law 367 = .ok (.invokevirtual 109, 3) := by decide +kernel
theorem dL_law_370 : decode cL_law 370 = .ok (.istore 7, 2) := by decide +kernel
theorem dL_law_372 : decode cL_law 372 = .ok (.aload_n 2, 1) := by decide +kernel
theorem dL_law_373 : decode cL_law 373 = .ok (.invokevirtual 100, 3) := by decide +kernel
theorem dL_law_376 : decode cL_law 376 = .ok (.iload 6, 2) := by decide +kernel
theorem dL_law_378 : decode cL_law 378 = .ok (.if_icmp .eq 5, 3) := by decide +kernel
theorem dL_law_383 : decode cL_law 383 = .ok (.iload 6, 2) := by decide +kernel
theorem dL_law_385 : decode cL_law 385 = .ok (.ifCond .ne 15, 3) := by decide +kernel
theorem dL_law_388 : decode cL_law 388 = .ok (.aload_n 3, 1) := by decide +kernel
theorem dL_law_389 : decode cL_law 389 = .ok (.iconst 0, 1) := by decide +kernel
theorem dL_law_390 : decode cL_law 390 = .ok (.laload, 1) := by decide +kernel
theorem dL_law_391 : decode cL_law 391 = .ok (.iload 7, 2) := by decide +kernel
theorem dL_law_393 : decode cL_law 393 = .ok (.i2l, 1) := by decide +kernel
theorem dL_law_394 : decode cL_law 394 = .ok (.lcmp, 1) := by decide +kernel
theorem dL_law_395 : decode cL_law 395 = .ok (.ifCond .eq 5, 3) := by decide +kernel
theorem dL_law_400 : decode cL_law 400 = .ok (.goto 1284, 3) := by decide +kernel
theorem dL_law_403 : decode cL_law 403 = .ok (.aload_n 1, 1) := by decide +kernel
theorem dL_law_404 : decode cL_law 404 = .ok (.aload_n 0, 1) := by decide +kernel
theorem dL_law_405 : decode cL_law 405 = .ok (.iload 5, 2) := by decide +kernel
theorem dL_law_407 : decode cL_law 407 = .ok (.iconst 1, 1) := by decide +kernel
theorem dL_law_408 : decode cL_law 408 = .ok (.iadd, 1) := by decide +kernel
theorem dL_law_409 : decode cL_law 409 = .ok (.iaload, 1) := by decide +kernel
theorem dL_law_410 : decode cL_law 410 = .ok (.i2c, 1) := by decide +kernel
theorem dL_law_411 : decode cL_law 411 = .ok (.aload_n 0, 1) := by decide +kernel
theorem dL_law_412 : decode cL_law 412 = .ok (.iload 5, 2) := by decide +kernel
theorem dL_law_414 : decode cL_law 414 = .ok (.iconst 2, 1) := by decide +kernel
theorem dL_law_415 : decode cL_law 415 = .ok (.iadd, 1) := by decide +kernel
theorem dL_law_416 : decode cL_law 416 = .ok (.iaload, 1) := by decide +kernel
theorem dL_law_417 : decode cL_law 417 = .ok (.aload_n 0, 1) := by decide +kernel
theorem dL_law_418 : decode cL_law 418 = .ok (.iload 5, 2) := by decide +kernel
theorem dL_law_420 : decode cL_law 420 = .ok (.iconst 3, 1) := by decide +kernel
theorem dL_law_421 : decode cL_law 421 = .ok (.iadd, 1) := by decide +kernel
theorem dL_law_422 : decode cL_law 422 = .ok (.iaload, 1) := by decide +kernel
theorem dL_law_423 : decode cL_law 423 = .ok (.aload_n 3, 1) := by decide +kernel
theorem dL_law_424 : decode cL_law 424 = .ok (.invokestatic 110, 3) := by decide +kernel
theorem dL_law_427 : decode cL_law 427 = .ok (.istore 6, 2) := by decide +kernel
theorem dL_law_429 : decode cL_law 429 = .ok (.aload_n 2, 1) := by decide +kernel
theorem dL_law_430 : decode cL_law 430 = .ok (.aload_n 0, 1) := by decide +kernel
theorem dL_law_431 : decode cL_law 431 = .ok (.iload 5, 2) := by decide +kernel
theorem dL_law_433 : decode cL_law 433 = .ok (.iconst 1, 1) := by decide +kernel
theorem dL_law_434 : decode cL_law 434 = .ok (.iadd, 1) := by decide +kernel
theorem dL_law_435 : decode cL_law 435 = .ok (.iaload, 1) := by decide +kernel
theorem dL_law_436 : decode cL_law 436 = .ok (.i2c, 1) := by decide +kernel
theorem dL_law_437 : decode cL_law 437 = .ok (.aload_n 0, 1) := by decide +kernel
theorem dL_law_438 : decode cL_law 438 = .ok (.iload 5, 2) := by decide +kernel
theorem dL_law_440 : decode cL_law 440 = .ok (.iconst 2, 1) := by decide +kernel
theorem dL_law_441 : decode cL_law 441 = .ok (.iadd, 1) := by decide +kernel
theorem dL_law_442 : decode cL_law 442 = .ok (.iaload, 1) := by decide +kernel
theorem dL_law_443 : decode cL_law 443 = .ok (.aload_n 0, 1) := by decide +kernel
theorem dL_law_444 : decode cL_law 444 = .ok (.iload 5, 2) := by decide +kernel
theorem dL_law_446 : decode cL_law 446 = .ok (.iconst 3, 1) := by decide +kernel
theorem dL_law_447 : decode cL_law 447 = .ok (.iadd, 1) := by decide +kernel
theorem dL_law_448 : decode cL_law 448 = .ok (.iaload, 1) := by decide +kernel
theorem dL_law_449 : decode cL_law 449 = .ok (.invokevirtual 113, 3) := by decide +kernel
theorem dL_law_452 : decode cL_law 452 = .ok (.istore 7, 2) := by decide +kernel
theorem dL_law_454 : decode cL_law 454 = .ok (.aload_n 2, 1) := by decide +kernel
theorem dL_law_455 : decode cL_law 455 = .ok (.invokevirtual 100, 3) := by decide +kernel
theorem dL_law_458 : decode cL_law 458 = .ok (.iload 6, 2) := by decide +kernel
theorem dL_law_460 : decode cL_law 460 = .ok (.if_icmp .eq 5, 3) := by decide +kernel
theorem dL_law_465 : decode cL_law 465 = .ok (.iload 6, 2) := by decide +kernel
theorem dL_law_467 : decode cL_law 467 = .ok (.ifCond .ne 15, 3) := by decide +kernel
theorem dL_law_470 : decode cL_law 470 = .ok (.aload_n 3, 1) := by decide +kernel
theorem dL_law_471 : decode cL_law 471 = .ok (.iconst 0, 1) := by decide +kernel
theorem dL_law_472 : decode cL_law 472 = .ok (.laload, 1) := by decide +kernel
theorem dL_law_473 : decode cL_law 473 = .ok (.iload 7, 2) := by decide +kernel
theorem dL_law_475 : decode cL_law 475 = .ok (.i2l, 1) := by decide +kernel
theorem dL_law_476 : decode cL_law 476 = .ok (.lcmp, 1) := by decide +kernel
theorem dL_law_477 : decode cL_law 477 = .ok (.ifCond .eq 5, 3) := by decide +kernel
theorem dL_law_482 : decode cL_law 482 = .ok (.goto 1202, 3) := by decide +kernel
set_option maxHeartbeats 8000000 in
set_option maxRecDepth 100000 in
theorem la_wind_good {p : Program} {l : Launch} {e : Env} {s : State} {m : MethodId} {below : List Frame} {meth : Method} {c : Code} {dC : Nat → ClassId} {dI : Nat → Nat → Nat} {z zK zV : Nat → Nat} {b : Nat} {xs : Nat → Int32} {A : Nat → Prop} (hst : l.stackTraces = false) (C0 : lw_At p s m meth c b 4 xs) (hM : am z zK zV A s s.heap) (hA : ∀ q : Nat, s.heap.size ≤ q → A q) (hAl : ∀ q : Nat, A q → s.heap.size ≤ q) (sh : Nat) (rg : Nat) (dk : Nat) (hd : Nat) (lg : Nat) (pl : Nat) (pr : Nat) (x : Nat) (tl : Nat) (tw : Nat) (p0 : Int32) (p1 : Int32) (mo : Nat) (ti : Nat) (si : Nat) (lo : Nat) (lh : Nat) (lk : Nat) (sp : Nat) (st : Nat) (pa : Nat) (br : Nat) (sg : Nat) (ou : Nat) (co : ClassId) (of_ : Nat → Int64) (od_ : Nat) (hg0 : ((0 : Int32) ≤ p0 ∧ p0 ≤ 31) ∧ (0 : Int32) ≤ p1 ∧ p1 ≤ 12) (hs1 : xs 1 = p0) (hs2 : xs 2 = p1) (H : Heap) (locs : List Loc) (hK : va_K (dC, dI) vwCl [(co, .long)] s) (hP : va_P (dC, dI) vwCl [(x, .inr (15, [.ref sh, .ref tl, .ref tw, .int 0])), (tl, .inr (3, [.int 0, .ref (z 0), .int 0])), (sh, .inr (13, [.ref rg, .ref dk, .ref hd, .ref lg, .ref pl, .ref pr, .int 0, .int 0, .int 0, .int 0, .int 0, .int 0, .int 0, .int 0, .int 0, .int 0, .int 0])), (mo, .inr (19, [.int 0, .int 0, .int 0, .int 0, .int 0, .int 0, .int 0, .ref ti, .ref si, .ref lo, .ref lh, .ref lk, .ref sp, .ref st, .ref pa, .ref br, .ref sg, .int 0, .int 0, .int 0, .int 0, .int 0, .int 0, .long 0, .long 0, .long 0, .long 0, .int 0])), (ou, .inl (co, 1, .inr (.inl of_)))] H) (hD : va_D A [(x, .inr (15, [.ref sh, .ref tl, .ref tw, .int 0])), (tl, .inr (3, [.int 0, .ref (z 0), .int 0])), (sh, .inr (13, [.ref rg, .ref dk, .ref hd, .ref lg, .ref pl, .ref pr, .int 0, .int 0, .int 0, .int 0, .int 0, .int 0, .int 0, .int 0, .int 0, .int 0, .int 0])), (mo, .inr (19, [.int 0, .int 0, .int 0, .int 0, .int 0, .int 0, .int 0, .ref ti, .ref si, .ref lo, .ref lh, .ref lk, .ref sp, .ref st, .ref pa, .ref br, .ref sg, .int 0, .int 0, .int 0, .int 0, .int 0, .int 0, .long 0, .long 0, .long 0, .long 0, .int 0])), (ou, .inl (co, 1, .inr (.inl of_)))]) (hS : va_S A s.heap H locs) (ls : Array Slot) (hl : lv_has ls 10 [(0, .ref b), (1, .ref x), (2, .ref mo), (3, .ref ou), (4, .ref od_), (5, .int 0)]) : W p l e room_1 s m #[Value.ref b] below meth c H locs 100 1400 (lw_Z below #[Value.ref b] s) (F0 m 204 ls []) := by
  obtain ⟨hx, hb, hr, hml, hown, hts, hX, hbl, hlocks, hgv⟩ := id C0
  have hbA : ¬ A b := fun h => absurd (hAl b h) (Nat.not_le.mpr hbl)
  refine lv_aload_n hx hb dL_law_204 rfl (lv_at hl 1 rfl) ?_
  refine lv_aload_n hx hb dL_law_205 rfl (lv_at hl 0 rfl) ?_
  refine lv_iload hx hb dL_law_206 (lv_at hl 5 rfl) ?_
  refine lv_iconst (v := 1) hx hb dL_law_208 (by decide) ?_
  refine lv_iadd hx hb dL_law_209 ?_
  refine kc_i (y := 1) (by decide +kernel) ?_
  refine va_sld hx hb hX hbl hbA hS (pk_in 1 4 (by decide) rfl) dL_law_210 ?_
  refine kc_i (y := p0) (hs1 : xs 1 = p0) ?_
  refine lv_aload_n hx hb dL_law_211 rfl (lv_at hl 0 rfl) ?_
  refine lv_iload hx hb dL_law_212 (lv_at hl 5 rfl) ?_
  refine lv_iconst (v := 2) hx hb dL_law_214 (by decide) ?_
  refine lv_iadd hx hb dL_law_215 ?_
  refine kc_i (y := 2) (by decide +kernel) ?_
  refine va_sld hx hb hX hbl hbA hS (pk_in 2 4 (by decide) rfl) dL_law_216 ?_
  refine kc_i (y := p1) (hs2 : xs 2 = p1) ?_
  refine lv_aload_n hx hb dL_law_217 rfl (lv_at hl 3 rfl) ?_
  have hPc := hP.sub (ws' := [(x, .inr (15, [.ref sh, .ref tl, .ref tw, .int 0])), (tl, .inr (3, [.int 0, .ref (z 0), .int 0])), (sh, .inr (13, [.ref rg, .ref dk, .ref hd, .ref lg, .ref pl, .ref pr, .int 0, .int 0, .int 0, .int 0, .int 0, .int 0, .int 0, .int 0, .int 0, .int 0, .int 0])), (ou, .inl (co, 1, .inr (.inl of_)))]) [0, 1, 2, 4] rfl
  have hDc := hD.sub (ws' := [(x, .inr (15, [.ref sh, .ref tl, .ref tw, .int 0])), (tl, .inr (3, [.int 0, .ref (z 0), .int 0])), (sh, .inr (13, [.ref rg, .ref dk, .ref hd, .ref lg, .ref pl, .ref pr, .int 0, .int 0, .int 0, .int 0, .int 0, .int 0, .int 0, .int 0, .int 0, .int 0, .int 0])), (ou, .inl (co, 1, .inr (.inl of_)))]) [0, 1, 2, 4] (by decide) rfl
  have hKc := hK.sub (tys' := [(co, .long)]) [0] rfl
  have hFc := va_free (wc := [(x, .inr (15, [.ref sh, .ref tl, .ref tw, .int 0])), (tl, .inr (3, [.int 0, .ref (z 0), .int 0])), (sh, .inr (13, [.ref rg, .ref dk, .ref hd, .ref lg, .ref pl, .ref pr, .int 0, .int 0, .int 0, .int 0, .int 0, .int 0, .int 0, .int 0, .int 0, .int 0, .int 0])), (ou, .inl (co, 1, .inr (.inl of_)))]) hD hS hA [0, 1, 2, 4] rfl
  refine va_calli (vx_runSW (As := [.ref x, .int p0, .int p1, .ref ou]) (rest := []) ⟨hx, hb, hml, hown, hts⟩ (k_l_wind_good l dC dI z zK zV sh rg dk hd lg pl pr x tl tw p0 p1 ou co of_ H.size (hg0)) (vx_cwSW 4 hts hL_L_wind_94 rfl rfl rfl (by decide +kernel) ⟨Nat.le_of_ble_eq_true rfl, Nat.le_of_ble_eq_true rfl⟩) ⟨kP_blind, kP_go hPc hKc hDc hFc hM hS⟩ rfl rfl hl.1 rfl (lv_room (Nat.le_of_ble_eq_true rfl)) dL_law_218 ⟨Nat.le_of_ble_eq_true rfl, Nat.le_of_ble_eq_true rfl⟩) hS (fun q _ h => hFc q h) hFc (fun r1 u t H1 locs ht hvm hw hB hz1 hk1 hS => ?_)
  obtain ⟨hP, hD, hK⟩ := kJ (wr := [(mo, .inr (19, [.int 0, .int 0, .int 0, .int 0, .int 0, .int 0, .int 0, .ref ti, .ref si, .ref lo, .ref lh, .ref lk, .ref sp, .ref st, .ref pa, .ref br, .ref sg, .int 0, .int 0, .int 0, .int 0, .int 0, .int 0, .long 0, .long 0, .long 0, .long 0, .int 0]))]) (w1 := [(ou, .inl (co, 1, .inr (.inl (vp_updL of_ 0 0))))]) (t1 := []) hP hD hK [0, 1, 2, 4] [3] rfl rfl (by decide) (by decide) hk1 hFc ht hvm hB
  generalize H1 = H at hP hS ⊢
  have hP : va_P (dC, dI) vwCl [(mo, .inr (19, [.int 0, .int 0, .int 0, .int 0, .int 0, .int 0, .int 0, .ref ti, .ref si, .ref lo, .ref lh, .ref lk, .ref sp, .ref st, .ref pa, .ref br, .ref sg, .int 0, .int 0, .int 0, .int 0, .int 0, .int 0, .long 0, .long 0, .long 0, .long 0, .int 0])), (ou, .inl (co, 1, .inr (.inl (vp_updL of_ 0 0))))] H := hP
  have hD : va_D A [(mo, .inr (19, [.int 0, .int 0, .int 0, .int 0, .int 0, .int 0, .int 0, .ref ti, .ref si, .ref lo, .ref lh, .ref lk, .ref sp, .ref st, .ref pa, .ref br, .ref sg, .int 0, .int 0, .int 0, .int 0, .int 0, .int 0, .long 0, .long 0, .long 0, .long 0, .int 0])), (ou, .inl (co, 1, .inr (.inl (vp_updL of_ 0 0))))] := hD
  have hK : va_K (dC, dI) vwCl [(co, .long)] s := hK
  obtain rfl : 0 = r1 := hw
  refine lv_istore (lv' := [(6, .int 0), (0, .ref b), (1, .ref x), (2, .ref mo), (3, .ref ou), (4, .ref od_), (5, .int 0)]) hx hb dL_law_221 hl (by decide) rfl (fun ls hl => ?_)
  refine lv_aload_n hx hb dL_law_223 rfl (lv_at hl 3 rfl) ?_
  refine lv_aload_n hx hb dL_law_224 rfl (lv_at hl 1 rfl) ?_
  refine lv_iload hx hb dL_law_225 (lv_at hl 6 rfl) ?_
  refine lv_iconst (v := 1) hx hb dL_law_227 (by decide) ?_
  refine lv_iadd hx hb dL_law_228 ?_
  refine kc_i (y := 1) (by decide +kernel) ?_
  refine va_sld hx hb hX hbl hbA hS (pk_in 1 4 (by decide) rfl) dL_law_229 ?_
  refine kc_i (y := p0) (hs1 : xs 1 = p0) ?_
  refine lv_aload_n hx hb dL_law_230 rfl (lv_at hl 1 rfl) ?_
  refine lv_iload hx hb dL_law_231 (lv_at hl 6 rfl) ?_
  refine lv_iconst (v := 2) hx hb dL_law_233 (by decide) ?_
  refine lv_iadd hx hb dL_law_234 ?_
  refine kc_i (y := 2) (by decide +kernel) ?_
  refine va_sld hx hb hX hbl hbA hS (pk_in 2 4 (by decide) rfl) dL_law_235 ?_
  refine kc_i (y := p1) (hs2 : xs 2 = p1) ?_
  have hPc := hP.sub (ws' := [(mo, .inr (19, [.int 0, .int 0, .int 0, .int 0, .int 0, .int 0, .int 0, .ref ti, .ref si, .ref lo, .ref lh, .ref lk, .ref sp, .ref st, .ref pa, .ref br, .ref sg, .int 0, .int 0, .int 0, .int 0, .int 0, .int 0, .long 0, .long 0, .long 0, .long 0, .int 0]))]) [0] rfl
  have hDc := hD.sub (ws' := [(mo, .inr (19, [.int 0, .int 0, .int 0, .int 0, .int 0, .int 0, .int 0, .ref ti, .ref si, .ref lo, .ref lh, .ref lk, .ref sp, .ref st, .ref pa, .ref br, .ref sg, .int 0, .int 0, .int 0, .int 0, .int 0, .int 0, .long 0, .long 0, .long 0, .long 0, .int 0]))]) [0] (by decide) rfl
  have hKc := hK.sub (tys' := []) [] rfl
  have hFc := va_free (wc := [(mo, .inr (19, [.int 0, .int 0, .int 0, .int 0, .int 0, .int 0, .int 0, .ref ti, .ref si, .ref lo, .ref lh, .ref lk, .ref sp, .ref st, .ref pa, .ref br, .ref sg, .int 0, .int 0, .int 0, .int 0, .int 0, .int 0, .long 0, .long 0, .long 0, .long 0, .int 0]))]) hD hS hA [0] rfl
  refine va_calli (va_runV (As := [.int p0, .int p1]) (rest := []) ⟨hx, hb, hml, hown, hts⟩ (k_m_wind_good l dC dI z zK zV p0 p1 mo ti si lo lh lk sp st pa br sg 0 H.size (hg0)) (cwV 2 hts hL_X15_wind_99 rfl rfl rfl (by decide +kernel) ⟨Nat.le_of_ble_eq_true rfl, Nat.le_of_ble_eq_true rfl⟩) ⟨kP_blind, va_recv hKc hPc (ci := 19) (q0 := 0) rfl rfl, kP_go hPc hKc hDc hFc hM hS⟩ rfl rfl hl.1 rfl (lv_room (Nat.le_of_ble_eq_true rfl)) dL_law_236 ⟨Nat.le_of_ble_eq_true rfl, Nat.le_of_ble_eq_true rfl⟩) hS (fun q _ h => hFc q h) hFc (fun r2 u t H1 locs ht hvm hw hB hz1 hk1 hS => ?_)
  obtain ⟨hP, hD, hK⟩ := kJ (wr := [(ou, .inl (co, 1, .inr (.inl (vp_updL of_ 0 0))))]) (w1 := [(mo, .inr (19, [.int p0, .int p1, .int 0, .int 0, .int 0, .int 0, .int 0, .ref ti, .ref si, .ref lo, .ref lh, .ref lk, .ref sp, .ref st, .ref pa, .ref br, .ref sg, .int 0, .int 0, .int 0, .int 0, .int 0, .int 0, .long 0, .long 0, .long 0, .long 0, .int 0]))]) (t1 := []) hP hD hK [0] [1] rfl rfl (by decide) (by decide) hk1 hFc ht hvm hB
  generalize H1 = H at hP hS ⊢
  have hP : va_P (dC, dI) vwCl [(ou, .inl (co, 1, .inr (.inl (vp_updL of_ 0 0)))), (mo, .inr (19, [.int p0, .int p1, .int 0, .int 0, .int 0, .int 0, .int 0, .ref ti, .ref si, .ref lo, .ref lh, .ref lk, .ref sp, .ref st, .ref pa, .ref br, .ref sg, .int 0, .int 0, .int 0, .int 0, .int 0, .int 0, .long 0, .long 0, .long 0, .long 0, .int 0]))] H := hP
  have hD : va_D A [(ou, .inl (co, 1, .inr (.inl (vp_updL of_ 0 0)))), (mo, .inr (19, [.int p0, .int p1, .int 0, .int 0, .int 0, .int 0, .int 0, .ref ti, .ref si, .ref lo, .ref lh, .ref lk, .ref sp, .ref st, .ref pa, .ref br, .ref sg, .int 0, .int 0, .int 0, .int 0, .int 0, .int 0, .long 0, .long 0, .long 0, .long 0, .int 0]))] := hD
  have hK : va_K (dC, dI) vwCl [(co, .long)] s := hK
  obtain rfl : 0 = r2 := hw
  refine lv_istore (lv' := [(7, .int 0), (6, .int 0), (0, .ref b), (1, .ref x), (2, .ref mo), (3, .ref ou), (4, .ref od_), (5, .int 0)]) hx hb dL_law_239 hl (by decide) rfl (fun ls hl => ?_)
  refine lv_aload_n hx hb dL_law_241 rfl (lv_at hl 4 rfl) ?_
  have hPc := hP.sub (ws' := [(mo, .inr (19, [.int p0, .int p1, .int 0, .int 0, .int 0, .int 0, .int 0, .ref ti, .ref si, .ref lo, .ref lh, .ref lk, .ref sp, .ref st, .ref pa, .ref br, .ref sg, .int 0, .int 0, .int 0, .int 0, .int 0, .int 0, .long 0, .long 0, .long 0, .long 0, .int 0]))]) [1] rfl
  have hDc := hD.sub (ws' := [(mo, .inr (19, [.int p0, .int p1, .int 0, .int 0, .int 0, .int 0, .int 0, .ref ti, .ref si, .ref lo, .ref lh, .ref lk, .ref sp, .ref st, .ref pa, .ref br, .ref sg, .int 0, .int 0, .int 0, .int 0, .int 0, .int 0, .long 0, .long 0, .long 0, .long 0, .int 0]))]) [1] (by decide) rfl
  have hKc := hK.sub (tys' := []) [] rfl
  have hFc := va_free (wc := [(mo, .inr (19, [.int p0, .int p1, .int 0, .int 0, .int 0, .int 0, .int 0, .ref ti, .ref si, .ref lo, .ref lh, .ref lk, .ref sp, .ref st, .ref pa, .ref br, .ref sg, .int 0, .int 0, .int 0, .int 0, .int 0, .int 0, .long 0, .long 0, .long 0, .long 0, .int 0]))]) hD hS hA [1] rfl
  refine va_calli (va_runV (As := []) (rest := []) ⟨hx, hb, hml, hown, hts⟩ (k_m_thrown l dC dI z zK zV mo ti si lo lh lk sp st pa br sg p0 p1 0 0 0 0 0 0 0 0 0 0 0 0 0 0 0 0 H.size) (cwV 0 hts hL_X15_thrown_100 rfl rfl rfl (by decide +kernel) ⟨Nat.le_of_ble_eq_true rfl, Nat.le_of_ble_eq_true rfl⟩) ⟨kP_blind, va_recv hKc hPc (ci := 19) (q0 := 0) rfl rfl, kP_go hPc hKc hDc hFc hM hS⟩ rfl rfl hl.1 rfl (lv_room (Nat.le_of_ble_eq_true rfl)) dL_law_242 ⟨Nat.le_of_ble_eq_true rfl, Nat.le_of_ble_eq_true rfl⟩) hS (fun q _ h => hFc q h) hFc (fun r3 u t H1 locs ht hvm hw hB hz1 hk1 hS => ?_)
  obtain ⟨hP, hD, hK⟩ := kJ (wr := [(ou, .inl (co, 1, .inr (.inl (vp_updL of_ 0 0))))]) (w1 := [(mo, .inr (19, [.int p0, .int p1, .int 0, .int 0, .int 0, .int 0, .int 0, .ref ti, .ref si, .ref lo, .ref lh, .ref lk, .ref sp, .ref st, .ref pa, .ref br, .ref sg, .int 0, .int 0, .int 0, .int 0, .int 0, .int 0, .long 0, .long 0, .long 0, .long 0, .int 0]))]) (t1 := []) hP hD hK [1] [0] rfl rfl (by decide) (by decide) hk1 hFc ht hvm hB
  generalize H1 = H at hP hS ⊢
  have hP : va_P (dC, dI) vwCl [(ou, .inl (co, 1, .inr (.inl (vp_updL of_ 0 0)))), (mo, .inr (19, [.int p0, .int p1, .int 0, .int 0, .int 0, .int 0, .int 0, .ref ti, .ref si, .ref lo, .ref lh, .ref lk, .ref sp, .ref st, .ref pa, .ref br, .ref sg, .int 0, .int 0, .int 0, .int 0, .int 0, .int 0, .long 0, .long 0, .long 0, .long 0, .int 0]))] H := hP
  have hD : va_D A [(ou, .inl (co, 1, .inr (.inl (vp_updL of_ 0 0)))), (mo, .inr (19, [.int p0, .int p1, .int 0, .int 0, .int 0, .int 0, .int 0, .ref ti, .ref si, .ref lo, .ref lh, .ref lk, .ref sp, .ref st, .ref pa, .ref br, .ref sg, .int 0, .int 0, .int 0, .int 0, .int 0, .int 0, .long 0, .long 0, .long 0, .long 0, .int 0]))] := hD
  have hK : va_K (dC, dI) vwCl [(co, .long)] s := hK
  obtain rfl : 0 = r3 := hw
  refine lv_iload hx hb dL_law_245 (lv_at hl 1 rfl) ?_
  refine lv_icmp_eq (tgt := 252) hx hb dL_law_247 (by decide) (fun _ => ?_) (fun c_ => absurd (by decide +kernel) c_)
  refine lv_iload hx hb dL_law_252 (lv_at hl 1 rfl) ?_
  refine lv_if_ne (tgt := 269) hx hb dL_law_254 (by decide) (fun c_ => absurd (by decide +kernel) c_) (fun _ => ?_)
  refine lv_aload_n hx hb dL_law_257 rfl (lv_at hl 5 rfl) ?_
  refine lv_iconst (v := 0) hx hb dL_law_258 (by decide) ?_
  refine va_lald hx hb hK hP 0 0 rfl rfl (pk_in 0 1 (by decide) rfl) dL_law_259 ?_
  refine kc_v (y := .long 0) rfl ?_
  refine lv_iload hx hb dL_law_260 (lv_at hl 0 rfl) ?_
  refine lv_i2l (v := 0) hx hb dL_law_262 (by decide +kernel) ?_
  refine W.lcmp hx hb dL_law_263 ?_
  refine kc_i (y := 0) (by decide +kernel) ?_
  refine lv_if_eq (tgt := 269) hx hb dL_law_264 (by decide) (fun _ => ?_) (fun c_ => absurd (by decide +kernel) c_)
  refine lv_goto (tgt := 1684) hx hb dL_law_269 (by decide) ?_
  exact la_tail (dC := dC) (dI := dI) hst C0 hM hA hAl H locs hS ls (lv_sub hl [2, 7] rfl) (by omega) (by omega)
set_option maxHeartbeats 8000000 in
set_option maxRecDepth 100000 in
theorem la_wind_bad {p : Program} {l : Launch} {e : Env} {s : State} {m : MethodId} {below : List Frame} {meth : Method} {c : Code} {dC : Nat → ClassId} {dI : Nat → Nat → Nat} {z zK zV : Nat → Nat} {b : Nat} {xs : Nat → Int32} {A : Nat → Prop} (hst : l.stackTraces = false) (C0 : lw_At p s m meth c b 4 xs) (hM : am z zK zV A s s.heap) (hA : ∀ q : Nat, s.heap.size ≤ q → A q) (hAl : ∀ q : Nat, A q → s.heap.size ≤ q) (sh : Nat) (rg : Nat) (dk : Nat) (hd : Nat) (lg : Nat) (pl : Nat) (pr : Nat) (x : Nat) (tl : Nat) (tw : Nat) (p0 : Int32) (p1 : Int32) (mo : Nat) (ti : Nat) (si : Nat) (lo : Nat) (lh : Nat) (lk : Nat) (sp : Nat) (st : Nat) (pa : Nat) (br : Nat) (sg : Nat) (ou : Nat) (co : ClassId) (of_ : Nat → Int64) (od_ : Nat) (hb0 : ¬ (((0 : Int32) ≤ p0 ∧ p0 ≤ 31) ∧ (0 : Int32) ≤ p1 ∧ p1 ≤ 12)) (hs1 : xs 1 = p0) (hs2 : xs 2 = p1) (H : Heap) (locs : List Loc) (hK : va_K (dC, dI) vwCl [(co, .long)] s) (hP : va_P (dC, dI) vwCl [(x, .inr (15, [.ref sh, .ref tl, .ref tw, .int 0])), (sh, .inr (13, [.ref rg, .ref dk, .ref hd, .ref lg, .ref pl, .ref pr, .int 0, .int 0, .int 0, .int 0, .int 0, .int 0, .int 0, .int 0, .int 0, .int 0, .int 0])), (mo, .inr (19, [.int 0, .int 0, .int 0, .int 0, .int 0, .int 0, .int 0, .ref ti, .ref si, .ref lo, .ref lh, .ref lk, .ref sp, .ref st, .ref pa, .ref br, .ref sg, .int 0, .int 0, .int 0, .int 0, .int 0, .int 0, .long 0, .long 0, .long 0, .long 0, .int 0])), (ou, .inl (co, 1, .inr (.inl of_)))] H) (hD : va_D A [(x, .inr (15, [.ref sh, .ref tl, .ref tw, .int 0])), (sh, .inr (13, [.ref rg, .ref dk, .ref hd, .ref lg, .ref pl, .ref pr, .int 0, .int 0, .int 0, .int 0, .int 0, .int 0, .int 0, .int 0, .int 0, .int 0, .int 0])), (mo, .inr (19, [.int 0, .int 0, .int 0, .int 0, .int 0, .int 0, .int 0, .ref ti, .ref si, .ref lo, .ref lh, .ref lk, .ref sp, .ref st, .ref pa, .ref br, .ref sg, .int 0, .int 0, .int 0, .int 0, .int 0, .int 0, .long 0, .long 0, .long 0, .long 0, .int 0])), (ou, .inl (co, 1, .inr (.inl of_)))]) (hS : va_S A s.heap H locs) (ls : Array Slot) (hl : lv_has ls 10 [(0, .ref b), (1, .ref x), (2, .ref mo), (3, .ref ou), (4, .ref od_), (5, .int 0)]) : W p l e room_1 s m #[Value.ref b] below meth c H locs 100 1400 (lw_Z below #[Value.ref b] s) (F0 m 204 ls []) := by
  obtain ⟨hx, hb, hr, hml, hown, hts, hX, hbl, hlocks, hgv⟩ := id C0
  have hbA : ¬ A b := fun h => absurd (hAl b h) (Nat.not_le.mpr hbl)
  refine lv_aload_n hx hb dL_law_204 rfl (lv_at hl 1 rfl) ?_
  refine lv_aload_n hx hb dL_law_205 rfl (lv_at hl 0 rfl) ?_
  refine lv_iload hx hb dL_law_206 (lv_at hl 5 rfl) ?_
  refine lv_iconst (v := 1) hx hb dL_law_208 (by decide) ?_
  refine lv_iadd hx hb dL_law_209 ?_
  refine kc_i (y := 1) (by decide +kernel) ?_
  refine va_sld hx hb hX hbl hbA hS (pk_in 1 4 (by decide) rfl) dL_law_210 ?_
  refine kc_i (y := p0) (hs1 : xs 1 = p0) ?_
  refine lv_aload_n hx hb dL_law_211 rfl (lv_at hl 0 rfl) ?_
  refine lv_iload hx hb dL_law_212 (lv_at hl 5 rfl) ?_
  refine lv_iconst (v := 2) hx hb dL_law_214 (by decide) ?_
  refine lv_iadd hx hb dL_law_215 ?_
  refine kc_i (y := 2) (by decide +kernel) ?_
  refine va_sld hx hb hX hbl hbA hS (pk_in 2 4 (by decide) rfl) dL_law_216 ?_
  refine kc_i (y := p1) (hs2 : xs 2 = p1) ?_
  refine lv_aload_n hx hb dL_law_217 rfl (lv_at hl 3 rfl) ?_
  have hPc := hP.sub (ws' := [(x, .inr (15, [.ref sh, .ref tl, .ref tw, .int 0])), (sh, .inr (13, [.ref rg, .ref dk, .ref hd, .ref lg, .ref pl, .ref pr, .int 0, .int 0, .int 0, .int 0, .int 0, .int 0, .int 0, .int 0, .int 0, .int 0, .int 0])), (ou, .inl (co, 1, .inr (.inl of_)))]) [0, 1, 3] rfl
  have hDc := hD.sub (ws' := [(x, .inr (15, [.ref sh, .ref tl, .ref tw, .int 0])), (sh, .inr (13, [.ref rg, .ref dk, .ref hd, .ref lg, .ref pl, .ref pr, .int 0, .int 0, .int 0, .int 0, .int 0, .int 0, .int 0, .int 0, .int 0, .int 0, .int 0])), (ou, .inl (co, 1, .inr (.inl of_)))]) [0, 1, 3] (by decide) rfl
  have hKc := hK.sub (tys' := [(co, .long)]) [0] rfl
  have hFc := va_free (wc := [(x, .inr (15, [.ref sh, .ref tl, .ref tw, .int 0])), (sh, .inr (13, [.ref rg, .ref dk, .ref hd, .ref lg, .ref pl, .ref pr, .int 0, .int 0, .int 0, .int 0, .int 0, .int 0, .int 0, .int 0, .int 0, .int 0, .int 0])), (ou, .inl (co, 1, .inr (.inl of_)))]) hD hS hA [0, 1, 3] rfl
  refine va_calli (vx_runSW (As := [.ref x, .int p0, .int p1, .ref ou]) (rest := []) ⟨hx, hb, hml, hown, hts⟩ (k_l_wind_bad l dC dI z zK zV sh rg dk hd lg pl pr x tl tw p0 p1 ou co of_ H.size hst (hb0)) (vx_cwSW 4 hts hL_L_wind_94 rfl rfl rfl (by decide +kernel) ⟨Nat.le_of_ble_eq_true rfl, Nat.le_of_ble_eq_true rfl⟩) ⟨kP_blind, kP_go hPc hKc hDc hFc hM hS⟩ rfl rfl hl.1 rfl (lv_room (Nat.le_of_ble_eq_true rfl)) dL_law_218 ⟨Nat.le_of_ble_eq_true rfl, Nat.le_of_ble_eq_true rfl⟩) hS (fun q _ h => hFc q h) hFc (fun r1 u t H1 locs ht hvm hw hB hz1 hk1 hS => ?_)
  obtain ⟨hP, hD, hK⟩ := kJ (wr := [(mo, .inr (19, [.int 0, .int 0, .int 0, .int 0, .int 0, .int 0, .int 0, .ref ti, .ref si, .ref lo, .ref lh, .ref lk, .ref sp, .ref st, .ref pa, .ref br, .ref sg, .int 0, .int 0, .int 0, .int 0, .int 0, .int 0, .long 0, .long 0, .long 0, .long 0, .int 0]))]) (w1 := []) (t1 := []) hP hD hK [0, 1, 3] [2] rfl rfl (by decide) (by decide) hk1 hFc ht hvm hB
  generalize H1 = H at hP hS ⊢
  have hP : va_P (dC, dI) vwCl [(mo, .inr (19, [.int 0, .int 0, .int 0, .int 0, .int 0, .int 0, .int 0, .ref ti, .ref si, .ref lo, .ref lh, .ref lk, .ref sp, .ref st, .ref pa, .ref br, .ref sg, .int 0, .int 0, .int 0, .int 0, .int 0, .int 0, .long 0, .long 0, .long 0, .long 0, .int 0]))] H := hP
  have hD : va_D A [(mo, .inr (19, [.int 0, .int 0, .int 0, .int 0, .int 0, .int 0, .int 0, .ref ti, .ref si, .ref lo, .ref lh, .ref lk, .ref sp, .ref st, .ref pa, .ref br, .ref sg, .int 0, .int 0, .int 0, .int 0, .int 0, .int 0, .long 0, .long 0, .long 0, .long 0, .int 0]))] := hD
  have hK : va_K (dC, dI) vwCl [(co, .long)] s := hK
  obtain rfl : 1 = r1 := hw
  refine lv_istore (lv' := [(6, .int 1), (0, .ref b), (1, .ref x), (2, .ref mo), (3, .ref ou), (4, .ref od_), (5, .int 0)]) hx hb dL_law_221 hl (by decide) rfl (fun ls hl => ?_)
  refine lv_aload_n hx hb dL_law_223 rfl (lv_at hl 3 rfl) ?_
  refine lv_aload_n hx hb dL_law_224 rfl (lv_at hl 1 rfl) ?_
  refine lv_iload hx hb dL_law_225 (lv_at hl 6 rfl) ?_
  refine lv_iconst (v := 1) hx hb dL_law_227 (by decide) ?_
  refine lv_iadd hx hb dL_law_228 ?_
  refine kc_i (y := 1) (by decide +kernel) ?_
  refine va_sld hx hb hX hbl hbA hS (pk_in 1 4 (by decide) rfl) dL_law_229 ?_
  refine kc_i (y := p0) (hs1 : xs 1 = p0) ?_
  refine lv_aload_n hx hb dL_law_230 rfl (lv_at hl 1 rfl) ?_
  refine lv_iload hx hb dL_law_231 (lv_at hl 6 rfl) ?_
  refine lv_iconst (v := 2) hx hb dL_law_233 (by decide) ?_
  refine lv_iadd hx hb dL_law_234 ?_
  refine kc_i (y := 2) (by decide +kernel) ?_
  refine va_sld hx hb hX hbl hbA hS (pk_in 2 4 (by decide) rfl) dL_law_235 ?_
  refine kc_i (y := p1) (hs2 : xs 2 = p1) ?_
  have hPc := hP.sub (ws' := [(mo, .inr (19, [.int 0, .int 0, .int 0, .int 0, .int 0, .int 0, .int 0, .ref ti, .ref si, .ref lo, .ref lh, .ref lk, .ref sp, .ref st, .ref pa, .ref br, .ref sg, .int 0, .int 0, .int 0, .int 0, .int 0, .int 0, .long 0, .long 0, .long 0, .long 0, .int 0]))]) [0] rfl
  have hDc := hD.sub (ws' := [(mo, .inr (19, [.int 0, .int 0, .int 0, .int 0, .int 0, .int 0, .int 0, .ref ti, .ref si, .ref lo, .ref lh, .ref lk, .ref sp, .ref st, .ref pa, .ref br, .ref sg, .int 0, .int 0, .int 0, .int 0, .int 0, .int 0, .long 0, .long 0, .long 0, .long 0, .int 0]))]) [0] (by decide) rfl
  have hKc := hK.sub (tys' := []) [] rfl
  have hFc := va_free (wc := [(mo, .inr (19, [.int 0, .int 0, .int 0, .int 0, .int 0, .int 0, .int 0, .ref ti, .ref si, .ref lo, .ref lh, .ref lk, .ref sp, .ref st, .ref pa, .ref br, .ref sg, .int 0, .int 0, .int 0, .int 0, .int 0, .int 0, .long 0, .long 0, .long 0, .long 0, .int 0]))]) hD hS hA [0] rfl
  refine va_calli (va_runV (As := [.int p0, .int p1]) (rest := []) ⟨hx, hb, hml, hown, hts⟩ (k_m_wind_bad l dC dI z zK zV p0 p1 mo ti si lo lh lk sp st pa br sg 0 H.size (hb0)) (cwV 2 hts hL_X15_wind_99 rfl rfl rfl (by decide +kernel) ⟨Nat.le_of_ble_eq_true rfl, Nat.le_of_ble_eq_true rfl⟩) ⟨kP_blind, va_recv hKc hPc (ci := 19) (q0 := 0) rfl rfl, kP_go hPc hKc hDc hFc hM hS⟩ rfl rfl hl.1 rfl (lv_room (Nat.le_of_ble_eq_true rfl)) dL_law_236 ⟨Nat.le_of_ble_eq_true rfl, Nat.le_of_ble_eq_true rfl⟩) hS (fun q _ h => hFc q h) hFc (fun r2 u t H1 locs ht hvm hw hB hz1 hk1 hS => ?_)
  obtain ⟨hP, hD, hK⟩ := kJ (wr := []) (w1 := [(mo, .inr (19, [.int 0, .int 0, .int 0, .int 0, .int 0, .int 0, .int 0, .ref ti, .ref si, .ref lo, .ref lh, .ref lk, .ref sp, .ref st, .ref pa, .ref br, .ref sg, .int 0, .int 0, .int 0, .int 0, .int 0, .int 0, .long 0, .long 0, .long 0, .long 0, .int 1]))]) (t1 := []) hP hD hK [0] [] rfl rfl (by decide) (by decide) hk1 hFc ht hvm hB
  generalize H1 = H at hP hS ⊢
  have hP : va_P (dC, dI) vwCl [(mo, .inr (19, [.int 0, .int 0, .int 0, .int 0, .int 0, .int 0, .int 0, .ref ti, .ref si, .ref lo, .ref lh, .ref lk, .ref sp, .ref st, .ref pa, .ref br, .ref sg, .int 0, .int 0, .int 0, .int 0, .int 0, .int 0, .long 0, .long 0, .long 0, .long 0, .int 1]))] H := hP
  have hD : va_D A [(mo, .inr (19, [.int 0, .int 0, .int 0, .int 0, .int 0, .int 0, .int 0, .ref ti, .ref si, .ref lo, .ref lh, .ref lk, .ref sp, .ref st, .ref pa, .ref br, .ref sg, .int 0, .int 0, .int 0, .int 0, .int 0, .int 0, .long 0, .long 0, .long 0, .long 0, .int 1]))] := hD
  have hK : va_K (dC, dI) vwCl [(co, .long)] s := hK
  obtain rfl : (-1) = r2 := hw
  refine lv_istore (lv' := [(7, .int (-1)), (6, .int 1), (0, .ref b), (1, .ref x), (2, .ref mo), (3, .ref ou), (4, .ref od_), (5, .int 0)]) hx hb dL_law_239 hl (by decide) rfl (fun ls hl => ?_)
  refine lv_aload_n hx hb dL_law_241 rfl (lv_at hl 4 rfl) ?_
  have hPc := hP.sub (ws' := [(mo, .inr (19, [.int 0, .int 0, .int 0, .int 0, .int 0, .int 0, .int 0, .ref ti, .ref si, .ref lo, .ref lh, .ref lk, .ref sp, .ref st, .ref pa, .ref br, .ref sg, .int 0, .int 0, .int 0, .int 0, .int 0, .int 0, .long 0, .long 0, .long 0, .long 0, .int 1]))]) [0] rfl
  have hDc := hD.sub (ws' := [(mo, .inr (19, [.int 0, .int 0, .int 0, .int 0, .int 0, .int 0, .int 0, .ref ti, .ref si, .ref lo, .ref lh, .ref lk, .ref sp, .ref st, .ref pa, .ref br, .ref sg, .int 0, .int 0, .int 0, .int 0, .int 0, .int 0, .long 0, .long 0, .long 0, .long 0, .int 1]))]) [0] (by decide) rfl
  have hKc := hK.sub (tys' := []) [] rfl
  have hFc := va_free (wc := [(mo, .inr (19, [.int 0, .int 0, .int 0, .int 0, .int 0, .int 0, .int 0, .ref ti, .ref si, .ref lo, .ref lh, .ref lk, .ref sp, .ref st, .ref pa, .ref br, .ref sg, .int 0, .int 0, .int 0, .int 0, .int 0, .int 0, .long 0, .long 0, .long 0, .long 0, .int 1]))]) hD hS hA [0] rfl
  refine va_calli (va_runV (As := []) (rest := []) ⟨hx, hb, hml, hown, hts⟩ (k_m_thrown l dC dI z zK zV mo ti si lo lh lk sp st pa br sg 0 0 0 0 0 0 0 0 0 0 0 0 0 0 0 0 0 1 H.size) (cwV 0 hts hL_X15_thrown_100 rfl rfl rfl (by decide +kernel) ⟨Nat.le_of_ble_eq_true rfl, Nat.le_of_ble_eq_true rfl⟩) ⟨kP_blind, va_recv hKc hPc (ci := 19) (q0 := 0) rfl rfl, kP_go hPc hKc hDc hFc hM hS⟩ rfl rfl hl.1 rfl (lv_room (Nat.le_of_ble_eq_true rfl)) dL_law_242 ⟨Nat.le_of_ble_eq_true rfl, Nat.le_of_ble_eq_true rfl⟩) hS (fun q _ h => hFc q h) hFc (fun r3 u t H1 locs ht hvm hw hB hz1 hk1 hS => ?_)
  obtain ⟨hP, hD, hK⟩ := kJ (wr := []) (w1 := [(mo, .inr (19, [.int 0, .int 0, .int 0, .int 0, .int 0, .int 0, .int 0, .ref ti, .ref si, .ref lo, .ref lh, .ref lk, .ref sp, .ref st, .ref pa, .ref br, .ref sg, .int 0, .int 0, .int 0, .int 0, .int 0, .int 0, .long 0, .long 0, .long 0, .long 0, .int 1]))]) (t1 := []) hP hD hK [0] [] rfl rfl (by decide) (by decide) hk1 hFc ht hvm hB
  generalize H1 = H at hP hS ⊢
  have hP : va_P (dC, dI) vwCl [(mo, .inr (19, [.int 0, .int 0, .int 0, .int 0, .int 0, .int 0, .int 0, .ref ti, .ref si, .ref lo, .ref lh, .ref lk, .ref sp, .ref st, .ref pa, .ref br, .ref sg, .int 0, .int 0, .int 0, .int 0, .int 0, .int 0, .long 0, .long 0, .long 0, .long 0, .int 1]))] H := hP
  have hD : va_D A [(mo, .inr (19, [.int 0, .int 0, .int 0, .int 0, .int 0, .int 0, .int 0, .ref ti, .ref si, .ref lo, .ref lh, .ref lk, .ref sp, .ref st, .ref pa, .ref br, .ref sg, .int 0, .int 0, .int 0, .int 0, .int 0, .int 0, .long 0, .long 0, .long 0, .long 0, .int 1]))] := hD
  have hK : va_K (dC, dI) vwCl [(co, .long)] s := hK
  obtain rfl : 1 = r3 := hw
  refine lv_iload hx hb dL_law_245 (lv_at hl 1 rfl) ?_
  refine lv_icmp_eq (tgt := 252) hx hb dL_law_247 (by decide) (fun _ => ?_) (fun c_ => absurd (by decide +kernel) c_)
  refine lv_iload hx hb dL_law_252 (lv_at hl 1 rfl) ?_
  refine lv_if_ne (tgt := 269) hx hb dL_law_254 (by decide) (fun _ => ?_) (fun c_ => absurd c_ (by decide +kernel))
  refine lv_goto (tgt := 1684) hx hb dL_law_269 (by decide) ?_
  exact la_tail (dC := dC) (dI := dI) hst C0 hM hA hAl H locs hS ls (lv_sub hl [2, 7] rfl) (by omega) (by omega)
set_option maxHeartbeats 8000000 in
set_option maxRecDepth 100000 in
theorem la_current_good {p : Program} {l : Launch} {e : Env} {s : State} {m : MethodId} {below : List Frame} {meth : Method} {c : Code} {dC : Nat → ClassId} {dI : Nat → Nat → Nat} {z zK zV : Nat → Nat} {b : Nat} {xs : Nat → Int32} {A : Nat → Prop} (hst : l.stackTraces = false) (C0 : lw_At p s m meth c b 4 xs) (hM : am z zK zV A s s.heap) (hA : ∀ q : Nat, s.heap.size ≤ q → A q) (hAl : ∀ q : Nat, A q → s.heap.size ≤ q) (sh : Nat) (rg : Nat) (dk : Nat) (hd : Nat) (lg : Nat) (pl : Nat) (pr : Nat) (x : Nat) (tl : Nat) (tw : Nat) (p0 : Int32) (p1 : Int32) (mo : Nat) (ti : Nat) (si : Nat) (lo : Nat) (lh : Nat) (lk : Nat) (sp : Nat) (st : Nat) (pa : Nat) (br : Nat) (sg : Nat) (ou : Nat) (co : ClassId) (of_ : Nat → Int64) (od_ : Nat) (hg0 : ((-9999 : Int32) ≤ p0 ∧ p0 ≤ 9999) ∧ (-9999 : Int32) ≤ p1 ∧ p1 ≤ 9999) (hs1 : xs 1 = p0) (hs2 : xs 2 = p1) (H : Heap) (locs : List Loc) (hK : va_K (dC, dI) vwCl [(co, .long)] s) (hP : va_P (dC, dI) vwCl [(x, .inr (15, [.ref sh, .ref tl, .ref tw, .int 0])), (tl, .inr (3, [.int 0, .ref (z 0), .int 0])), (sh, .inr (13, [.ref rg, .ref dk, .ref hd, .ref lg, .ref pl, .ref pr, .int 0, .int 0, .int 0, .int 0, .int 0, .int 0, .int 0, .int 0, .int 0, .int 0, .int 0])), (mo, .inr (19, [.int 0, .int 0, .int 0, .int 0, .int 0, .int 0, .int 0, .ref ti, .ref si, .ref lo, .ref lh, .ref lk, .ref sp, .ref st, .ref pa, .ref br, .ref sg, .int 0, .int 0, .int 0, .int 0, .int 0, .int 0, .long 0, .long 0, .long 0, .long 0, .int 0])), (ou, .inl (co, 1, .inr (.inl of_)))] H) (hD : va_D A [(x, .inr (15, [.ref sh, .ref tl, .ref tw, .int 0])), (tl, .inr (3, [.int 0, .ref (z 0), .int 0])), (sh, .inr (13, [.ref rg, .ref dk, .ref hd, .ref lg, .ref pl, .ref pr, .int 0, .int 0, .int 0, .int 0, .int 0, .int 0, .int 0, .int 0, .int 0, .int 0, .int 0])), (mo, .inr (19, [.int 0, .int 0, .int 0, .int 0, .int 0, .int 0, .int 0, .ref ti, .ref si, .ref lo, .ref lh, .ref lk, .ref sp, .ref st, .ref pa, .ref br, .ref sg, .int 0, .int 0, .int 0, .int 0, .int 0, .int 0, .long 0, .long 0, .long 0, .long 0, .int 0])), (ou, .inl (co, 1, .inr (.inl of_)))]) (hS : va_S A s.heap H locs) (ls : Array Slot) (hl : lv_has ls 10 [(0, .ref b), (1, .ref x), (2, .ref mo), (3, .ref ou), (4, .ref od_), (5, .int 0)]) : W p l e room_1 s m #[Value.ref b] below meth c H locs 100 1400 (lw_Z below #[Value.ref b] s) (F0 m 272 ls []) := by
  obtain ⟨hx, hb, hr, hml, hown, hts, hX, hbl, hlocks, hgv⟩ := id C0
  have hbA : ¬ A b := fun h => absurd (hAl b h) (Nat.not_le.mpr hbl)
  refine lv_aload_n hx hb dL_law_272 rfl (lv_at hl 1 rfl) ?_
  refine lv_aload_n hx hb dL_law_273 rfl (lv_at hl 0 rfl) ?_
  refine lv_iload hx hb dL_law_274 (lv_at hl 5 rfl) ?_
  refine lv_iconst (v := 1) hx hb dL_law_276 (by decide) ?_
  refine lv_iadd hx hb dL_law_277 ?_
  refine kc_i (y := 1) (by decide +kernel) ?_
  refine va_sld hx hb hX hbl hbA hS (pk_in 1 4 (by decide) rfl) dL_law_278 ?_
  refine kc_i (y := p0) (hs1 : xs 1 = p0) ?_
  refine lv_aload_n hx hb dL_law_279 rfl (lv_at hl 0 rfl) ?_
  refine lv_iload hx hb dL_law_280 (lv_at hl 5 rfl) ?_
  refine lv_iconst (v := 2) hx hb dL_law_282 (by decide) ?_
  refine lv_iadd hx hb dL_law_283 ?_
  refine kc_i (y := 2) (by decide +kernel) ?_
  refine va_sld hx hb hX hbl hbA hS (pk_in 2 4 (by decide) rfl) dL_law_284 ?_
  refine kc_i (y := p1) (hs2 : xs 2 = p1) ?_
  refine lv_aload_n hx hb dL_law_285 rfl (lv_at hl 3 rfl) ?_
  have hPc := hP.sub (ws' := [(x, .inr (15, [.ref sh, .ref tl, .ref tw, .int 0])), (tl, .inr (3, [.int 0, .ref (z 0), .int 0])), (sh, .inr (13, [.ref rg, .ref dk, .ref hd, .ref lg, .ref pl, .ref pr, .int 0, .int 0, .int 0, .int 0, .int 0, .int 0, .int 0, .int 0, .int 0, .int 0, .int 0])), (ou, .inl (co, 1, .inr (.inl of_)))]) [0, 1, 2, 4] rfl
  have hDc := hD.sub (ws' := [(x, .inr (15, [.ref sh, .ref tl, .ref tw, .int 0])), (tl, .inr (3, [.int 0, .ref (z 0), .int 0])), (sh, .inr (13, [.ref rg, .ref dk, .ref hd, .ref lg, .ref pl, .ref pr, .int 0, .int 0, .int 0, .int 0, .int 0, .int 0, .int 0, .int 0, .int 0, .int 0, .int 0])), (ou, .inl (co, 1, .inr (.inl of_)))]) [0, 1, 2, 4] (by decide) rfl
  have hKc := hK.sub (tys' := [(co, .long)]) [0] rfl
  have hFc := va_free (wc := [(x, .inr (15, [.ref sh, .ref tl, .ref tw, .int 0])), (tl, .inr (3, [.int 0, .ref (z 0), .int 0])), (sh, .inr (13, [.ref rg, .ref dk, .ref hd, .ref lg, .ref pl, .ref pr, .int 0, .int 0, .int 0, .int 0, .int 0, .int 0, .int 0, .int 0, .int 0, .int 0, .int 0])), (ou, .inl (co, 1, .inr (.inl of_)))]) hD hS hA [0, 1, 2, 4] rfl
  refine va_calli (vx_runSW (As := [.ref x, .int p0, .int p1, .ref ou]) (rest := []) ⟨hx, hb, hml, hown, hts⟩ (k_l_current_good l dC dI z zK zV sh rg dk hd lg pl pr x tl tw p0 p1 ou co of_ H.size (hg0)) (vx_cwSW 4 hts hL_L_current_103 rfl rfl rfl (by decide +kernel) ⟨Nat.le_of_ble_eq_true rfl, Nat.le_of_ble_eq_true rfl⟩) ⟨kP_blind, kP_go hPc hKc hDc hFc hM hS⟩ rfl rfl hl.1 rfl (lv_room (Nat.le_of_ble_eq_true rfl)) dL_law_286 ⟨Nat.le_of_ble_eq_true rfl, Nat.le_of_ble_eq_true rfl⟩) hS (fun q _ h => hFc q h) hFc (fun r1 u t H1 locs ht hvm hw hB hz1 hk1 hS => ?_)
  obtain ⟨hP, hD, hK⟩ := kJ (wr := [(mo, .inr (19, [.int 0, .int 0, .int 0, .int 0, .int 0, .int 0, .int 0, .ref ti, .ref si, .ref lo, .ref lh, .ref lk, .ref sp, .ref st, .ref pa, .ref br, .ref sg, .int 0, .int 0, .int 0, .int 0, .int 0, .int 0, .long 0, .long 0, .long 0, .long 0, .int 0]))]) (w1 := [(ou, .inl (co, 1, .inr (.inl (vp_updL of_ 0 0))))]) (t1 := []) hP hD hK [0, 1, 2, 4] [3] rfl rfl (by decide) (by decide) hk1 hFc ht hvm hB
  generalize H1 = H at hP hS ⊢
  have hP : va_P (dC, dI) vwCl [(mo, .inr (19, [.int 0, .int 0, .int 0, .int 0, .int 0, .int 0, .int 0, .ref ti, .ref si, .ref lo, .ref lh, .ref lk, .ref sp, .ref st, .ref pa, .ref br, .ref sg, .int 0, .int 0, .int 0, .int 0, .int 0, .int 0, .long 0, .long 0, .long 0, .long 0, .int 0])), (ou, .inl (co, 1, .inr (.inl (vp_updL of_ 0 0))))] H := hP
  have hD : va_D A [(mo, .inr (19, [.int 0, .int 0, .int 0, .int 0, .int 0, .int 0, .int 0, .ref ti, .ref si, .ref lo, .ref lh, .ref lk, .ref sp, .ref st, .ref pa, .ref br, .ref sg, .int 0, .int 0, .int 0, .int 0, .int 0, .int 0, .long 0, .long 0, .long 0, .long 0, .int 0])), (ou, .inl (co, 1, .inr (.inl (vp_updL of_ 0 0))))] := hD
  have hK : va_K (dC, dI) vwCl [(co, .long)] s := hK
  obtain rfl : 0 = r1 := hw
  refine lv_istore (lv' := [(6, .int 0), (0, .ref b), (1, .ref x), (2, .ref mo), (3, .ref ou), (4, .ref od_), (5, .int 0)]) hx hb dL_law_289 hl (by decide) rfl (fun ls hl => ?_)
  refine lv_aload_n hx hb dL_law_291 rfl (lv_at hl 3 rfl) ?_
  refine lv_aload_n hx hb dL_law_292 rfl (lv_at hl 1 rfl) ?_
  refine lv_iload hx hb dL_law_293 (lv_at hl 6 rfl) ?_
  refine lv_iconst (v := 1) hx hb dL_law_295 (by decide) ?_
  refine lv_iadd hx hb dL_law_296 ?_
  refine kc_i (y := 1) (by decide +kernel) ?_
  refine va_sld hx hb hX hbl hbA hS (pk_in 1 4 (by decide) rfl) dL_law_297 ?_
  refine kc_i (y := p0) (hs1 : xs 1 = p0) ?_
  refine lv_aload_n hx hb dL_law_298 rfl (lv_at hl 1 rfl) ?_
  refine lv_iload hx hb dL_law_299 (lv_at hl 6 rfl) ?_
  refine lv_iconst (v := 2) hx hb dL_law_301 (by decide) ?_
  refine lv_iadd hx hb dL_law_302 ?_
  refine kc_i (y := 2) (by decide +kernel) ?_
  refine va_sld hx hb hX hbl hbA hS (pk_in 2 4 (by decide) rfl) dL_law_303 ?_
  refine kc_i (y := p1) (hs2 : xs 2 = p1) ?_
  have hPc := hP.sub (ws' := [(mo, .inr (19, [.int 0, .int 0, .int 0, .int 0, .int 0, .int 0, .int 0, .ref ti, .ref si, .ref lo, .ref lh, .ref lk, .ref sp, .ref st, .ref pa, .ref br, .ref sg, .int 0, .int 0, .int 0, .int 0, .int 0, .int 0, .long 0, .long 0, .long 0, .long 0, .int 0]))]) [0] rfl
  have hDc := hD.sub (ws' := [(mo, .inr (19, [.int 0, .int 0, .int 0, .int 0, .int 0, .int 0, .int 0, .ref ti, .ref si, .ref lo, .ref lh, .ref lk, .ref sp, .ref st, .ref pa, .ref br, .ref sg, .int 0, .int 0, .int 0, .int 0, .int 0, .int 0, .long 0, .long 0, .long 0, .long 0, .int 0]))]) [0] (by decide) rfl
  have hKc := hK.sub (tys' := []) [] rfl
  have hFc := va_free (wc := [(mo, .inr (19, [.int 0, .int 0, .int 0, .int 0, .int 0, .int 0, .int 0, .ref ti, .ref si, .ref lo, .ref lh, .ref lk, .ref sp, .ref st, .ref pa, .ref br, .ref sg, .int 0, .int 0, .int 0, .int 0, .int 0, .int 0, .long 0, .long 0, .long 0, .long 0, .int 0]))]) hD hS hA [0] rfl
  refine va_calli (va_runV (As := [.int p0, .int p1]) (rest := []) ⟨hx, hb, hml, hown, hts⟩ (k_m_current_good l dC dI z zK zV p0 p1 mo ti si lo lh lk sp st pa br sg 0 H.size (hg0)) (cwV 2 hts hL_X15_current_105 rfl rfl rfl (by decide +kernel) ⟨Nat.le_of_ble_eq_true rfl, Nat.le_of_ble_eq_true rfl⟩) ⟨kP_blind, va_recv hKc hPc (ci := 19) (q0 := 0) rfl rfl, kP_go hPc hKc hDc hFc hM hS⟩ rfl rfl hl.1 rfl (lv_room (Nat.le_of_ble_eq_true rfl)) dL_law_304 ⟨Nat.le_of_ble_eq_true rfl, Nat.le_of_ble_eq_true rfl⟩) hS (fun q _ h => hFc q h) hFc (fun r2 u t H1 locs ht hvm hw hB hz1 hk1 hS => ?_)
  obtain ⟨hP, hD, hK⟩ := kJ (wr := [(ou, .inl (co, 1, .inr (.inl (vp_updL of_ 0 0))))]) (w1 := [(mo, .inr (19, [.int 0, .int 0, .int p0, .int p1, .int 0, .int 0, .int 0, .ref ti, .ref si, .ref lo, .ref lh, .ref lk, .ref sp, .ref st, .ref pa, .ref br, .ref sg, .int 0, .int 0, .int 0, .int 0, .int 0, .int 0, .long 0, .long 0, .long 0, .long 0, .int 0]))]) (t1 := []) hP hD hK [0] [1] rfl rfl (by decide) (by decide) hk1 hFc ht hvm hB
  generalize H1 = H at hP hS ⊢
  have hP : va_P (dC, dI) vwCl [(ou, .inl (co, 1, .inr (.inl (vp_updL of_ 0 0)))), (mo, .inr (19, [.int 0, .int 0, .int p0, .int p1, .int 0, .int 0, .int 0, .ref ti, .ref si, .ref lo, .ref lh, .ref lk, .ref sp, .ref st, .ref pa, .ref br, .ref sg, .int 0, .int 0, .int 0, .int 0, .int 0, .int 0, .long 0, .long 0, .long 0, .long 0, .int 0]))] H := hP
  have hD : va_D A [(ou, .inl (co, 1, .inr (.inl (vp_updL of_ 0 0)))), (mo, .inr (19, [.int 0, .int 0, .int p0, .int p1, .int 0, .int 0, .int 0, .ref ti, .ref si, .ref lo, .ref lh, .ref lk, .ref sp, .ref st, .ref pa, .ref br, .ref sg, .int 0, .int 0, .int 0, .int 0, .int 0, .int 0, .long 0, .long 0, .long 0, .long 0, .int 0]))] := hD
  have hK : va_K (dC, dI) vwCl [(co, .long)] s := hK
  obtain rfl : 0 = r2 := hw
  refine lv_istore (lv' := [(7, .int 0), (6, .int 0), (0, .ref b), (1, .ref x), (2, .ref mo), (3, .ref ou), (4, .ref od_), (5, .int 0)]) hx hb dL_law_307 hl (by decide) rfl (fun ls hl => ?_)
  refine lv_aload_n hx hb dL_law_309 rfl (lv_at hl 4 rfl) ?_
  have hPc := hP.sub (ws' := [(mo, .inr (19, [.int 0, .int 0, .int p0, .int p1, .int 0, .int 0, .int 0, .ref ti, .ref si, .ref lo, .ref lh, .ref lk, .ref sp, .ref st, .ref pa, .ref br, .ref sg, .int 0, .int 0, .int 0, .int 0, .int 0, .int 0, .long 0, .long 0, .long 0, .long 0, .int 0]))]) [1] rfl
  have hDc := hD.sub (ws' := [(mo, .inr (19, [.int 0, .int 0, .int p0, .int p1, .int 0, .int 0, .int 0, .ref ti, .ref si, .ref lo, .ref lh, .ref lk, .ref sp, .ref st, .ref pa, .ref br, .ref sg, .int 0, .int 0, .int 0, .int 0, .int 0, .int 0, .long 0, .long 0, .long 0, .long 0, .int 0]))]) [1] (by decide) rfl
  have hKc := hK.sub (tys' := []) [] rfl
  have hFc := va_free (wc := [(mo, .inr (19, [.int 0, .int 0, .int p0, .int p1, .int 0, .int 0, .int 0, .ref ti, .ref si, .ref lo, .ref lh, .ref lk, .ref sp, .ref st, .ref pa, .ref br, .ref sg, .int 0, .int 0, .int 0, .int 0, .int 0, .int 0, .long 0, .long 0, .long 0, .long 0, .int 0]))]) hD hS hA [1] rfl
  refine va_calli (va_runV (As := []) (rest := []) ⟨hx, hb, hml, hown, hts⟩ (k_m_thrown l dC dI z zK zV mo ti si lo lh lk sp st pa br sg 0 0 p0 p1 0 0 0 0 0 0 0 0 0 0 0 0 0 0 H.size) (cwV 0 hts hL_X15_thrown_100 rfl rfl rfl (by decide +kernel) ⟨Nat.le_of_ble_eq_true rfl, Nat.le_of_ble_eq_true rfl⟩) ⟨kP_blind, va_recv hKc hPc (ci := 19) (q0 := 0) rfl rfl, kP_go hPc hKc hDc hFc hM hS⟩ rfl rfl hl.1 rfl (lv_room (Nat.le_of_ble_eq_true rfl)) dL_law_310 ⟨Nat.le_of_ble_eq_true rfl, Nat.le_of_ble_eq_true rfl⟩) hS (fun q _ h => hFc q h) hFc (fun r3 u t H1 locs ht hvm hw hB hz1 hk1 hS => ?_)
  obtain ⟨hP, hD, hK⟩ := kJ (wr := [(ou, .inl (co, 1, .inr (.inl (vp_updL of_ 0 0))))]) (w1 := [(mo, .inr (19, [.int 0, .int 0, .int p0, .int p1, .int 0, .int 0, .int 0, .ref ti, .ref si, .ref lo, .ref lh, .ref lk, .ref sp, .ref st, .ref pa, .ref br, .ref sg, .int 0, .int 0, .int 0, .int 0, .int 0, .int 0, .long 0, .long 0, .long 0, .long 0, .int 0]))]) (t1 := []) hP hD hK [1] [0] rfl rfl (by decide) (by decide) hk1 hFc ht hvm hB
  generalize H1 = H at hP hS ⊢
  have hP : va_P (dC, dI) vwCl [(ou, .inl (co, 1, .inr (.inl (vp_updL of_ 0 0)))), (mo, .inr (19, [.int 0, .int 0, .int p0, .int p1, .int 0, .int 0, .int 0, .ref ti, .ref si, .ref lo, .ref lh, .ref lk, .ref sp, .ref st, .ref pa, .ref br, .ref sg, .int 0, .int 0, .int 0, .int 0, .int 0, .int 0, .long 0, .long 0, .long 0, .long 0, .int 0]))] H := hP
  have hD : va_D A [(ou, .inl (co, 1, .inr (.inl (vp_updL of_ 0 0)))), (mo, .inr (19, [.int 0, .int 0, .int p0, .int p1, .int 0, .int 0, .int 0, .ref ti, .ref si, .ref lo, .ref lh, .ref lk, .ref sp, .ref st, .ref pa, .ref br, .ref sg, .int 0, .int 0, .int 0, .int 0, .int 0, .int 0, .long 0, .long 0, .long 0, .long 0, .int 0]))] := hD
  have hK : va_K (dC, dI) vwCl [(co, .long)] s := hK
  obtain rfl : 0 = r3 := hw
  refine lv_iload hx hb dL_law_313 (lv_at hl 1 rfl) ?_
  refine lv_icmp_eq (tgt := 320) hx hb dL_law_315 (by decide) (fun _ => ?_) (fun c_ => absurd (by decide +kernel) c_)
  refine lv_iload hx hb dL_law_320 (lv_at hl 1 rfl) ?_
  refine lv_if_ne (tgt := 344) hx hb dL_law_322 (by decide) (fun c_ => absurd (by decide +kernel) c_) (fun _ => ?_)
  refine lv_aload_n hx hb dL_law_325 rfl (lv_at hl 5 rfl) ?_
  refine lv_iconst (v := 0) hx hb dL_law_326 (by decide) ?_
  refine va_lald hx hb hK hP 0 0 rfl rfl (pk_in 0 1 (by decide) rfl) dL_law_327 ?_
  refine kc_v (y := .long 0) rfl ?_
  refine lv_iload hx hb dL_law_328 (lv_at hl 0 rfl) ?_
  refine lv_if_eq (tgt := 337) hx hb dL_law_330 (by decide) (fun _ => ?_) (fun c_ => absurd (by decide +kernel) c_)
  refine lv_lconst (v := 0) hx hb dL_law_337 (by decide) ?_
  refine W.lcmp hx hb dL_law_338 ?_
  refine kc_i (y := 0) (by decide +kernel) ?_
  refine lv_if_eq (tgt := 344) hx hb dL_law_339 (by decide) (fun _ => ?_) (fun c_ => absurd (by decide +kernel) c_)
  refine lv_goto (tgt := 1684) hx hb dL_law_344 (by decide) ?_
  exact la_tail (dC := dC) (dI := dI) hst C0 hM hA hAl H locs hS ls (lv_sub hl [2, 7] rfl) (by omega) (by omega)
set_option maxHeartbeats 8000000 in
set_option maxRecDepth 100000 in
theorem la_current_bad {p : Program} {l : Launch} {e : Env} {s : State} {m : MethodId} {below : List Frame} {meth : Method} {c : Code} {dC : Nat → ClassId} {dI : Nat → Nat → Nat} {z zK zV : Nat → Nat} {b : Nat} {xs : Nat → Int32} {A : Nat → Prop} (hst : l.stackTraces = false) (C0 : lw_At p s m meth c b 4 xs) (hM : am z zK zV A s s.heap) (hA : ∀ q : Nat, s.heap.size ≤ q → A q) (hAl : ∀ q : Nat, A q → s.heap.size ≤ q) (sh : Nat) (rg : Nat) (dk : Nat) (hd : Nat) (lg : Nat) (pl : Nat) (pr : Nat) (x : Nat) (tl : Nat) (tw : Nat) (p0 : Int32) (p1 : Int32) (mo : Nat) (ti : Nat) (si : Nat) (lo : Nat) (lh : Nat) (lk : Nat) (sp : Nat) (st : Nat) (pa : Nat) (br : Nat) (sg : Nat) (ou : Nat) (co : ClassId) (of_ : Nat → Int64) (od_ : Nat) (hb0 : ¬ (((-9999 : Int32) ≤ p0 ∧ p0 ≤ 9999) ∧ (-9999 : Int32) ≤ p1 ∧ p1 ≤ 9999)) (hs1 : xs 1 = p0) (hs2 : xs 2 = p1) (H : Heap) (locs : List Loc) (hK : va_K (dC, dI) vwCl [(co, .long)] s) (hP : va_P (dC, dI) vwCl [(x, .inr (15, [.ref sh, .ref tl, .ref tw, .int 0])), (sh, .inr (13, [.ref rg, .ref dk, .ref hd, .ref lg, .ref pl, .ref pr, .int 0, .int 0, .int 0, .int 0, .int 0, .int 0, .int 0, .int 0, .int 0, .int 0, .int 0])), (mo, .inr (19, [.int 0, .int 0, .int 0, .int 0, .int 0, .int 0, .int 0, .ref ti, .ref si, .ref lo, .ref lh, .ref lk, .ref sp, .ref st, .ref pa, .ref br, .ref sg, .int 0, .int 0, .int 0, .int 0, .int 0, .int 0, .long 0, .long 0, .long 0, .long 0, .int 0])), (ou, .inl (co, 1, .inr (.inl of_)))] H) (hD : va_D A [(x, .inr (15, [.ref sh, .ref tl, .ref tw, .int 0])), (sh, .inr (13, [.ref rg, .ref dk, .ref hd, .ref lg, .ref pl, .ref pr, .int 0, .int 0, .int 0, .int 0, .int 0, .int 0, .int 0, .int 0, .int 0, .int 0, .int 0])), (mo, .inr (19, [.int 0, .int 0, .int 0, .int 0, .int 0, .int 0, .int 0, .ref ti, .ref si, .ref lo, .ref lh, .ref lk, .ref sp, .ref st, .ref pa, .ref br, .ref sg, .int 0, .int 0, .int 0, .int 0, .int 0, .int 0, .long 0, .long 0, .long 0, .long 0, .int 0])), (ou, .inl (co, 1, .inr (.inl of_)))]) (hS : va_S A s.heap H locs) (ls : Array Slot) (hl : lv_has ls 10 [(0, .ref b), (1, .ref x), (2, .ref mo), (3, .ref ou), (4, .ref od_), (5, .int 0)]) : W p l e room_1 s m #[Value.ref b] below meth c H locs 100 1400 (lw_Z below #[Value.ref b] s) (F0 m 272 ls []) := by
  obtain ⟨hx, hb, hr, hml, hown, hts, hX, hbl, hlocks, hgv⟩ := id C0
  have hbA : ¬ A b := fun h => absurd (hAl b h) (Nat.not_le.mpr hbl)
  refine lv_aload_n hx hb dL_law_272 rfl (lv_at hl 1 rfl) ?_
  refine lv_aload_n hx hb dL_law_273 rfl (lv_at hl 0 rfl) ?_
  refine lv_iload hx hb dL_law_274 (lv_at hl 5 rfl) ?_
  refine lv_iconst (v := 1) hx hb dL_law_276 (by decide) ?_
  refine lv_iadd hx hb dL_law_277 ?_
  refine kc_i (y := 1) (by decide +kernel) ?_
  refine va_sld hx hb hX hbl hbA hS (pk_in 1 4 (by decide) rfl) dL_law_278 ?_
  refine kc_i (y := p0) (hs1 : xs 1 = p0) ?_
  refine lv_aload_n hx hb dL_law_279 rfl (lv_at hl 0 rfl) ?_
  refine lv_iload hx hb dL_law_280 (lv_at hl 5 rfl) ?_
  refine lv_iconst (v := 2) hx hb dL_law_282 (by decide) ?_
  refine lv_iadd hx hb dL_law_283 ?_
  refine kc_i (y := 2) (by decide +kernel) ?_
  refine va_sld hx hb hX hbl hbA hS (pk_in 2 4 (by decide) rfl) dL_law_284 ?_
  refine kc_i (y := p1) (hs2 : xs 2 = p1) ?_
  refine lv_aload_n hx hb dL_law_285 rfl (lv_at hl 3 rfl) ?_
  have hPc := hP.sub (ws' := [(x, .inr (15, [.ref sh, .ref tl, .ref tw, .int 0])), (sh, .inr (13, [.ref rg, .ref dk, .ref hd, .ref lg, .ref pl, .ref pr, .int 0, .int 0, .int 0, .int 0, .int 0, .int 0, .int 0, .int 0, .int 0, .int 0, .int 0])), (ou, .inl (co, 1, .inr (.inl of_)))]) [0, 1, 3] rfl
  have hDc := hD.sub (ws' := [(x, .inr (15, [.ref sh, .ref tl, .ref tw, .int 0])), (sh, .inr (13, [.ref rg, .ref dk, .ref hd, .ref lg, .ref pl, .ref pr, .int 0, .int 0, .int 0, .int 0, .int 0, .int 0, .int 0, .int 0, .int 0, .int 0, .int 0])), (ou, .inl (co, 1, .inr (.inl of_)))]) [0, 1, 3] (by decide) rfl
  have hKc := hK.sub (tys' := [(co, .long)]) [0] rfl
  have hFc := va_free (wc := [(x, .inr (15, [.ref sh, .ref tl, .ref tw, .int 0])), (sh, .inr (13, [.ref rg, .ref dk, .ref hd, .ref lg, .ref pl, .ref pr, .int 0, .int 0, .int 0, .int 0, .int 0, .int 0, .int 0, .int 0, .int 0, .int 0, .int 0])), (ou, .inl (co, 1, .inr (.inl of_)))]) hD hS hA [0, 1, 3] rfl
  refine va_calli (vx_runSW (As := [.ref x, .int p0, .int p1, .ref ou]) (rest := []) ⟨hx, hb, hml, hown, hts⟩ (k_l_current_bad l dC dI z zK zV sh rg dk hd lg pl pr x tl tw p0 p1 ou co of_ H.size hst (hb0)) (vx_cwSW 4 hts hL_L_current_103 rfl rfl rfl (by decide +kernel) ⟨Nat.le_of_ble_eq_true rfl, Nat.le_of_ble_eq_true rfl⟩) ⟨kP_blind, kP_go hPc hKc hDc hFc hM hS⟩ rfl rfl hl.1 rfl (lv_room (Nat.le_of_ble_eq_true rfl)) dL_law_286 ⟨Nat.le_of_ble_eq_true rfl, Nat.le_of_ble_eq_true rfl⟩) hS (fun q _ h => hFc q h) hFc (fun r1 u t H1 locs ht hvm hw hB hz1 hk1 hS => ?_)
  obtain ⟨hP, hD, hK⟩ := kJ (wr := [(mo, .inr (19, [.int 0, .int 0, .int 0, .int 0, .int 0, .int 0, .int 0, .ref ti, .ref si, .ref lo, .ref lh, .ref lk, .ref sp, .ref st, .ref pa, .ref br, .ref sg, .int 0, .int 0, .int 0, .int 0, .int 0, .int 0, .long 0, .long 0, .long 0, .long 0, .int 0]))]) (w1 := []) (t1 := []) hP hD hK [0, 1, 3] [2] rfl rfl (by decide) (by decide) hk1 hFc ht hvm hB
  generalize H1 = H at hP hS ⊢
  have hP : va_P (dC, dI) vwCl [(mo, .inr (19, [.int 0, .int 0, .int 0, .int 0, .int 0, .int 0, .int 0, .ref ti, .ref si, .ref lo, .ref lh, .ref lk, .ref sp, .ref st, .ref pa, .ref br, .ref sg, .int 0, .int 0, .int 0, .int 0, .int 0, .int 0, .long 0, .long 0, .long 0, .long 0, .int 0]))] H := hP
  have hD : va_D A [(mo, .inr (19, [.int 0, .int 0, .int 0, .int 0, .int 0, .int 0, .int 0, .ref ti, .ref si, .ref lo, .ref lh, .ref lk, .ref sp, .ref st, .ref pa, .ref br, .ref sg, .int 0, .int 0, .int 0, .int 0, .int 0, .int 0, .long 0, .long 0, .long 0, .long 0, .int 0]))] := hD
  have hK : va_K (dC, dI) vwCl [(co, .long)] s := hK
  obtain rfl : 1 = r1 := hw
  refine lv_istore (lv' := [(6, .int 1), (0, .ref b), (1, .ref x), (2, .ref mo), (3, .ref ou), (4, .ref od_), (5, .int 0)]) hx hb dL_law_289 hl (by decide) rfl (fun ls hl => ?_)
  refine lv_aload_n hx hb dL_law_291 rfl (lv_at hl 3 rfl) ?_
  refine lv_aload_n hx hb dL_law_292 rfl (lv_at hl 1 rfl) ?_
  refine lv_iload hx hb dL_law_293 (lv_at hl 6 rfl) ?_
  refine lv_iconst (v := 1) hx hb dL_law_295 (by decide) ?_
  refine lv_iadd hx hb dL_law_296 ?_
  refine kc_i (y := 1) (by decide +kernel) ?_
  refine va_sld hx hb hX hbl hbA hS (pk_in 1 4 (by decide) rfl) dL_law_297 ?_
  refine kc_i (y := p0) (hs1 : xs 1 = p0) ?_
  refine lv_aload_n hx hb dL_law_298 rfl (lv_at hl 1 rfl) ?_
  refine lv_iload hx hb dL_law_299 (lv_at hl 6 rfl) ?_
  refine lv_iconst (v := 2) hx hb dL_law_301 (by decide) ?_
  refine lv_iadd hx hb dL_law_302 ?_
  refine kc_i (y := 2) (by decide +kernel) ?_
  refine va_sld hx hb hX hbl hbA hS (pk_in 2 4 (by decide) rfl) dL_law_303 ?_
  refine kc_i (y := p1) (hs2 : xs 2 = p1) ?_
  have hPc := hP.sub (ws' := [(mo, .inr (19, [.int 0, .int 0, .int 0, .int 0, .int 0, .int 0, .int 0, .ref ti, .ref si, .ref lo, .ref lh, .ref lk, .ref sp, .ref st, .ref pa, .ref br, .ref sg, .int 0, .int 0, .int 0, .int 0, .int 0, .int 0, .long 0, .long 0, .long 0, .long 0, .int 0]))]) [0] rfl
  have hDc := hD.sub (ws' := [(mo, .inr (19, [.int 0, .int 0, .int 0, .int 0, .int 0, .int 0, .int 0, .ref ti, .ref si, .ref lo, .ref lh, .ref lk, .ref sp, .ref st, .ref pa, .ref br, .ref sg, .int 0, .int 0, .int 0, .int 0, .int 0, .int 0, .long 0, .long 0, .long 0, .long 0, .int 0]))]) [0] (by decide) rfl
  have hKc := hK.sub (tys' := []) [] rfl
  have hFc := va_free (wc := [(mo, .inr (19, [.int 0, .int 0, .int 0, .int 0, .int 0, .int 0, .int 0, .ref ti, .ref si, .ref lo, .ref lh, .ref lk, .ref sp, .ref st, .ref pa, .ref br, .ref sg, .int 0, .int 0, .int 0, .int 0, .int 0, .int 0, .long 0, .long 0, .long 0, .long 0, .int 0]))]) hD hS hA [0] rfl
  refine va_calli (va_runV (As := [.int p0, .int p1]) (rest := []) ⟨hx, hb, hml, hown, hts⟩ (k_m_current_bad l dC dI z zK zV p0 p1 mo ti si lo lh lk sp st pa br sg 0 H.size (hb0)) (cwV 2 hts hL_X15_current_105 rfl rfl rfl (by decide +kernel) ⟨Nat.le_of_ble_eq_true rfl, Nat.le_of_ble_eq_true rfl⟩) ⟨kP_blind, va_recv hKc hPc (ci := 19) (q0 := 0) rfl rfl, kP_go hPc hKc hDc hFc hM hS⟩ rfl rfl hl.1 rfl (lv_room (Nat.le_of_ble_eq_true rfl)) dL_law_304 ⟨Nat.le_of_ble_eq_true rfl, Nat.le_of_ble_eq_true rfl⟩) hS (fun q _ h => hFc q h) hFc (fun r2 u t H1 locs ht hvm hw hB hz1 hk1 hS => ?_)
  obtain ⟨hP, hD, hK⟩ := kJ (wr := []) (w1 := [(mo, .inr (19, [.int 0, .int 0, .int 0, .int 0, .int 0, .int 0, .int 0, .ref ti, .ref si, .ref lo, .ref lh, .ref lk, .ref sp, .ref st, .ref pa, .ref br, .ref sg, .int 0, .int 0, .int 0, .int 0, .int 0, .int 0, .long 0, .long 0, .long 0, .long 0, .int 1]))]) (t1 := []) hP hD hK [0] [] rfl rfl (by decide) (by decide) hk1 hFc ht hvm hB
  generalize H1 = H at hP hS ⊢
  have hP : va_P (dC, dI) vwCl [(mo, .inr (19, [.int 0, .int 0, .int 0, .int 0, .int 0, .int 0, .int 0, .ref ti, .ref si, .ref lo, .ref lh, .ref lk, .ref sp, .ref st, .ref pa, .ref br, .ref sg, .int 0, .int 0, .int 0, .int 0, .int 0, .int 0, .long 0, .long 0, .long 0, .long 0, .int 1]))] H := hP
  have hD : va_D A [(mo, .inr (19, [.int 0, .int 0, .int 0, .int 0, .int 0, .int 0, .int 0, .ref ti, .ref si, .ref lo, .ref lh, .ref lk, .ref sp, .ref st, .ref pa, .ref br, .ref sg, .int 0, .int 0, .int 0, .int 0, .int 0, .int 0, .long 0, .long 0, .long 0, .long 0, .int 1]))] := hD
  have hK : va_K (dC, dI) vwCl [(co, .long)] s := hK
  obtain rfl : 0 = r2 := hw
  refine lv_istore (lv' := [(7, .int 0), (6, .int 1), (0, .ref b), (1, .ref x), (2, .ref mo), (3, .ref ou), (4, .ref od_), (5, .int 0)]) hx hb dL_law_307 hl (by decide) rfl (fun ls hl => ?_)
  refine lv_aload_n hx hb dL_law_309 rfl (lv_at hl 4 rfl) ?_
  have hPc := hP.sub (ws' := [(mo, .inr (19, [.int 0, .int 0, .int 0, .int 0, .int 0, .int 0, .int 0, .ref ti, .ref si, .ref lo, .ref lh, .ref lk, .ref sp, .ref st, .ref pa, .ref br, .ref sg, .int 0, .int 0, .int 0, .int 0, .int 0, .int 0, .long 0, .long 0, .long 0, .long 0, .int 1]))]) [0] rfl
  have hDc := hD.sub (ws' := [(mo, .inr (19, [.int 0, .int 0, .int 0, .int 0, .int 0, .int 0, .int 0, .ref ti, .ref si, .ref lo, .ref lh, .ref lk, .ref sp, .ref st, .ref pa, .ref br, .ref sg, .int 0, .int 0, .int 0, .int 0, .int 0, .int 0, .long 0, .long 0, .long 0, .long 0, .int 1]))]) [0] (by decide) rfl
  have hKc := hK.sub (tys' := []) [] rfl
  have hFc := va_free (wc := [(mo, .inr (19, [.int 0, .int 0, .int 0, .int 0, .int 0, .int 0, .int 0, .ref ti, .ref si, .ref lo, .ref lh, .ref lk, .ref sp, .ref st, .ref pa, .ref br, .ref sg, .int 0, .int 0, .int 0, .int 0, .int 0, .int 0, .long 0, .long 0, .long 0, .long 0, .int 1]))]) hD hS hA [0] rfl
  refine va_calli (va_runV (As := []) (rest := []) ⟨hx, hb, hml, hown, hts⟩ (k_m_thrown l dC dI z zK zV mo ti si lo lh lk sp st pa br sg 0 0 0 0 0 0 0 0 0 0 0 0 0 0 0 0 0 1 H.size) (cwV 0 hts hL_X15_thrown_100 rfl rfl rfl (by decide +kernel) ⟨Nat.le_of_ble_eq_true rfl, Nat.le_of_ble_eq_true rfl⟩) ⟨kP_blind, va_recv hKc hPc (ci := 19) (q0 := 0) rfl rfl, kP_go hPc hKc hDc hFc hM hS⟩ rfl rfl hl.1 rfl (lv_room (Nat.le_of_ble_eq_true rfl)) dL_law_310 ⟨Nat.le_of_ble_eq_true rfl, Nat.le_of_ble_eq_true rfl⟩) hS (fun q _ h => hFc q h) hFc (fun r3 u t H1 locs ht hvm hw hB hz1 hk1 hS => ?_)
  obtain ⟨hP, hD, hK⟩ := kJ (wr := []) (w1 := [(mo, .inr (19, [.int 0, .int 0, .int 0, .int 0, .int 0, .int 0, .int 0, .ref ti, .ref si, .ref lo, .ref lh, .ref lk, .ref sp, .ref st, .ref pa, .ref br, .ref sg, .int 0, .int 0, .int 0, .int 0, .int 0, .int 0, .long 0, .long 0, .long 0, .long 0, .int 1]))]) (t1 := []) hP hD hK [0] [] rfl rfl (by decide) (by decide) hk1 hFc ht hvm hB
  generalize H1 = H at hP hS ⊢
  have hP : va_P (dC, dI) vwCl [(mo, .inr (19, [.int 0, .int 0, .int 0, .int 0, .int 0, .int 0, .int 0, .ref ti, .ref si, .ref lo, .ref lh, .ref lk, .ref sp, .ref st, .ref pa, .ref br, .ref sg, .int 0, .int 0, .int 0, .int 0, .int 0, .int 0, .long 0, .long 0, .long 0, .long 0, .int 1]))] H := hP
  have hD : va_D A [(mo, .inr (19, [.int 0, .int 0, .int 0, .int 0, .int 0, .int 0, .int 0, .ref ti, .ref si, .ref lo, .ref lh, .ref lk, .ref sp, .ref st, .ref pa, .ref br, .ref sg, .int 0, .int 0, .int 0, .int 0, .int 0, .int 0, .long 0, .long 0, .long 0, .long 0, .int 1]))] := hD
  have hK : va_K (dC, dI) vwCl [(co, .long)] s := hK
  obtain rfl : 1 = r3 := hw
  refine lv_iload hx hb dL_law_313 (lv_at hl 1 rfl) ?_
  refine lv_icmp_eq (tgt := 320) hx hb dL_law_315 (by decide) (fun _ => ?_) (fun c_ => absurd (by decide +kernel) c_)
  refine lv_iload hx hb dL_law_320 (lv_at hl 1 rfl) ?_
  refine lv_if_ne (tgt := 344) hx hb dL_law_322 (by decide) (fun _ => ?_) (fun c_ => absurd c_ (by decide +kernel))
  refine lv_goto (tgt := 1684) hx hb dL_law_344 (by decide) ?_
  exact la_tail (dC := dC) (dI := dI) hst C0 hM hA hAl H locs hS ls (lv_sub hl [2, 7] rfl) (by omega) (by omega)
set_option maxHeartbeats 8000000 in
set_option maxRecDepth 100000 in
theorem la_helm_good {p : Program} {l : Launch} {e : Env} {s : State} {m : MethodId} {below : List Frame} {meth : Method} {c : Code} {dC : Nat → ClassId} {dI : Nat → Nat → Nat} {z zK zV : Nat → Nat} {b : Nat} {xs : Nat → Int32} {A : Nat → Prop} (hst : l.stackTraces = false) (C0 : lw_At p s m meth c b 4 xs) (hM : am z zK zV A s s.heap) (hA : ∀ q : Nat, s.heap.size ≤ q → A q) (hAl : ∀ q : Nat, A q → s.heap.size ≤ q) (sh : Nat) (rg : Nat) (dk : Nat) (hd : Nat) (lg : Nat) (pl : Nat) (pr : Nat) (x : Nat) (tl : Nat) (tw : Nat) (p0 : Int32) (mo : Nat) (ti : Nat) (si : Nat) (lo : Nat) (lh : Nat) (lk : Nat) (sp : Nat) (st : Nat) (pa : Nat) (br : Nat) (sg : Nat) (ou : Nat) (co : ClassId) (of_ : Nat → Int64) (od_ : Nat) (hg0 : (-3 : Int32) ≤ p0 ∧ p0 ≤ 3) (hs1 : xs 1 = p0) (H : Heap) (locs : List Loc) (hK : va_K (dC, dI) vwCl [(co, .long)] s) (hP : va_P (dC, dI) vwCl [(x, .inr (15, [.ref sh, .ref tl, .ref tw, .int 0])), (tl, .inr (3, [.int 0, .ref (z 0), .int 0])), (sh, .inr (13, [.ref rg, .ref dk, .ref hd, .ref lg, .ref pl, .ref pr, .int 0, .int 0, .int 0, .int 0, .int 0, .int 0, .int 0, .int 0, .int 0, .int 0, .int 0])), (mo, .inr (19, [.int 0, .int 0, .int 0, .int 0, .int 0, .int 0, .int 0, .ref ti, .ref si, .ref lo, .ref lh, .ref lk, .ref sp, .ref st, .ref pa, .ref br, .ref sg, .int 0, .int 0, .int 0, .int 0, .int 0, .int 0, .long 0, .long 0, .long 0, .long 0, .int 0])), (ou, .inl (co, 1, .inr (.inl of_)))] H) (hD : va_D A [(x, .inr (15, [.ref sh, .ref tl, .ref tw, .int 0])), (tl, .inr (3, [.int 0, .ref (z 0), .int 0])), (sh, .inr (13, [.ref rg, .ref dk, .ref hd, .ref lg, .ref pl, .ref pr, .int 0, .int 0, .int 0, .int 0, .int 0, .int 0, .int 0, .int 0, .int 0, .int 0, .int 0])), (mo, .inr (19, [.int 0, .int 0, .int 0, .int 0, .int 0, .int 0, .int 0, .ref ti, .ref si, .ref lo, .ref lh, .ref lk, .ref sp, .ref st, .ref pa, .ref br, .ref sg, .int 0, .int 0, .int 0, .int 0, .int 0, .int 0, .long 0, .long 0, .long 0, .long 0, .int 0])), (ou, .inl (co, 1, .inr (.inl of_)))]) (hS : va_S A s.heap H locs) (ls : Array Slot) (hl : lv_has ls 10 [(0, .ref b), (1, .ref x), (2, .ref mo), (3, .ref ou), (4, .ref od_), (5, .int 0)]) : W p l e room_1 s m #[Value.ref b] below meth c H locs 100 1400 (lw_Z below #[Value.ref b] s) (F0 m 347 ls []) := by
  obtain ⟨hx, hb, hr, hml, hown, hts, hX, hbl, hlocks, hgv⟩ := id C0
  have hbA : ¬ A b := fun h => absurd (hAl b h) (Nat.not_le.mpr hbl)
  refine lv_aload_n hx hb dL_law_347 rfl (lv_at hl 1 rfl) ?_
  refine lv_aload_n hx hb dL_law_348 rfl (lv_at hl 0 rfl) ?_
  refine lv_iload hx hb dL_law_349 (lv_at hl 5 rfl) ?_
  refine lv_iconst (v := 1) hx hb dL_law_351 (by decide) ?_
  refine lv_iadd hx hb dL_law_352 ?_
  refine kc_i (y := 1) (by decide +kernel) ?_
  refine va_sld hx hb hX hbl hbA hS (pk_in 1 4 (by decide) rfl) dL_law_353 ?_
  refine kc_i (y := p0) (hs1 : xs 1 = p0) ?_
  refine lv_aload_n hx hb dL_law_354 rfl (lv_at hl 3 rfl) ?_
  have hPc := hP.sub (ws' := [(x, .inr (15, [.ref sh, .ref tl, .ref tw, .int 0])), (tl, .inr (3, [.int 0, .ref (z 0), .int 0])), (sh, .inr (13, [.ref rg, .ref dk, .ref hd, .ref lg, .ref pl, .ref pr, .int 0, .int 0, .int 0, .int 0, .int 0, .int 0, .int 0, .int 0, .int 0, .int 0, .int 0])), (ou, .inl (co, 1, .inr (.inl of_)))]) [0, 1, 2, 4] rfl
  have hDc := hD.sub (ws' := [(x, .inr (15, [.ref sh, .ref tl, .ref tw, .int 0])), (tl, .inr (3, [.int 0, .ref (z 0), .int 0])), (sh, .inr (13, [.ref rg, .ref dk, .ref hd, .ref lg, .ref pl, .ref pr, .int 0, .int 0, .int 0, .int 0, .int 0, .int 0, .int 0, .int 0, .int 0, .int 0, .int 0])), (ou, .inl (co, 1, .inr (.inl of_)))]) [0, 1, 2, 4] (by decide) rfl
  have hKc := hK.sub (tys' := [(co, .long)]) [0] rfl
  have hFc := va_free (wc := [(x, .inr (15, [.ref sh, .ref tl, .ref tw, .int 0])), (tl, .inr (3, [.int 0, .ref (z 0), .int 0])), (sh, .inr (13, [.ref rg, .ref dk, .ref hd, .ref lg, .ref pl, .ref pr, .int 0, .int 0, .int 0, .int 0, .int 0, .int 0, .int 0, .int 0, .int 0, .int 0, .int 0])), (ou, .inl (co, 1, .inr (.inl of_)))]) hD hS hA [0, 1, 2, 4] rfl
  refine va_calli (vx_runSW (As := [.ref x, .int p0, .ref ou]) (rest := []) ⟨hx, hb, hml, hown, hts⟩ (k_l_helm_good l dC dI z zK zV sh rg dk hd lg pl pr x tl tw p0 ou co of_ H.size (hg0)) (vx_cwSW 3 hts hL_L_helm_106 rfl rfl rfl (by decide +kernel) ⟨Nat.le_of_ble_eq_true rfl, Nat.le_of_ble_eq_true rfl⟩) ⟨kP_blind, kP_go hPc hKc hDc hFc hM hS⟩ rfl rfl hl.1 rfl (lv_room (Nat.le_of_ble_eq_true rfl)) dL_law_355 ⟨Nat.le_of_ble_eq_true rfl, Nat.le_of_ble_eq_true rfl⟩) hS (fun q _ h => hFc q h) hFc (fun r1 u t H1 locs ht hvm hw hB hz1 hk1 hS => ?_)
  obtain ⟨hP, hD, hK⟩ := kJ (wr := [(mo, .inr (19, [.int 0, .int 0, .int 0, .int 0, .int 0, .int 0, .int 0, .ref ti, .ref si, .ref lo, .ref lh, .ref lk, .ref sp, .ref st, .ref pa, .ref br, .ref sg, .int 0, .int 0, .int 0, .int 0, .int 0, .int 0, .long 0, .long 0, .long 0, .long 0, .int 0]))]) (w1 := [(ou, .inl (co, 1, .inr (.inl (vp_updL of_ 0 0))))]) (t1 := []) hP hD hK [0, 1, 2, 4] [3] rfl rfl (by decide) (by decide) hk1 hFc ht hvm hB
  generalize H1 = H at hP hS ⊢
  have hP : va_P (dC, dI) vwCl [(mo, .inr (19, [.int 0, .int 0, .int 0, .int 0, .int 0, .int 0, .int 0, .ref ti, .ref si, .ref lo, .ref lh, .ref lk, .ref sp, .ref st, .ref pa, .ref br, .ref sg, .int 0, .int 0, .int 0, .int 0, .int 0, .int 0, .long 0, .long 0, .long 0, .long 0, .int 0])), (ou, .inl (co, 1, .inr (.inl (vp_updL of_ 0 0))))] H := hP
  have hD : va_D A [(mo, .inr (19, [.int 0, .int 0, .int 0, .int 0, .int 0, .int 0, .int 0, .ref ti, .ref si, .ref lo, .ref lh, .ref lk, .ref sp, .ref st, .ref pa, .ref br, .ref sg, .int 0, .int 0, .int 0, .int 0, .int 0, .int 0, .long 0, .long 0, .long 0, .long 0, .int 0])), (ou, .inl (co, 1, .inr (.inl (vp_updL of_ 0 0))))] := hD
  have hK : va_K (dC, dI) vwCl [(co, .long)] s := hK
  obtain rfl : 0 = r1 := hw
  refine lv_istore (lv' := [(6, .int 0), (0, .ref b), (1, .ref x), (2, .ref mo), (3, .ref ou), (4, .ref od_), (5, .int 0)]) hx hb dL_law_358 hl (by decide) rfl (fun ls hl => ?_)
  refine lv_aload_n hx hb dL_law_360 rfl (lv_at hl 3 rfl) ?_
  refine lv_aload_n hx hb dL_law_361 rfl (lv_at hl 1 rfl) ?_
  refine lv_iload hx hb dL_law_362 (lv_at hl 6 rfl) ?_
  refine lv_iconst (v := 1) hx hb dL_law_364 (by decide) ?_
  refine lv_iadd hx hb dL_law_365 ?_
  refine kc_i (y := 1) (by decide +kernel) ?_
  refine va_sld hx hb hX hbl hbA hS (pk_in 1 4 (by decide) rfl) dL_law_366 ?_
  refine kc_i (y := p0) (hs1 : xs 1 = p0) ?_
  have hPc := hP.sub (ws' := [(mo, .inr (19, [.int 0, .int 0, .int 0, .int 0, .int 0, .int 0, .int 0, .ref ti, .ref si, .ref lo, .ref lh, .ref lk, .ref sp, .ref st, .ref pa, .ref br, .ref sg, .int 0, .int 0, .int 0, .int 0, .int 0, .int 0, .long 0, .long 0, .long 0, .long 0, .int 0]))]) [0] rfl
  have hDc := hD.sub (ws' := [(mo, .inr (19, [.int 0, .int 0, .int 0, .int 0, .int 0, .int 0, .int 0, .ref ti, .ref si, .ref lo, .ref lh, .ref lk, .ref sp, .ref st, .ref pa, .ref br, .ref sg, .int 0, .int 0, .int 0, .int 0, .int 0, .int 0, .long 0, .long 0, .long 0, .long 0, .int 0]))]) [0] (by decide) rfl
  have hKc := hK.sub (tys' := []) [] rfl
  have hFc := va_free (wc := [(mo, .inr (19, [.int 0, .int 0, .int 0, .int 0, .int 0, .int 0, .int 0, .ref ti, .ref si, .ref lo, .ref lh, .ref lk, .ref sp, .ref st, .ref pa, .ref br, .ref sg, .int 0, .int 0, .int 0, .int 0, .int 0, .int 0, .long 0, .long 0, .long 0, .long 0, .int 0]))]) hD hS hA [0] rfl
  refine va_calli (va_runV (As := [.int p0]) (rest := []) ⟨hx, hb, hml, hown, hts⟩ (k_m_helm_good l dC dI z zK zV p0 mo ti si lo lh lk sp st pa br sg 0 H.size (hg0)) (cwV 1 hts hL_X15_helm_109 rfl rfl rfl (by decide +kernel) ⟨Nat.le_of_ble_eq_true rfl, Nat.le_of_ble_eq_true rfl⟩) ⟨kP_blind, va_recv hKc hPc (ci := 19) (q0 := 0) rfl rfl, kP_go hPc hKc hDc hFc hM hS⟩ rfl rfl hl.1 rfl (lv_room (Nat.le_of_ble_eq_true rfl)) dL_law_367 ⟨Nat.le_of_ble_eq_true rfl, Nat.le_of_ble_eq_true rfl⟩) hS (fun q _ h => hFc q h) hFc (fun r2 u t H1 locs ht hvm hw hB hz1 hk1 hS => ?_)
  obtain ⟨hP, hD, hK⟩ := kJ (wr := [(ou, .inl (co, 1, .inr (.inl (vp_updL of_ 0 0))))]) (w1 := [(mo, .inr (19, [.int 0, .int 0, .int 0, .int 0, .int p0, .int 0, .int 0, .ref ti, .ref si, .ref lo, .ref lh, .ref lk, .ref sp, .ref st, .ref pa, .ref br, .ref sg, .int 0, .int 0, .int 0, .int 0, .int 0, .int 0, .long 0, .long 0, .long 0, .long 0, .int 0]))]) (t1 := []) hP hD hK [0] [1] rfl rfl (by decide) (by decide) hk1 hFc ht hvm hB
  generalize H1 = H at hP hS ⊢
  have hP : va_P (dC, dI) vwCl [(ou, .inl (co, 1, .inr (.inl (vp_updL of_ 0 0)))), (mo, .inr (19, [.int 0, .int 0, .int 0, .int 0, .int p0, .int 0, .int 0, .ref ti, .ref si, .ref lo, .ref lh, .ref lk, .ref sp, .ref st, .ref pa, .ref br, .ref sg, .int 0, .int 0, .int 0, .int 0, .int 0, .int 0, .long 0, .long 0, .long 0, .long 0, .int 0]))] H := hP
  have hD : va_D A [(ou, .inl (co, 1, .inr (.inl (vp_updL of_ 0 0)))), (mo, .inr (19, [.int 0, .int 0, .int 0, .int 0, .int p0, .int 0, .int 0, .ref ti, .ref si, .ref lo, .ref lh, .ref lk, .ref sp, .ref st, .ref pa, .ref br, .ref sg, .int 0, .int 0, .int 0, .int 0, .int 0, .int 0, .long 0, .long 0, .long 0, .long 0, .int 0]))] := hD
  have hK : va_K (dC, dI) vwCl [(co, .long)] s := hK
  obtain rfl : 0 = r2 := hw
  refine lv_istore (lv' := [(7, .int 0), (6, .int 0), (0, .ref b), (1, .ref x), (2, .ref mo), (3, .ref ou), (4, .ref od_), (5, .int 0)]) hx hb dL_law_370 hl (by decide) rfl (fun ls hl => ?_)
  refine lv_aload_n hx hb dL_law_372 rfl (lv_at hl 4 rfl) ?_
  have hPc := hP.sub (ws' := [(mo, .inr (19, [.int 0, .int 0, .int 0, .int 0, .int p0, .int 0, .int 0, .ref ti, .ref si, .ref lo, .ref lh, .ref lk, .ref sp, .ref st, .ref pa, .ref br, .ref sg, .int 0, .int 0, .int 0, .int 0, .int 0, .int 0, .long 0, .long 0, .long 0, .long 0, .int 0]))]) [1] rfl
  have hDc := hD.sub (ws' := [(mo, .inr (19, [.int 0, .int 0, .int 0, .int 0, .int p0, .int 0, .int 0, .ref ti, .ref si, .ref lo, .ref lh, .ref lk, .ref sp, .ref st, .ref pa, .ref br, .ref sg, .int 0, .int 0, .int 0, .int 0, .int 0, .int 0, .long 0, .long 0, .long 0, .long 0, .int 0]))]) [1] (by decide) rfl
  have hKc := hK.sub (tys' := []) [] rfl
  have hFc := va_free (wc := [(mo, .inr (19, [.int 0, .int 0, .int 0, .int 0, .int p0, .int 0, .int 0, .ref ti, .ref si, .ref lo, .ref lh, .ref lk, .ref sp, .ref st, .ref pa, .ref br, .ref sg, .int 0, .int 0, .int 0, .int 0, .int 0, .int 0, .long 0, .long 0, .long 0, .long 0, .int 0]))]) hD hS hA [1] rfl
  refine va_calli (va_runV (As := []) (rest := []) ⟨hx, hb, hml, hown, hts⟩ (k_m_thrown l dC dI z zK zV mo ti si lo lh lk sp st pa br sg 0 0 0 0 p0 0 0 0 0 0 0 0 0 0 0 0 0 0 H.size) (cwV 0 hts hL_X15_thrown_100 rfl rfl rfl (by decide +kernel) ⟨Nat.le_of_ble_eq_true rfl, Nat.le_of_ble_eq_true rfl⟩) ⟨kP_blind, va_recv hKc hPc (ci := 19) (q0 := 0) rfl rfl, kP_go hPc hKc hDc hFc hM hS⟩ rfl rfl hl.1 rfl (lv_room (Nat.le_of_ble_eq_true rfl)) dL_law_373 ⟨Nat.le_of_ble_eq_true rfl, Nat.le_of_ble_eq_true rfl⟩) hS (fun q _ h => hFc q h) hFc (fun r3 u t H1 locs ht hvm hw hB hz1 hk1 hS => ?_)
  obtain ⟨hP, hD, hK⟩ := kJ (wr := [(ou, .inl (co, 1, .inr (.inl (vp_updL of_ 0 0))))]) (w1 := [(mo, .inr (19, [.int 0, .int 0, .int 0, .int 0, .int p0, .int 0, .int 0, .ref ti, .ref si, .ref lo, .ref lh, .ref lk, .ref sp, .ref st, .ref pa, .ref br, .ref sg, .int 0, .int 0, .int 0, .int 0, .int 0, .int 0, .long 0, .long 0, .long 0, .long 0, .int 0]))]) (t1 := []) hP hD hK [1] [0] rfl rfl (by decide) (by decide) hk1 hFc ht hvm hB
  generalize H1 = H at hP hS ⊢
  have hP : va_P (dC, dI) vwCl [(ou, .inl (co, 1, .inr (.inl (vp_updL of_ 0 0)))), (mo, .inr (19, [.int 0, .int 0, .int 0, .int 0, .int p0, .int 0, .int 0, .ref ti, .ref si, .ref lo, .ref lh, .ref lk, .ref sp, .ref st, .ref pa, .ref br, .ref sg, .int 0, .int 0, .int 0, .int 0, .int 0, .int 0, .long 0, .long 0, .long 0, .long 0, .int 0]))] H := hP
  have hD : va_D A [(ou, .inl (co, 1, .inr (.inl (vp_updL of_ 0 0)))), (mo, .inr (19, [.int 0, .int 0, .int 0, .int 0, .int p0, .int 0, .int 0, .ref ti, .ref si, .ref lo, .ref lh, .ref lk, .ref sp, .ref st, .ref pa, .ref br, .ref sg, .int 0, .int 0, .int 0, .int 0, .int 0, .int 0, .long 0, .long 0, .long 0, .long 0, .int 0]))] := hD
  have hK : va_K (dC, dI) vwCl [(co, .long)] s := hK
  obtain rfl : 0 = r3 := hw
  refine lv_iload hx hb dL_law_376 (lv_at hl 1 rfl) ?_
  refine lv_icmp_eq (tgt := 383) hx hb dL_law_378 (by decide) (fun _ => ?_) (fun c_ => absurd (by decide +kernel) c_)
  refine lv_iload hx hb dL_law_383 (lv_at hl 1 rfl) ?_
  refine lv_if_ne (tgt := 400) hx hb dL_law_385 (by decide) (fun c_ => absurd (by decide +kernel) c_) (fun _ => ?_)
  refine lv_aload_n hx hb dL_law_388 rfl (lv_at hl 5 rfl) ?_
  refine lv_iconst (v := 0) hx hb dL_law_389 (by decide) ?_
  refine va_lald hx hb hK hP 0 0 rfl rfl (pk_in 0 1 (by decide) rfl) dL_law_390 ?_
  refine kc_v (y := .long 0) rfl ?_
  refine lv_iload hx hb dL_law_391 (lv_at hl 0 rfl) ?_
  refine lv_i2l (v := 0) hx hb dL_law_393 (by decide +kernel) ?_
  refine W.lcmp hx hb dL_law_394 ?_
  refine kc_i (y := 0) (by decide +kernel) ?_
  refine lv_if_eq (tgt := 400) hx hb dL_law_395 (by decide) (fun _ => ?_) (fun c_ => absurd (by decide +kernel) c_)
  refine lv_goto (tgt := 1684) hx hb dL_law_400 (by decide) ?_
  exact la_tail (dC := dC) (dI := dI) hst C0 hM hA hAl H locs hS ls (lv_sub hl [2, 7] rfl) (by omega) (by omega)
set_option maxHeartbeats 8000000 in
set_option maxRecDepth 100000 in
theorem la_helm_bad {p : Program} {l : Launch} {e : Env} {s : State} {m : MethodId} {below : List Frame} {meth : Method} {c : Code} {dC : Nat → ClassId} {dI : Nat → Nat → Nat} {z zK zV : Nat → Nat} {b : Nat} {xs : Nat → Int32} {A : Nat → Prop} (hst : l.stackTraces = false) (C0 : lw_At p s m meth c b 4 xs) (hM : am z zK zV A s s.heap) (hA : ∀ q : Nat, s.heap.size ≤ q → A q) (hAl : ∀ q : Nat, A q → s.heap.size ≤ q) (sh : Nat) (rg : Nat) (dk : Nat) (hd : Nat) (lg : Nat) (pl : Nat) (pr : Nat) (x : Nat) (tl : Nat) (tw : Nat) (p0 : Int32) (mo : Nat) (ti : Nat) (si : Nat) (lo : Nat) (lh : Nat) (lk : Nat) (sp : Nat) (st : Nat) (pa : Nat) (br : Nat) (sg : Nat) (ou : Nat) (co : ClassId) (of_ : Nat → Int64) (od_ : Nat) (hb0 : ¬ ((-3 : Int32) ≤ p0 ∧ p0 ≤ 3)) (hs1 : xs 1 = p0) (H : Heap) (locs : List Loc) (hK : va_K (dC, dI) vwCl [(co, .long)] s) (hP : va_P (dC, dI) vwCl [(x, .inr (15, [.ref sh, .ref tl, .ref tw, .int 0])), (sh, .inr (13, [.ref rg, .ref dk, .ref hd, .ref lg, .ref pl, .ref pr, .int 0, .int 0, .int 0, .int 0, .int 0, .int 0, .int 0, .int 0, .int 0, .int 0, .int 0])), (mo, .inr (19, [.int 0, .int 0, .int 0, .int 0, .int 0, .int 0, .int 0, .ref ti, .ref si, .ref lo, .ref lh, .ref lk, .ref sp, .ref st, .ref pa, .ref br, .ref sg, .int 0, .int 0, .int 0, .int 0, .int 0, .int 0, .long 0, .long 0, .long 0, .long 0, .int 0])), (ou, .inl (co, 1, .inr (.inl of_)))] H) (hD : va_D A [(x, .inr (15, [.ref sh, .ref tl, .ref tw, .int 0])), (sh, .inr (13, [.ref rg, .ref dk, .ref hd, .ref lg, .ref pl, .ref pr, .int 0, .int 0, .int 0, .int 0, .int 0, .int 0, .int 0, .int 0, .int 0, .int 0, .int 0])), (mo, .inr (19, [.int 0, .int 0, .int 0, .int 0, .int 0, .int 0, .int 0, .ref ti, .ref si, .ref lo, .ref lh, .ref lk, .ref sp, .ref st, .ref pa, .ref br, .ref sg, .int 0, .int 0, .int 0, .int 0, .int 0, .int 0, .long 0, .long 0, .long 0, .long 0, .int 0])), (ou, .inl (co, 1, .inr (.inl of_)))]) (hS : va_S A s.heap H locs) (ls : Array Slot) (hl : lv_has ls 10 [(0, .ref b), (1, .ref x), (2, .ref mo), (3, .ref ou), (4, .ref od_), (5, .int 0)]) : W p l e room_1 s m #[Value.ref b] below meth c H locs 100 1400 (lw_Z below #[Value.ref b] s) (F0 m 347 ls []) := by
  obtain ⟨hx, hb, hr, hml, hown, hts, hX, hbl, hlocks, hgv⟩ := id C0
  have hbA : ¬ A b := fun h => absurd (hAl b h) (Nat.not_le.mpr hbl)
  refine lv_aload_n hx hb dL_law_347 rfl (lv_at hl 1 rfl) ?_
  refine lv_aload_n hx hb dL_law_348 rfl (lv_at hl 0 rfl) ?_
  refine lv_iload hx hb dL_law_349 (lv_at hl 5 rfl) ?_
  refine lv_iconst (v := 1) hx hb dL_law_351 (by decide) ?_
  refine lv_iadd hx hb dL_law_352 ?_
  refine kc_i (y := 1) (by decide +kernel) ?_
  refine va_sld hx hb hX hbl hbA hS (pk_in 1 4 (by decide) rfl) dL_law_353 ?_
  refine kc_i (y := p0) (hs1 : xs 1 = p0) ?_
  refine lv_aload_n hx hb dL_law_354 rfl (lv_at hl 3 rfl) ?_
  have hPc := hP.sub (ws' := [(x, .inr (15, [.ref sh, .ref tl, .ref tw, .int 0])), (sh, .inr (13, [.ref rg, .ref dk, .ref hd, .ref lg, .ref pl, .ref pr, .int 0, .int 0, .int 0, .int 0, .int 0, .int 0, .int 0, .int 0, .int 0, .int 0, .int 0])), (ou, .inl (co, 1, .inr (.inl of_)))]) [0, 1, 3] rfl
  have hDc := hD.sub (ws' := [(x, .inr (15, [.ref sh, .ref tl, .ref tw, .int 0])), (sh, .inr (13, [.ref rg, .ref dk, .ref hd, .ref lg, .ref pl, .ref pr, .int 0, .int 0, .int 0, .int 0, .int 0, .int 0, .int 0, .int 0, .int 0, .int 0, .int 0])), (ou, .inl (co, 1, .inr (.inl of_)))]) [0, 1, 3] (by decide) rfl
  have hKc := hK.sub (tys' := [(co, .long)]) [0] rfl
  have hFc := va_free (wc := [(x, .inr (15, [.ref sh, .ref tl, .ref tw, .int 0])), (sh, .inr (13, [.ref rg, .ref dk, .ref hd, .ref lg, .ref pl, .ref pr, .int 0, .int 0, .int 0, .int 0, .int 0, .int 0, .int 0, .int 0, .int 0, .int 0, .int 0])), (ou, .inl (co, 1, .inr (.inl of_)))]) hD hS hA [0, 1, 3] rfl
  refine va_calli (vx_runSW (As := [.ref x, .int p0, .ref ou]) (rest := []) ⟨hx, hb, hml, hown, hts⟩ (k_l_helm_bad l dC dI z zK zV sh rg dk hd lg pl pr x tl tw p0 ou co of_ H.size hst (hb0)) (vx_cwSW 3 hts hL_L_helm_106 rfl rfl rfl (by decide +kernel) ⟨Nat.le_of_ble_eq_true rfl, Nat.le_of_ble_eq_true rfl⟩) ⟨kP_blind, kP_go hPc hKc hDc hFc hM hS⟩ rfl rfl hl.1 rfl (lv_room (Nat.le_of_ble_eq_true rfl)) dL_law_355 ⟨Nat.le_of_ble_eq_true rfl, Nat.le_of_ble_eq_true rfl⟩) hS (fun q _ h => hFc q h) hFc (fun r1 u t H1 locs ht hvm hw hB hz1 hk1 hS => ?_)
  obtain ⟨hP, hD, hK⟩ := kJ (wr := [(mo, .inr (19, [.int 0, .int 0, .int 0, .int 0, .int 0, .int 0, .int 0, .ref ti, .ref si, .ref lo, .ref lh, .ref lk, .ref sp, .ref st, .ref pa, .ref br, .ref sg, .int 0, .int 0, .int 0, .int 0, .int 0, .int 0, .long 0, .long 0, .long 0, .long 0, .int 0]))]) (w1 := []) (t1 := []) hP hD hK [0, 1, 3] [2] rfl rfl (by decide) (by decide) hk1 hFc ht hvm hB
  generalize H1 = H at hP hS ⊢
  have hP : va_P (dC, dI) vwCl [(mo, .inr (19, [.int 0, .int 0, .int 0, .int 0, .int 0, .int 0, .int 0, .ref ti, .ref si, .ref lo, .ref lh, .ref lk, .ref sp, .ref st, .ref pa, .ref br, .ref sg, .int 0, .int 0, .int 0, .int 0, .int 0, .int 0, .long 0, .long 0, .long 0, .long 0, .int 0]))] H := hP
  have hD : va_D A [(mo, .inr (19, [.int 0, .int 0, .int 0, .int 0, .int 0, .int 0, .int 0, .ref ti, .ref si, .ref lo, .ref lh, .ref lk, .ref sp, .ref st, .ref pa, .ref br, .ref sg, .int 0, .int 0, .int 0, .int 0, .int 0, .int 0, .long 0, .long 0, .long 0, .long 0, .int 0]))] := hD
  have hK : va_K (dC, dI) vwCl [(co, .long)] s := hK
  obtain rfl : 1 = r1 := hw
  refine lv_istore (lv' := [(6, .int 1), (0, .ref b), (1, .ref x), (2, .ref mo), (3, .ref ou), (4, .ref od_), (5, .int 0)]) hx hb dL_law_358 hl (by decide) rfl (fun ls hl => ?_)
  refine lv_aload_n hx hb dL_law_360 rfl (lv_at hl 3 rfl) ?_
  refine lv_aload_n hx hb dL_law_361 rfl (lv_at hl 1 rfl) ?_
  refine lv_iload hx hb dL_law_362 (lv_at hl 6 rfl) ?_
  refine lv_iconst (v := 1) hx hb dL_law_364 (by decide) ?_
  refine lv_iadd hx hb dL_law_365 ?_
  refine kc_i (y := 1) (by decide +kernel) ?_
  refine va_sld hx hb hX hbl hbA hS (pk_in 1 4 (by decide) rfl) dL_law_366 ?_
  refine kc_i (y := p0) (hs1 : xs 1 = p0) ?_
  have hPc := hP.sub (ws' := [(mo, .inr (19, [.int 0, .int 0, .int 0, .int 0, .int 0, .int 0, .int 0, .ref ti, .ref si, .ref lo, .ref lh, .ref lk, .ref sp, .ref st, .ref pa, .ref br, .ref sg, .int 0, .int 0, .int 0, .int 0, .int 0, .int 0, .long 0, .long 0, .long 0, .long 0, .int 0]))]) [0] rfl
  have hDc := hD.sub (ws' := [(mo, .inr (19, [.int 0, .int 0, .int 0, .int 0, .int 0, .int 0, .int 0, .ref ti, .ref si, .ref lo, .ref lh, .ref lk, .ref sp, .ref st, .ref pa, .ref br, .ref sg, .int 0, .int 0, .int 0, .int 0, .int 0, .int 0, .long 0, .long 0, .long 0, .long 0, .int 0]))]) [0] (by decide) rfl
  have hKc := hK.sub (tys' := []) [] rfl
  have hFc := va_free (wc := [(mo, .inr (19, [.int 0, .int 0, .int 0, .int 0, .int 0, .int 0, .int 0, .ref ti, .ref si, .ref lo, .ref lh, .ref lk, .ref sp, .ref st, .ref pa, .ref br, .ref sg, .int 0, .int 0, .int 0, .int 0, .int 0, .int 0, .long 0, .long 0, .long 0, .long 0, .int 0]))]) hD hS hA [0] rfl
  refine va_calli (va_runV (As := [.int p0]) (rest := []) ⟨hx, hb, hml, hown, hts⟩ (k_m_helm_bad l dC dI z zK zV p0 mo ti si lo lh lk sp st pa br sg 0 H.size (hb0)) (cwV 1 hts hL_X15_helm_109 rfl rfl rfl (by decide +kernel) ⟨Nat.le_of_ble_eq_true rfl, Nat.le_of_ble_eq_true rfl⟩) ⟨kP_blind, va_recv hKc hPc (ci := 19) (q0 := 0) rfl rfl, kP_go hPc hKc hDc hFc hM hS⟩ rfl rfl hl.1 rfl (lv_room (Nat.le_of_ble_eq_true rfl)) dL_law_367 ⟨Nat.le_of_ble_eq_true rfl, Nat.le_of_ble_eq_true rfl⟩) hS (fun q _ h => hFc q h) hFc (fun r2 u t H1 locs ht hvm hw hB hz1 hk1 hS => ?_)
  obtain ⟨hP, hD, hK⟩ := kJ (wr := []) (w1 := [(mo, .inr (19, [.int 0, .int 0, .int 0, .int 0, .int 0, .int 0, .int 0, .ref ti, .ref si, .ref lo, .ref lh, .ref lk, .ref sp, .ref st, .ref pa, .ref br, .ref sg, .int 0, .int 0, .int 0, .int 0, .int 0, .int 0, .long 0, .long 0, .long 0, .long 0, .int 1]))]) (t1 := []) hP hD hK [0] [] rfl rfl (by decide) (by decide) hk1 hFc ht hvm hB
  generalize H1 = H at hP hS ⊢
  have hP : va_P (dC, dI) vwCl [(mo, .inr (19, [.int 0, .int 0, .int 0, .int 0, .int 0, .int 0, .int 0, .ref ti, .ref si, .ref lo, .ref lh, .ref lk, .ref sp, .ref st, .ref pa, .ref br, .ref sg, .int 0, .int 0, .int 0, .int 0, .int 0, .int 0, .long 0, .long 0, .long 0, .long 0, .int 1]))] H := hP
  have hD : va_D A [(mo, .inr (19, [.int 0, .int 0, .int 0, .int 0, .int 0, .int 0, .int 0, .ref ti, .ref si, .ref lo, .ref lh, .ref lk, .ref sp, .ref st, .ref pa, .ref br, .ref sg, .int 0, .int 0, .int 0, .int 0, .int 0, .int 0, .long 0, .long 0, .long 0, .long 0, .int 1]))] := hD
  have hK : va_K (dC, dI) vwCl [(co, .long)] s := hK
  obtain rfl : (-1) = r2 := hw
  refine lv_istore (lv' := [(7, .int (-1)), (6, .int 1), (0, .ref b), (1, .ref x), (2, .ref mo), (3, .ref ou), (4, .ref od_), (5, .int 0)]) hx hb dL_law_370 hl (by decide) rfl (fun ls hl => ?_)
  refine lv_aload_n hx hb dL_law_372 rfl (lv_at hl 4 rfl) ?_
  have hPc := hP.sub (ws' := [(mo, .inr (19, [.int 0, .int 0, .int 0, .int 0, .int 0, .int 0, .int 0, .ref ti, .ref si, .ref lo, .ref lh, .ref lk, .ref sp, .ref st, .ref pa, .ref br, .ref sg, .int 0, .int 0, .int 0, .int 0, .int 0, .int 0, .long 0, .long 0, .long 0, .long 0, .int 1]))]) [0] rfl
  have hDc := hD.sub (ws' := [(mo, .inr (19, [.int 0, .int 0, .int 0, .int 0, .int 0, .int 0, .int 0, .ref ti, .ref si, .ref lo, .ref lh, .ref lk, .ref sp, .ref st, .ref pa, .ref br, .ref sg, .int 0, .int 0, .int 0, .int 0, .int 0, .int 0, .long 0, .long 0, .long 0, .long 0, .int 1]))]) [0] (by decide) rfl
  have hKc := hK.sub (tys' := []) [] rfl
  have hFc := va_free (wc := [(mo, .inr (19, [.int 0, .int 0, .int 0, .int 0, .int 0, .int 0, .int 0, .ref ti, .ref si, .ref lo, .ref lh, .ref lk, .ref sp, .ref st, .ref pa, .ref br, .ref sg, .int 0, .int 0, .int 0, .int 0, .int 0, .int 0, .long 0, .long 0, .long 0, .long 0, .int 1]))]) hD hS hA [0] rfl
  refine va_calli (va_runV (As := []) (rest := []) ⟨hx, hb, hml, hown, hts⟩ (k_m_thrown l dC dI z zK zV mo ti si lo lh lk sp st pa br sg 0 0 0 0 0 0 0 0 0 0 0 0 0 0 0 0 0 1 H.size) (cwV 0 hts hL_X15_thrown_100 rfl rfl rfl (by decide +kernel) ⟨Nat.le_of_ble_eq_true rfl, Nat.le_of_ble_eq_true rfl⟩) ⟨kP_blind, va_recv hKc hPc (ci := 19) (q0 := 0) rfl rfl, kP_go hPc hKc hDc hFc hM hS⟩ rfl rfl hl.1 rfl (lv_room (Nat.le_of_ble_eq_true rfl)) dL_law_373 ⟨Nat.le_of_ble_eq_true rfl, Nat.le_of_ble_eq_true rfl⟩) hS (fun q _ h => hFc q h) hFc (fun r3 u t H1 locs ht hvm hw hB hz1 hk1 hS => ?_)
  obtain ⟨hP, hD, hK⟩ := kJ (wr := []) (w1 := [(mo, .inr (19, [.int 0, .int 0, .int 0, .int 0, .int 0, .int 0, .int 0, .ref ti, .ref si, .ref lo, .ref lh, .ref lk, .ref sp, .ref st, .ref pa, .ref br, .ref sg, .int 0, .int 0, .int 0, .int 0, .int 0, .int 0, .long 0, .long 0, .long 0, .long 0, .int 1]))]) (t1 := []) hP hD hK [0] [] rfl rfl (by decide) (by decide) hk1 hFc ht hvm hB
  generalize H1 = H at hP hS ⊢
  have hP : va_P (dC, dI) vwCl [(mo, .inr (19, [.int 0, .int 0, .int 0, .int 0, .int 0, .int 0, .int 0, .ref ti, .ref si, .ref lo, .ref lh, .ref lk, .ref sp, .ref st, .ref pa, .ref br, .ref sg, .int 0, .int 0, .int 0, .int 0, .int 0, .int 0, .long 0, .long 0, .long 0, .long 0, .int 1]))] H := hP
  have hD : va_D A [(mo, .inr (19, [.int 0, .int 0, .int 0, .int 0, .int 0, .int 0, .int 0, .ref ti, .ref si, .ref lo, .ref lh, .ref lk, .ref sp, .ref st, .ref pa, .ref br, .ref sg, .int 0, .int 0, .int 0, .int 0, .int 0, .int 0, .long 0, .long 0, .long 0, .long 0, .int 1]))] := hD
  have hK : va_K (dC, dI) vwCl [(co, .long)] s := hK
  obtain rfl : 1 = r3 := hw
  refine lv_iload hx hb dL_law_376 (lv_at hl 1 rfl) ?_
  refine lv_icmp_eq (tgt := 383) hx hb dL_law_378 (by decide) (fun _ => ?_) (fun c_ => absurd (by decide +kernel) c_)
  refine lv_iload hx hb dL_law_383 (lv_at hl 1 rfl) ?_
  refine lv_if_ne (tgt := 400) hx hb dL_law_385 (by decide) (fun _ => ?_) (fun c_ => absurd c_ (by decide +kernel))
  refine lv_goto (tgt := 1684) hx hb dL_law_400 (by decide) ?_
  exact la_tail (dC := dC) (dI := dI) hst C0 hM hA hAl H locs hS ls (lv_sub hl [2, 7] rfl) (by omega) (by omega)
set_option maxHeartbeats 8000000 in
set_option maxRecDepth 100000 in
theorem la_order_s0 {p : Program} {l : Launch} {e : Env} {s : State} {m : MethodId} {below : List Frame} {meth : Method} {c : Code} {dC : Nat → ClassId} {dI : Nat → Nat → Nat} {z zK zV : Nat → Nat} {b : Nat} {xs : Nat → Int32} {A : Nat → Prop} (hst : l.stackTraces = false) (C0 : lw_At p s m meth c b 4 xs) (hM : am z zK zV A s s.heap) (hA : ∀ q : Nat, s.heap.size ≤ q → A q) (hAl : ∀ q : Nat, A q → s.heap.size ≤ q) (sh : Nat) (rg : Nat) (mf : Nat) (mm : Nat) (mz : Nat) (ma : Nat) (sa : Nat) (s0 : Nat) (s1 : Nat) (s2 : Nat) (s3 : Nat) (s4 : Nat) (s5 : Nat) (s6 : Nat) (s7 : Nat) (s8 : Nat) (dk : Nat) (w0 : Nat) (w1 : Nat) (ol : Nat) (hd : Nat) (lg : Nat) (pl : Nat) (pr : Nat) (cS : ClassId) (x : Nat) (tl : Nat) (tw : Nat) (p2 : Int32) (mo : Nat) (ti : Nat) (si : Nat) (lo : Nat) (lh : Nat) (lk : Nat) (sp : Nat) (st : Nat) (pa : Nat) (br : Nat) (sg : Nat) (ou : Nat) (co : ClassId) (of_ : Nat → Int64) (od_ : Nat) (rw : Int32) (hg0 : (0 : Int32) ≤ p2 ∧ p2 ≤ 2) (hs1 : xs 1 = rw) (hs2 : xs 2 = 0) (hs3 : xs 3 = p2) (hch : (rw.toUInt32 % 65536).toInt32 = 115) (H : Heap) (locs : List Loc) (hK : va_K (dC, dI) vwCl [(cS, .object RX8), (co, .long)] s) (hP : va_P (dC, dI) vwCl [(x, .inr (15, [.ref sh, .ref tl, .ref tw, .int 0])), (tl, .inr (3, [.int 0, .ref (z 0), .int 0])), (sh, .inr (13, [.ref rg, .ref dk, .ref hd, .ref lg, .ref pl, .ref pr, .int 0, .int 0, .int 0, .int 0, .int 0, .int 0, .int 0, .int 0, .int 0, .int 0, .int 0])), (rg, .inr (11, [.ref mf, .ref mm, .ref mz, .ref ma, .ref sa, .int 0])), (sa, .inl (cS, 9, .inr (.inr (.inr (.inr (va_up (va_up (va_up (va_up (va_up (va_up (va_up (va_up (va_up (fun _ => none) 0 (some s0)) 1 (some s1)) 2 (some s2)) 3 (some s3)) 4 (some s4)) 5 (some s5)) 6 (some s6)) 7 (some s7)) 8 (some s8))))))), (s0, .inr (12, [.int 8, .int 6, .ref mf, .int 1, .int 0, .int 900, .int 0, .int 0])), (dk, .inr (4, [.ref w0, .ref w1, .ref ol, .int 0, .int 0, .int 0, .int 0])), (ol, .inr (3, [.int 0, .ref (z 0), .int 0])), (mo, .inr (19, [.int 0, .int 0, .int 0, .int 0, .int 0, .int 0, .int 0, .ref ti, .ref si, .ref lo, .ref lh, .ref lk, .ref sp, .ref st, .ref pa, .ref br, .ref sg, .int 0, .int 0, .int 0, .int 0, .int 0, .int 0, .long 0, .long 0, .long 0, .long 0, .int 0])), (lo, .inr (3, [.int 0, .ref (z 0), .int 0])), (ou, .inl (co, 1, .inr (.inl of_)))] H) (hD : va_D A [(x, .inr (15, [.ref sh, .ref tl, .ref tw, .int 0])), (tl, .inr (3, [.int 0, .ref (z 0), .int 0])), (sh, .inr (13, [.ref rg, .ref dk, .ref hd, .ref lg, .ref pl, .ref pr, .int 0, .int 0, .int 0, .int 0, .int 0, .int 0, .int 0, .int 0, .int 0, .int 0, .int 0])), (rg, .inr (11, [.ref mf, .ref mm, .ref mz, .ref ma, .ref sa, .int 0])), (sa, .inl (cS, 9, .inr (.inr (.inr (.inr (va_up (va_up (va_up (va_up (va_up (va_up (va_up (va_up (va_up (fun _ => none) 0 (some s0)) 1 (some s1)) 2 (some s2)) 3 (some s3)) 4 (some s4)) 5 (some s5)) 6 (some s6)) 7 (some s7)) 8 (some s8))))))), (s0, .inr (12, [.int 8, .int 6, .ref mf, .int 1, .int 0, .int 900, .int 0, .int 0])), (dk, .inr (4, [.ref w0, .ref w1, .ref ol, .int 0, .int 0, .int 0, .int 0])), (ol, .inr (3, [.int 0, .ref (z 0), .int 0])), (mo, .inr (19, [.int 0, .int 0, .int 0, .int 0, .int 0, .int 0, .int 0, .ref ti, .ref si, .ref lo, .ref lh, .ref lk, .ref sp, .ref st, .ref pa, .ref br, .ref sg, .int 0, .int 0, .int 0, .int 0, .int 0, .int 0, .long 0, .long 0, .long 0, .long 0, .int 0])), (lo, .inr (3, [.int 0, .ref (z 0), .int 0])), (ou, .inl (co, 1, .inr (.inl of_)))]) (hS : va_S A s.heap H locs) (ls : Array Slot) (hl : lv_has ls 10 [(0, .ref b), (1, .ref x), (2, .ref mo), (3, .ref ou), (4, .ref od_), (5, .int 0)]) : W p l e room_1 s m #[Value.ref b] below meth c H locs 100 1400 (lw_Z below #[Value.ref b] s) (F0 m 403 ls []) := by
  obtain ⟨hx, hb, hr, hml, hown, hts, hX, hbl, hlocks, hgv⟩ := id C0
  have hbA : ¬ A b := fun h => absurd (hAl b h) (Nat.not_le.mpr hbl)
  refine lv_aload_n hx hb dL_law_403 rfl (lv_at hl 1 rfl) ?_
  refine lv_aload_n hx hb dL_law_404 rfl (lv_at hl 0 rfl) ?_
  refine lv_iload hx hb dL_law_405 (lv_at hl 5 rfl) ?_
  refine lv_iconst (v := 1) hx hb dL_law_407 (by decide) ?_
  refine lv_iadd hx hb dL_law_408 ?_
  refine kc_i (y := 1) (by decide +kernel) ?_
  refine va_sld hx hb hX hbl hbA hS (pk_in 1 4 (by decide) rfl) dL_law_409 ?_
  refine kc_i (y := rw) (hs1 : xs 1 = rw) ?_
  refine lv_i2c (v := 115) hx hb dL_law_410 hch ?_
  refine lv_aload_n hx hb dL_law_411 rfl (lv_at hl 0 rfl) ?_
  refine lv_iload hx hb dL_law_412 (lv_at hl 5 rfl) ?_
  refine lv_iconst (v := 2) hx hb dL_law_414 (by decide) ?_
  refine lv_iadd hx hb dL_law_415 ?_
  refine kc_i (y := 2) (by decide +kernel) ?_
  refine va_sld hx hb hX hbl hbA hS (pk_in 2 4 (by decide) rfl) dL_law_416 ?_
  refine kc_i (y := 0) (hs2 : xs 2 = 0) ?_
  refine lv_aload_n hx hb dL_law_417 rfl (lv_at hl 0 rfl) ?_
  refine lv_iload hx hb dL_law_418 (lv_at hl 5 rfl) ?_
  refine lv_iconst (v := 3) hx hb dL_law_420 (by decide) ?_
  refine lv_iadd hx hb dL_law_421 ?_
  refine kc_i (y := 3) (by decide +kernel) ?_
  refine va_sld hx hb hX hbl hbA hS (pk_in 3 4 (by decide) rfl) dL_law_422 ?_
  refine kc_i (y := p2) (hs3 : xs 3 = p2) ?_
  refine lv_aload_n hx hb dL_law_423 rfl (lv_at hl 3 rfl) ?_
  have hPc := hP.sub (ws' := [(x, .inr (15, [.ref sh, .ref tl, .ref tw, .int 0])), (tl, .inr (3, [.int 0, .ref (z 0), .int 0])), (sh, .inr (13, [.ref rg, .ref dk, .ref hd, .ref lg, .ref pl, .ref pr, .int 0, .int 0, .int 0, .int 0, .int 0, .int 0, .int 0, .int 0, .int 0, .int 0, .int 0])), (dk, .inr (4, [.ref w0, .ref w1, .ref ol, .int 0, .int 0, .int 0, .int 0])), (ol, .inr (3, [.int 0, .ref (z 0), .int 0])), (rg, .inr (11, [.ref mf, .ref mm, .ref mz, .ref ma, .ref sa, .int 0])), (sa, .inl (cS, 9, .inr (.inr (.inr (.inr (va_up (va_up (va_up (va_up (va_up (va_up (va_up (va_up (va_up (fun _ => none) 0 (some s0)) 1 (some s1)) 2 (some s2)) 3 (some s3)) 4 (some s4)) 5 (some s5)) 6 (some s6)) 7 (some s7)) 8 (some s8))))))), (s0, .inr (12, [.int 8, .int 6, .ref mf, .int 1, .int 0, .int 900, .int 0, .int 0])), (ou, .inl (co, 1, .inr (.inl of_)))]) [0, 1, 2, 6, 7, 3, 4, 5, 10] rfl
  have hDc := hD.sub (ws' := [(x, .inr (15, [.ref sh, .ref tl, .ref tw, .int 0])), (tl, .inr (3, [.int 0, .ref (z 0), .int 0])), (sh, .inr (13, [.ref rg, .ref dk, .ref hd, .ref lg, .ref pl, .ref pr, .int 0, .int 0, .int 0, .int 0, .int 0, .int 0, .int 0, .int 0, .int 0, .int 0, .int 0])), (dk, .inr (4, [.ref w0, .ref w1, .ref ol, .int 0, .int 0, .int 0, .int 0])), (ol, .inr (3, [.int 0, .ref (z 0), .int 0])), (rg, .inr (11, [.ref mf, .ref mm, .ref mz, .ref ma, .ref sa, .int 0])), (sa, .inl (cS, 9, .inr (.inr (.inr (.inr (va_up (va_up (va_up (va_up (va_up (va_up (va_up (va_up (va_up (fun _ => none) 0 (some s0)) 1 (some s1)) 2 (some s2)) 3 (some s3)) 4 (some s4)) 5 (some s5)) 6 (some s6)) 7 (some s7)) 8 (some s8))))))), (s0, .inr (12, [.int 8, .int 6, .ref mf, .int 1, .int 0, .int 900, .int 0, .int 0])), (ou, .inl (co, 1, .inr (.inl of_)))]) [0, 1, 2, 6, 7, 3, 4, 5, 10] (by decide) rfl
  have hKc := hK.sub (tys' := [(cS, .object RX8), (co, .long)]) [0, 1] rfl
  have hFc := va_free (wc := [(x, .inr (15, [.ref sh, .ref tl, .ref tw, .int 0])), (tl, .inr (3, [.int 0, .ref (z 0), .int 0])), (sh, .inr (13, [.ref rg, .ref dk, .ref hd, .ref lg, .ref pl, .ref pr, .int 0, .int 0, .int 0, .int 0, .int 0, .int 0, .int 0, .int 0, .int 0, .int 0, .int 0])), (dk, .inr (4, [.ref w0, .ref w1, .ref ol, .int 0, .int 0, .int 0, .int 0])), (ol, .inr (3, [.int 0, .ref (z 0), .int 0])), (rg, .inr (11, [.ref mf, .ref mm, .ref mz, .ref ma, .ref sa, .int 0])), (sa, .inl (cS, 9, .inr (.inr (.inr (.inr (va_up (va_up (va_up (va_up (va_up (va_up (va_up (va_up (va_up (fun _ => none) 0 (some s0)) 1 (some s1)) 2 (some s2)) 3 (some s3)) 4 (some s4)) 5 (some s5)) 6 (some s6)) 7 (some s7)) 8 (some s8))))))), (s0, .inr (12, [.int 8, .int 6, .ref mf, .int 1, .int 0, .int 900, .int 0, .int 0])), (ou, .inl (co, 1, .inr (.inl of_)))]) hD hS hA [0, 1, 2, 6, 7, 3, 4, 5, 10] rfl
  refine va_calli (vx_runSW (As := [.ref x, .int 115, .int 0, .int p2, .ref ou]) (rest := []) ⟨hx, hb, hml, hown, hts⟩ (k_l_order_s0 l dC dI z zK zV sh rg mf mm mz ma sa s0 s1 s2 s3 s4 s5 s6 s7 s8 dk w0 w1 ol hd lg pl pr cS x tl tw p2 ou co of_ H.size (hg0)) (vx_cwSW 5 hts hL_L_order_110 rfl rfl rfl (by decide +kernel) ⟨Nat.le_of_ble_eq_true rfl, Nat.le_of_ble_eq_true rfl⟩) ⟨kP_blind, kP_go hPc hKc hDc hFc hM hS⟩ rfl rfl hl.1 rfl (lv_room (Nat.le_of_ble_eq_true rfl)) dL_law_424 ⟨Nat.le_of_ble_eq_true rfl, Nat.le_of_ble_eq_true rfl⟩) hS (fun q _ h => hFc q h) hFc (fun r1 u t H1 locs ht hvm hw hB hz1 hk1 hS => ?_)
  obtain ⟨hP, hD, hK⟩ := kJ (wr := [(mo, .inr (19, [.int 0, .int 0, .int 0, .int 0, .int 0, .int 0, .int 0, .ref ti, .ref si, .ref lo, .ref lh, .ref lk, .ref sp, .ref st, .ref pa, .ref br, .ref sg, .int 0, .int 0, .int 0, .int 0, .int 0, .int 0, .long 0, .long 0, .long 0, .long 0, .int 0])), (lo, .inr (3, [.int 0, .ref (z 0), .int 0]))]) (w1 := [(ou, .inl (co, 1, .inr (.inl (vp_updL of_ 0 0))))]) (t1 := []) hP hD hK [0, 1, 2, 6, 7, 3, 4, 5, 10] [8, 9] rfl rfl (by decide) (by decide) hk1 hFc ht hvm hB
  generalize H1 = H at hP hS ⊢
  have hP : va_P (dC, dI) vwCl [(mo, .inr (19, [.int 0, .int 0, .int 0, .int 0, .int 0, .int 0, .int 0, .ref ti, .ref si, .ref lo, .ref lh, .ref lk, .ref sp, .ref st, .ref pa, .ref br, .ref sg, .int 0, .int 0, .int 0, .int 0, .int 0, .int 0, .long 0, .long 0, .long 0, .long 0, .int 0])), (lo, .inr (3, [.int 0, .ref (z 0), .int 0])), (ou, .inl (co, 1, .inr (.inl (vp_updL of_ 0 0))))] H := hP
  have hD : va_D A [(mo, .inr (19, [.int 0, .int 0, .int 0, .int 0, .int 0, .int 0, .int 0, .ref ti, .ref si, .ref lo, .ref lh, .ref lk, .ref sp, .ref st, .ref pa, .ref br, .ref sg, .int 0, .int 0, .int 0, .int 0, .int 0, .int 0, .long 0, .long 0, .long 0, .long 0, .int 0])), (lo, .inr (3, [.int 0, .ref (z 0), .int 0])), (ou, .inl (co, 1, .inr (.inl (vp_updL of_ 0 0))))] := hD
  have hK : va_K (dC, dI) vwCl [(cS, .object RX8), (co, .long)] s := hK
  obtain rfl : 0 = r1 := hw
  refine lv_istore (lv' := [(6, .int 0), (0, .ref b), (1, .ref x), (2, .ref mo), (3, .ref ou), (4, .ref od_), (5, .int 0)]) hx hb dL_law_427 hl (by decide) rfl (fun ls hl => ?_)
  refine lv_aload_n hx hb dL_law_429 rfl (lv_at hl 3 rfl) ?_
  refine lv_aload_n hx hb dL_law_430 rfl (lv_at hl 1 rfl) ?_
  refine lv_iload hx hb dL_law_431 (lv_at hl 6 rfl) ?_
  refine lv_iconst (v := 1) hx hb dL_law_433 (by decide) ?_
  refine lv_iadd hx hb dL_law_434 ?_
  refine kc_i (y := 1) (by decide +kernel) ?_
  refine va_sld hx hb hX hbl hbA hS (pk_in 1 4 (by decide) rfl) dL_law_435 ?_
  refine kc_i (y := rw) (hs1 : xs 1 = rw) ?_
  refine lv_i2c (v := 115) hx hb dL_law_436 hch ?_
  refine lv_aload_n hx hb dL_law_437 rfl (lv_at hl 1 rfl) ?_
  refine lv_iload hx hb dL_law_438 (lv_at hl 6 rfl) ?_
  refine lv_iconst (v := 2) hx hb dL_law_440 (by decide) ?_
  refine lv_iadd hx hb dL_law_441 ?_
  refine kc_i (y := 2) (by decide +kernel) ?_
  refine va_sld hx hb hX hbl hbA hS (pk_in 2 4 (by decide) rfl) dL_law_442 ?_
  refine kc_i (y := 0) (hs2 : xs 2 = 0) ?_
  refine lv_aload_n hx hb dL_law_443 rfl (lv_at hl 1 rfl) ?_
  refine lv_iload hx hb dL_law_444 (lv_at hl 6 rfl) ?_
  refine lv_iconst (v := 3) hx hb dL_law_446 (by decide) ?_
  refine lv_iadd hx hb dL_law_447 ?_
  refine kc_i (y := 3) (by decide +kernel) ?_
  refine va_sld hx hb hX hbl hbA hS (pk_in 3 4 (by decide) rfl) dL_law_448 ?_
  refine kc_i (y := p2) (hs3 : xs 3 = p2) ?_
  have hPc := hP.sub (ws' := [(mo, .inr (19, [.int 0, .int 0, .int 0, .int 0, .int 0, .int 0, .int 0, .ref ti, .ref si, .ref lo, .ref lh, .ref lk, .ref sp, .ref st, .ref pa, .ref br, .ref sg, .int 0, .int 0, .int 0, .int 0, .int 0, .int 0, .long 0, .long 0, .long 0, .long 0, .int 0])), (lo, .inr (3, [.int 0, .ref (z 0), .int 0]))]) [0, 1] rfl
  have hDc := hD.sub (ws' := [(mo, .inr (19, [.int 0, .int 0, .int 0, .int 0, .int 0, .int 0, .int 0, .ref ti, .ref si, .ref lo, .ref lh, .ref lk, .ref sp, .ref st, .ref pa, .ref br, .ref sg, .int 0, .int 0, .int 0, .int 0, .int 0, .int 0, .long 0, .long 0, .long 0, .long 0, .int 0])), (lo, .inr (3, [.int 0, .ref (z 0), .int 0]))]) [0, 1] (by decide) rfl
  have hKc := hK.sub (tys' := []) [] rfl
  have hFc := va_free (wc := [(mo, .inr (19, [.int 0, .int 0, .int 0, .int 0, .int 0, .int 0, .int 0, .ref ti, .ref si, .ref lo, .ref lh, .ref lk, .ref sp, .ref st, .ref pa, .ref br, .ref sg, .int 0, .int 0, .int 0, .int 0, .int 0, .int 0, .long 0, .long 0, .long 0, .long 0, .int 0])), (lo, .inr (3, [.int 0, .ref (z 0), .int 0]))]) hD hS hA [0, 1] rfl
  refine va_calli (va_runV (As := [.int 115, .int 0, .int p2]) (rest := []) ⟨hx, hb, hml, hown, hts⟩ (k_m_order_s0 l dC dI z zK zV p2 mo ti si lo lh lk sp st pa br sg 0 H.size (hg0)) (cwV 3 hts hL_X15_order_113 rfl rfl rfl (by decide +kernel) ⟨Nat.le_of_ble_eq_true rfl, Nat.le_of_ble_eq_true rfl⟩) ⟨kP_blind, va_recv hKc hPc (ci := 19) (q0 := 0) rfl rfl, kP_go hPc hKc hDc hFc hM hS⟩ rfl rfl hl.1 rfl (lv_room (Nat.le_of_ble_eq_true rfl)) dL_law_449 ⟨Nat.le_of_ble_eq_true rfl, Nat.le_of_ble_eq_true rfl⟩) hS (fun q _ h => hFc q h) hFc (fun r2 u t H1 locs ht hvm hw hB hz1 hk1 hS => ?_)
  obtain ⟨hP, hD, hK⟩ := kJ (wr := [(ou, .inl (co, 1, .inr (.inl (vp_updL of_ 0 0))))]) (w1 := [(mo, .inr (19, [.int 0, .int 0, .int 0, .int 0, .int 0, .int 0, .int 0, .ref ti, .ref si, .ref lo, .ref lh, .ref lk, .ref sp, .ref st, .ref pa, .ref br, .ref sg, .int 0, .int 0, .int 0, .int 0, .int 0, .int 0, .long 0, .long 0, .long 0, .long 0, .int 0]))]) (t1 := []) hP hD hK [0, 1] [2] rfl rfl (by decide) (by decide) hk1 hFc ht hvm hB
  generalize H1 = H at hP hS ⊢
  have hP : va_P (dC, dI) vwCl [(ou, .inl (co, 1, .inr (.inl (vp_updL of_ 0 0)))), (mo, .inr (19, [.int 0, .int 0, .int 0, .int 0, .int 0, .int 0, .int 0, .ref ti, .ref si, .ref lo, .ref lh, .ref lk, .ref sp, .ref st, .ref pa, .ref br, .ref sg, .int 0, .int 0, .int 0, .int 0, .int 0, .int 0, .long 0, .long 0, .long 0, .long 0, .int 0]))] H := hP
  have hD : va_D A [(ou, .inl (co, 1, .inr (.inl (vp_updL of_ 0 0)))), (mo, .inr (19, [.int 0, .int 0, .int 0, .int 0, .int 0, .int 0, .int 0, .ref ti, .ref si, .ref lo, .ref lh, .ref lk, .ref sp, .ref st, .ref pa, .ref br, .ref sg, .int 0, .int 0, .int 0, .int 0, .int 0, .int 0, .long 0, .long 0, .long 0, .long 0, .int 0]))] := hD
  have hK : va_K (dC, dI) vwCl [(cS, .object RX8), (co, .long)] s := hK
  obtain rfl : 0 = r2 := hw
  refine lv_istore (lv' := [(7, .int 0), (6, .int 0), (0, .ref b), (1, .ref x), (2, .ref mo), (3, .ref ou), (4, .ref od_), (5, .int 0)]) hx hb dL_law_452 hl (by decide) rfl (fun ls hl => ?_)
  refine lv_aload_n hx hb dL_law_454 rfl (lv_at hl 4 rfl) ?_
  have hPc := hP.sub (ws' := [(mo, .inr (19, [.int 0, .int 0, .int 0, .int 0, .int 0, .int 0, .int 0, .ref ti, .ref si, .ref lo, .ref lh, .ref lk, .ref sp, .ref st, .ref pa, .ref br, .ref sg, .int 0, .int 0, .int 0, .int 0, .int 0, .int 0, .long 0, .long 0, .long 0, .long 0, .int 0]))]) [1] rfl
  have hDc := hD.sub (ws' := [(mo, .inr (19, [.int 0, .int 0, .int 0, .int 0, .int 0, .int 0, .int 0, .ref ti, .ref si, .ref lo, .ref lh, .ref lk, .ref sp, .ref st, .ref pa, .ref br, .ref sg, .int 0, .int 0, .int 0, .int 0, .int 0, .int 0, .long 0, .long 0, .long 0, .long 0, .int 0]))]) [1] (by decide) rfl
  have hKc := hK.sub (tys' := []) [] rfl
  have hFc := va_free (wc := [(mo, .inr (19, [.int 0, .int 0, .int 0, .int 0, .int 0, .int 0, .int 0, .ref ti, .ref si, .ref lo, .ref lh, .ref lk, .ref sp, .ref st, .ref pa, .ref br, .ref sg, .int 0, .int 0, .int 0, .int 0, .int 0, .int 0, .long 0, .long 0, .long 0, .long 0, .int 0]))]) hD hS hA [1] rfl
  refine va_calli (va_runV (As := []) (rest := []) ⟨hx, hb, hml, hown, hts⟩ (k_m_thrown l dC dI z zK zV mo ti si lo lh lk sp st pa br sg 0 0 0 0 0 0 0 0 0 0 0 0 0 0 0 0 0 0 H.size) (cwV 0 hts hL_X15_thrown_100 rfl rfl rfl (by decide +kernel) ⟨Nat.le_of_ble_eq_true rfl, Nat.le_of_ble_eq_true rfl⟩) ⟨kP_blind, va_recv hKc hPc (ci := 19) (q0 := 0) rfl rfl, kP_go hPc hKc hDc hFc hM hS⟩ rfl rfl hl.1 rfl (lv_room (Nat.le_of_ble_eq_true rfl)) dL_law_455 ⟨Nat.le_of_ble_eq_true rfl, Nat.le_of_ble_eq_true rfl⟩) hS (fun q _ h => hFc q h) hFc (fun r3 u t H1 locs ht hvm hw hB hz1 hk1 hS => ?_)
  obtain ⟨hP, hD, hK⟩ := kJ (wr := [(ou, .inl (co, 1, .inr (.inl (vp_updL of_ 0 0))))]) (w1 := [(mo, .inr (19, [.int 0, .int 0, .int 0, .int 0, .int 0, .int 0, .int 0, .ref ti, .ref si, .ref lo, .ref lh, .ref lk, .ref sp, .ref st, .ref pa, .ref br, .ref sg, .int 0, .int 0, .int 0, .int 0, .int 0, .int 0, .long 0, .long 0, .long 0, .long 0, .int 0]))]) (t1 := []) hP hD hK [1] [0] rfl rfl (by decide) (by decide) hk1 hFc ht hvm hB
  generalize H1 = H at hP hS ⊢
  have hP : va_P (dC, dI) vwCl [(ou, .inl (co, 1, .inr (.inl (vp_updL of_ 0 0)))), (mo, .inr (19, [.int 0, .int 0, .int 0, .int 0, .int 0, .int 0, .int 0, .ref ti, .ref si, .ref lo, .ref lh, .ref lk, .ref sp, .ref st, .ref pa, .ref br, .ref sg, .int 0, .int 0, .int 0, .int 0, .int 0, .int 0, .long 0, .long 0, .long 0, .long 0, .int 0]))] H := hP
  have hD : va_D A [(ou, .inl (co, 1, .inr (.inl (vp_updL of_ 0 0)))), (mo, .inr (19, [.int 0, .int 0, .int 0, .int 0, .int 0, .int 0, .int 0, .ref ti, .ref si, .ref lo, .ref lh, .ref lk, .ref sp, .ref st, .ref pa, .ref br, .ref sg, .int 0, .int 0, .int 0, .int 0, .int 0, .int 0, .long 0, .long 0, .long 0, .long 0, .int 0]))] := hD
  have hK : va_K (dC, dI) vwCl [(cS, .object RX8), (co, .long)] s := hK
  obtain rfl : 0 = r3 := hw
  refine lv_iload hx hb dL_law_458 (lv_at hl 1 rfl) ?_
  refine lv_icmp_eq (tgt := 465) hx hb dL_law_460 (by decide) (fun _ => ?_) (fun c_ => absurd (by decide +kernel) c_)
  refine lv_iload hx hb dL_law_465 (lv_at hl 1 rfl) ?_
  refine lv_if_ne (tgt := 482) hx hb dL_law_467 (by decide) (fun c_ => absurd (by decide +kernel) c_) (fun _ => ?_)
  refine lv_aload_n hx hb dL_law_470 rfl (lv_at hl 5 rfl) ?_
  refine lv_iconst (v := 0) hx hb dL_law_471 (by decide) ?_
  refine va_lald hx hb hK hP 0 1 rfl rfl (pk_in 0 1 (by decide) rfl) dL_law_472 ?_
  refine kc_v (y := .long 0) rfl ?_
  refine lv_iload hx hb dL_law_473 (lv_at hl 0 rfl) ?_
  refine lv_i2l (v := 0) hx hb dL_law_475 (by decide +kernel) ?_
  refine W.lcmp hx hb dL_law_476 ?_
  refine kc_i (y := 0) (by decide +kernel) ?_
  refine lv_if_eq (tgt := 482) hx hb dL_law_477 (by decide) (fun _ => ?_) (fun c_ => absurd (by decide +kernel) c_)
  refine lv_goto (tgt := 1684) hx hb dL_law_482 (by decide) ?_
  exact la_tail (dC := dC) (dI := dI) hst C0 hM hA hAl H locs hS ls (lv_sub hl [2, 7] rfl) (by omega) (by omega)
set_option maxHeartbeats 8000000 in
set_option maxRecDepth 100000 in
theorem la_order_s1 {p : Program} {l : Launch} {e : Env} {s : State} {m : MethodId} {below : List Frame} {meth : Method} {c : Code} {dC : Nat → ClassId} {dI : Nat → Nat → Nat} {z zK zV : Nat → Nat} {b : Nat} {xs : Nat → Int32} {A : Nat → Prop} (hst : l.stackTraces = false) (C0 : lw_At p s m meth c b 4 xs) (hM : am z zK zV A s s.heap) (hA : ∀ q : Nat, s.heap.size ≤ q → A q) (hAl : ∀ q : Nat, A q → s.heap.size ≤ q) (sh : Nat) (rg : Nat) (mf : Nat) (mm : Nat) (mz : Nat) (ma : Nat) (sa : Nat) (s0 : Nat) (s1 : Nat) (s2 : Nat) (s3 : Nat) (s4 : Nat) (s5 : Nat) (s6 : Nat) (s7 : Nat) (s8 : Nat) (dk : Nat) (w0 : Nat) (w1 : Nat) (ol : Nat) (hd : Nat) (lg : Nat) (pl : Nat) (pr : Nat) (cS : ClassId) (x : Nat) (tl : Nat) (tw : Nat) (p2 : Int32) (mo : Nat) (ti : Nat) (si : Nat) (lo : Nat) (lh : Nat) (lk : Nat) (sp : Nat) (st : Nat) (pa : Nat) (br : Nat) (sg : Nat) (ou : Nat) (co : ClassId) (of_ : Nat → Int64) (od_ : Nat) (rw : Int32) (hg0 : (0 : Int32) ≤ p2 ∧ p2 ≤ 2) (hs1 : xs 1 = rw) (hs2 : xs 2 = 1) (hs3 : xs 3 = p2) (hch : (rw.toUInt32 % 65536).toInt32 = 115) (H : Heap) (locs : List Loc) (hK : va_K (dC, dI) vwCl [(cS, .object RX8), (co, .long)] s) (hP : va_P (dC, dI) vwCl [(x, .inr (15, [.ref sh, .ref tl, .ref tw, .int 0])), (tl, .inr (3, [.int 0, .ref (z 0), .int 0])), (sh, .inr (13, [.ref rg, .ref dk, .ref hd, .ref lg, .ref pl, .ref pr, .int 0, .int 0, .int 0, .int 0, .int 0, .int 0, .int 0, .int 0, .int 0, .int 0, .int 0])), (rg, .inr (11, [.ref mf, .ref mm, .ref mz, .ref ma, .ref sa, .int 0])), (sa, .inl (cS, 9, .inr (.inr (.inr (.inr (va_up (va_up (va_up (va_up (va_up (va_up (va_up (va_up (va_up (fun _ => none) 0 (some s0)) 1 (some s1)) 2 (some s2)) 3 (some s3)) 4 (some s4)) 5 (some s5)) 6 (some s6)) 7 (some s7)) 8 (some s8))))))), (s1, .inr (12, [.int 7, .int 5, .ref mf, .int 1, .int 0, .int 900, .int 0, .int 0])), (dk, .inr (4, [.ref w0, .ref w1, .ref ol, .int 0, .int 0, .int 0, .int 0])), (ol, .inr (3, [.int 0, .ref (z 0), .int 0])), (mo, .inr (19, [.int 0, .int 0, .int 0, .int 0, .int 0, .int 0, .int 0, .ref ti, .ref si, .ref lo, .ref lh, .ref lk, .ref sp, .ref st, .ref pa, .ref br, .ref sg, .int 0, .int 0, .int 0, .int 0, .int 0, .int 0, .long 0, .long 0, .long 0, .long 0, .int 0])), (lo, .inr (3, [.int 0, .ref (z 0), .int 0])), (ou, .inl (co, 1, .inr (.inl of_)))] H) (hD : va_D A [(x, .inr (15, [.ref sh, .ref tl, .ref tw, .int 0])), (tl, .inr (3, [.int 0, .ref (z 0), .int 0])), (sh, .inr (13, [.ref rg, .ref dk, .ref hd, .ref lg, .ref pl, .ref pr, .int 0, .int 0, .int 0, .int 0, .int 0, .int 0, .int 0, .int 0, .int 0, .int 0, .int 0])), (rg, .inr (11, [.ref mf, .ref mm, .ref mz, .ref ma, .ref sa, .int 0])), (sa, .inl (cS, 9, .inr (.inr (.inr (.inr (va_up (va_up (va_up (va_up (va_up (va_up (va_up (va_up (va_up (fun _ => none) 0 (some s0)) 1 (some s1)) 2 (some s2)) 3 (some s3)) 4 (some s4)) 5 (some s5)) 6 (some s6)) 7 (some s7)) 8 (some s8))))))), (s1, .inr (12, [.int 7, .int 5, .ref mf, .int 1, .int 0, .int 900, .int 0, .int 0])), (dk, .inr (4, [.ref w0, .ref w1, .ref ol, .int 0, .int 0, .int 0, .int 0])), (ol, .inr (3, [.int 0, .ref (z 0), .int 0])), (mo, .inr (19, [.int 0, .int 0, .int 0, .int 0, .int 0, .int 0, .int 0, .ref ti, .ref si, .ref lo, .ref lh, .ref lk, .ref sp, .ref st, .ref pa, .ref br, .ref sg, .int 0, .int 0, .int 0, .int 0, .int 0, .int 0, .long 0, .long 0, .long 0, .long 0, .int 0])), (lo, .inr (3, [.int 0, .ref (z 0), .int 0])), (ou, .inl (co, 1, .inr (.inl of_)))]) (hS : va_S A s.heap H locs) (ls : Array Slot) (hl : lv_has ls 10 [(0, .ref b), (1, .ref x), (2, .ref mo), (3, .ref ou), (4, .ref od_), (5, .int 0)]) : W p l e room_1 s m #[Value.ref b] below meth c H locs 100 1400 (lw_Z below #[Value.ref b] s) (F0 m 403 ls []) := by
  obtain ⟨hx, hb, hr, hml, hown, hts, hX, hbl, hlocks, hgv⟩ := id C0
  have hbA : ¬ A b := fun h => absurd (hAl b h) (Nat.not_le.mpr hbl)
  refine lv_aload_n hx hb dL_law_403 rfl (lv_at hl 1 rfl) ?_
  refine lv_aload_n hx hb dL_law_404 rfl (lv_at hl 0 rfl) ?_
  refine lv_iload hx hb dL_law_405 (lv_at hl 5 rfl) ?_
  refine lv_iconst (v := 1) hx hb dL_law_407 (by decide) ?_
  refine lv_iadd hx hb dL_law_408 ?_
  refine kc_i (y := 1) (by decide +kernel) ?_
  refine va_sld hx hb hX hbl hbA hS (pk_in 1 4 (by decide) rfl) dL_law_409 ?_
  refine kc_i (y := rw) (hs1 : xs 1 = rw) ?_
  refine lv_i2c (v := 115) hx hb dL_law_410 hch ?_
  refine lv_aload_n hx hb dL_law_411 rfl (lv_at hl 0 rfl) ?_
  refine lv_iload hx hb dL_law_412 (lv_at hl 5 rfl) ?_
  refine lv_iconst (v := 2) hx hb dL_law_414 (by decide) ?_
  refine lv_iadd hx hb dL_law_415 ?_
  refine kc_i (y := 2) (by decide +kernel) ?_
  refine va_sld hx hb hX hbl hbA hS (pk_in 2 4 (by decide) rfl) dL_law_416 ?_
  refine kc_i (y := 1) (hs2 : xs 2 = 1) ?_
  refine lv_aload_n hx hb dL_law_417 rfl (lv_at hl 0 rfl) ?_
  refine lv_iload hx hb dL_law_418 (lv_at hl 5 rfl) ?_
  refine lv_iconst (v := 3) hx hb dL_law_420 (by decide) ?_
  refine lv_iadd hx hb dL_law_421 ?_
  refine kc_i (y := 3) (by decide +kernel) ?_
  refine va_sld hx hb hX hbl hbA hS (pk_in 3 4 (by decide) rfl) dL_law_422 ?_
  refine kc_i (y := p2) (hs3 : xs 3 = p2) ?_
  refine lv_aload_n hx hb dL_law_423 rfl (lv_at hl 3 rfl) ?_
  have hPc := hP.sub (ws' := [(x, .inr (15, [.ref sh, .ref tl, .ref tw, .int 0])), (tl, .inr (3, [.int 0, .ref (z 0), .int 0])), (sh, .inr (13, [.ref rg, .ref dk, .ref hd, .ref lg, .ref pl, .ref pr, .int 0, .int 0, .int 0, .int 0, .int 0, .int 0, .int 0, .int 0, .int 0, .int 0, .int 0])), (dk, .inr (4, [.ref w0, .ref w1, .ref ol, .int 0, .int 0, .int 0, .int 0])), (ol, .inr (3, [.int 0, .ref (z 0), .int 0])), (rg, .inr (11, [.ref mf, .ref mm, .ref mz, .ref ma, .ref sa, .int 0])), (sa, .inl (cS, 9, .inr (.inr (.inr (.inr (va_up (va_up (va_up (va_up (va_up (va_up (va_up (va_up (va_up (fun _ => none) 0 (some s0)) 1 (some s1)) 2 (some s2)) 3 (some s3)) 4 (some s4)) 5 (some s5)) 6 (some s6)) 7 (some s7)) 8 (some s8))))))), (s1, .inr (12, [.int 7, .int 5, .ref mf, .int 1, .int 0, .int 900, .int 0, .int 0])), (ou, .inl (co, 1, .inr (.inl of_)))]) [0, 1, 2, 6, 7, 3, 4, 5, 10] rfl
  have hDc := hD.sub (ws' := [(x, .inr (15, [.ref sh, .ref tl, .ref tw, .int 0])), (tl, .inr (3, [.int 0, .ref (z 0), .int 0])), (sh, .inr (13, [.ref rg, .ref dk, .ref hd, .ref lg, .ref pl, .ref pr, .int 0, .int 0, .int 0, .int 0, .int 0, .int 0, .int 0, .int 0, .int 0, .int 0, .int 0])), (dk, .inr (4, [.ref w0, .ref w1, .ref ol, .int 0, .int 0, .int 0, .int 0])), (ol, .inr (3, [.int 0, .ref (z 0), .int 0])), (rg, .inr (11, [.ref mf, .ref mm, .ref mz, .ref ma, .ref sa, .int 0])), (sa, .inl (cS, 9, .inr (.inr (.inr (.inr (va_up (va_up (va_up (va_up (va_up (va_up (va_up (va_up (va_up (fun _ => none) 0 (some s0)) 1 (some s1)) 2 (some s2)) 3 (some s3)) 4 (some s4)) 5 (some s5)) 6 (some s6)) 7 (some s7)) 8 (some s8))))))), (s1, .inr (12, [.int 7, .int 5, .ref mf, .int 1, .int 0, .int 900, .int 0, .int 0])), (ou, .inl (co, 1, .inr (.inl of_)))]) [0, 1, 2, 6, 7, 3, 4, 5, 10] (by decide) rfl
  have hKc := hK.sub (tys' := [(cS, .object RX8), (co, .long)]) [0, 1] rfl
  have hFc := va_free (wc := [(x, .inr (15, [.ref sh, .ref tl, .ref tw, .int 0])), (tl, .inr (3, [.int 0, .ref (z 0), .int 0])), (sh, .inr (13, [.ref rg, .ref dk, .ref hd, .ref lg, .ref pl, .ref pr, .int 0, .int 0, .int 0, .int 0, .int 0, .int 0, .int 0, .int 0, .int 0, .int 0, .int 0])), (dk, .inr (4, [.ref w0, .ref w1, .ref ol, .int 0, .int 0, .int 0, .int 0])), (ol, .inr (3, [.int 0, .ref (z 0), .int 0])), (rg, .inr (11, [.ref mf, .ref mm, .ref mz, .ref ma, .ref sa, .int 0])), (sa, .inl (cS, 9, .inr (.inr (.inr (.inr (va_up (va_up (va_up (va_up (va_up (va_up (va_up (va_up (va_up (fun _ => none) 0 (some s0)) 1 (some s1)) 2 (some s2)) 3 (some s3)) 4 (some s4)) 5 (some s5)) 6 (some s6)) 7 (some s7)) 8 (some s8))))))), (s1, .inr (12, [.int 7, .int 5, .ref mf, .int 1, .int 0, .int 900, .int 0, .int 0])), (ou, .inl (co, 1, .inr (.inl of_)))]) hD hS hA [0, 1, 2, 6, 7, 3, 4, 5, 10] rfl
  refine va_calli (vx_runSW (As := [.ref x, .int 115, .int 1, .int p2, .ref ou]) (rest := []) ⟨hx, hb, hml, hown, hts⟩ (k_l_order_s1 l dC dI z zK zV sh rg mf mm mz ma sa s0 s1 s2 s3 s4 s5 s6 s7 s8 dk w0 w1 ol hd lg pl pr cS x tl tw p2 ou co of_ H.size (hg0)) (vx_cwSW 5 hts hL_L_order_110 rfl rfl rfl (by decide +kernel) ⟨Nat.le_of_ble_eq_true rfl, Nat.le_of_ble_eq_true rfl⟩) ⟨kP_blind, kP_go hPc hKc hDc hFc hM hS⟩ rfl rfl hl.1 rfl (lv_room (Nat.le_of_ble_eq_true rfl)) dL_law_424 ⟨Nat.le_of_ble_eq_true rfl, Nat.le_of_ble_eq_true rfl⟩) hS (fun q _ h => hFc q h) hFc (fun r1 u t H1 locs ht hvm hw hB hz1 hk1 hS => ?_)
  obtain ⟨hP, hD, hK⟩ := kJ (wr := [(mo, .inr (19, [.int 0, .int 0, .int 0, .int 0, .int 0, .int 0, .int 0, .ref ti, .ref si, .ref lo, .ref lh, .ref lk, .ref sp, .ref st, .ref pa, .ref br, .ref sg, .int 0, .int 0, .int 0, .int 0, .int 0, .int 0, .long 0, .long 0, .long 0, .long 0, .int 0])), (lo, .inr (3, [.int 0, .ref (z 0), .int 0]))]) (w1 := [(ou, .inl (co, 1, .inr (.inl (vp_updL of_ 0 0))))]) (t1 := []) hP hD hK [0, 1, 2, 6, 7, 3, 4, 5, 10] [8, 9] rfl rfl (by decide) (by decide) hk1 hFc ht hvm hB
  generalize H1 = H at hP hS ⊢
  have hP : va_P (dC, dI) vwCl [(mo, .inr (19, [.int 0, .int 0, .int 0, .int 0, .int 0, .int 0, .int 0, .ref ti, .ref si, .ref lo, .ref lh, .ref lk, .ref sp, .ref st, .ref pa, .ref br, .ref sg, .int 0, .int 0, .int 0, .int 0, .int 0, .int 0, .long 0, .long 0, .long 0, .long 0, .int 0])), (lo, .inr (3, [.int 0, .ref (z 0), .int 0])), (ou, .inl (co, 1, .inr (.inl (vp_updL of_ 0 0))))] H := hP
  have hD : va_D A [(mo, .inr (19, [.int 0, .int 0, .int 0, .int 0, .int 0, .int 0, .int 0, .ref ti, .ref si, .ref lo, .ref lh, .ref lk, .ref sp, .ref st, .ref pa, .ref br, .ref sg, .int 0, .int 0, .int 0, .int 0, .int 0, .int 0, .long 0, .long 0, .long 0, .long 0, .int 0])), (lo, .inr (3, [.int 0, .ref (z 0), .int 0])), (ou, .inl (co, 1, .inr (.inl (vp_updL of_ 0 0))))] := hD
  have hK : va_K (dC, dI) vwCl [(cS, .object RX8), (co, .long)] s := hK
  obtain rfl : 0 = r1 := hw
  refine lv_istore (lv' := [(6, .int 0), (0, .ref b), (1, .ref x), (2, .ref mo), (3, .ref ou), (4, .ref od_), (5, .int 0)]) hx hb dL_law_427 hl (by decide) rfl (fun ls hl => ?_)
  refine lv_aload_n hx hb dL_law_429 rfl (lv_at hl 3 rfl) ?_
  refine lv_aload_n hx hb dL_law_430 rfl (lv_at hl 1 rfl) ?_
  refine lv_iload hx hb dL_law_431 (lv_at hl 6 rfl) ?_
  refine lv_iconst (v := 1) hx hb dL_law_433 (by decide) ?_
  refine lv_iadd hx hb dL_law_434 ?_
  refine kc_i (y := 1) (by decide +kernel) ?_
  refine va_sld hx hb hX hbl hbA hS (pk_in 1 4 (by decide) rfl) dL_law_435 ?_
  refine kc_i (y := rw) (hs1 : xs 1 = rw) ?_
  refine lv_i2c (v := 115) hx hb dL_law_436 hch ?_
  refine lv_aload_n hx hb dL_law_437 rfl (lv_at hl 1 rfl) ?_
  refine lv_iload hx hb dL_law_438 (lv_at hl 6 rfl) ?_
  refine lv_iconst (v := 2) hx hb dL_law_440 (by decide) ?_
  refine lv_iadd hx hb dL_law_441 ?_
  refine kc_i (y := 2) (by decide +kernel) ?_
  refine va_sld hx hb hX hbl hbA hS (pk_in 2 4 (by decide) rfl) dL_law_442 ?_
  refine kc_i (y := 1) (hs2 : xs 2 = 1) ?_
  refine lv_aload_n hx hb dL_law_443 rfl (lv_at hl 1 rfl) ?_
  refine lv_iload hx hb dL_law_444 (lv_at hl 6 rfl) ?_
  refine lv_iconst (v := 3) hx hb dL_law_446 (by decide) ?_
  refine lv_iadd hx hb dL_law_447 ?_
  refine kc_i (y := 3) (by decide +kernel) ?_
  refine va_sld hx hb hX hbl hbA hS (pk_in 3 4 (by decide) rfl) dL_law_448 ?_
  refine kc_i (y := p2) (hs3 : xs 3 = p2) ?_
  have hPc := hP.sub (ws' := [(mo, .inr (19, [.int 0, .int 0, .int 0, .int 0, .int 0, .int 0, .int 0, .ref ti, .ref si, .ref lo, .ref lh, .ref lk, .ref sp, .ref st, .ref pa, .ref br, .ref sg, .int 0, .int 0, .int 0, .int 0, .int 0, .int 0, .long 0, .long 0, .long 0, .long 0, .int 0])), (lo, .inr (3, [.int 0, .ref (z 0), .int 0]))]) [0, 1] rfl
  have hDc := hD.sub (ws' := [(mo, .inr (19, [.int 0, .int 0, .int 0, .int 0, .int 0, .int 0, .int 0, .ref ti, .ref si, .ref lo, .ref lh, .ref lk, .ref sp, .ref st, .ref pa, .ref br, .ref sg, .int 0, .int 0, .int 0, .int 0, .int 0, .int 0, .long 0, .long 0, .long 0, .long 0, .int 0])), (lo, .inr (3, [.int 0, .ref (z 0), .int 0]))]) [0, 1] (by decide) rfl
  have hKc := hK.sub (tys' := []) [] rfl
  have hFc := va_free (wc := [(mo, .inr (19, [.int 0, .int 0, .int 0, .int 0, .int 0, .int 0, .int 0, .ref ti, .ref si, .ref lo, .ref lh, .ref lk, .ref sp, .ref st, .ref pa, .ref br, .ref sg, .int 0, .int 0, .int 0, .int 0, .int 0, .int 0, .long 0, .long 0, .long 0, .long 0, .int 0])), (lo, .inr (3, [.int 0, .ref (z 0), .int 0]))]) hD hS hA [0, 1] rfl
  refine va_calli (va_runV (As := [.int 115, .int 1, .int p2]) (rest := []) ⟨hx, hb, hml, hown, hts⟩ (k_m_order_s1 l dC dI z zK zV p2 mo ti si lo lh lk sp st pa br sg 0 H.size (hg0)) (cwV 3 hts hL_X15_order_113 rfl rfl rfl (by decide +kernel) ⟨Nat.le_of_ble_eq_true rfl, Nat.le_of_ble_eq_true rfl⟩) ⟨kP_blind, va_recv hKc hPc (ci := 19) (q0 := 0) rfl rfl, kP_go hPc hKc hDc hFc hM hS⟩ rfl rfl hl.1 rfl (lv_room (Nat.le_of_ble_eq_true rfl)) dL_law_449 ⟨Nat.le_of_ble_eq_true rfl, Nat.le_of_ble_eq_true rfl⟩) hS (fun q _ h => hFc q h) hFc (fun r2 u t H1 locs ht hvm hw hB hz1 hk1 hS => ?_)
  obtain ⟨hP, hD, hK⟩ := kJ (wr := [(ou, .inl (co, 1, .inr (.inl (vp_updL of_ 0 0))))]) (w1 := [(mo, .inr (19, [.int 0, .int 0, .int 0, .int 0, .int 0, .int 0, .int 0, .ref ti, .ref si, .ref lo, .ref lh, .ref lk, .ref sp, .ref st, .ref pa, .ref br, .ref sg, .int 0, .int 0, .int 0, .int 0, .int 0, .int 0, .long 0, .long 0, .long 0, .long 0, .int 0]))]) (t1 := []) hP hD hK [0, 1] [2] rfl rfl (by decide) (by decide) hk1 hFc ht hvm hB
  generalize H1 = H at hP hS ⊢
  have hP : va_P (dC, dI) vwCl [(ou, .inl (co, 1, .inr (.inl (vp_updL of_ 0 0)))), (mo, .inr (19, [.int 0, .int 0, .int 0, .int 0, .int 0, .int 0, .int 0, .ref ti, .ref si, .ref lo, .ref lh, .ref lk, .ref sp, .ref st, .ref pa, .ref br, .ref sg, .int 0, .int 0, .int 0, .int 0, .int 0, .int 0, .long 0, .long 0, .long 0, .long 0, .int 0]))] H := hP
  have hD : va_D A [(ou, .inl (co, 1, .inr (.inl (vp_updL of_ 0 0)))), (mo, .inr (19, [.int 0, .int 0, .int 0, .int 0, .int 0, .int 0, .int 0, .ref ti, .ref si, .ref lo, .ref lh, .ref lk, .ref sp, .ref st, .ref pa, .ref br, .ref sg, .int 0, .int 0, .int 0, .int 0, .int 0, .int 0, .long 0, .long 0, .long 0, .long 0, .int 0]))] := hD
  have hK : va_K (dC, dI) vwCl [(cS, .object RX8), (co, .long)] s := hK
  obtain rfl : 0 = r2 := hw
  refine lv_istore (lv' := [(7, .int 0), (6, .int 0), (0, .ref b), (1, .ref x), (2, .ref mo), (3, .ref ou), (4, .ref od_), (5, .int 0)]) hx hb dL_law_452 hl (by decide) rfl (fun ls hl => ?_)
  refine lv_aload_n hx hb dL_law_454 rfl (lv_at hl 4 rfl) ?_
  have hPc := hP.sub (ws' := [(mo, .inr (19, [.int 0, .int 0, .int 0, .int 0, .int 0, .int 0, .int 0, .ref ti, .ref si, .ref lo, .ref lh, .ref lk, .ref sp, .ref st, .ref pa, .ref br, .ref sg, .int 0, .int 0, .int 0, .int 0, .int 0, .int 0, .long 0, .long 0, .long 0, .long 0, .int 0]))]) [1] rfl
  have hDc := hD.sub (ws' := [(mo, .inr (19, [.int 0, .int 0, .int 0, .int 0, .int 0, .int 0, .int 0, .ref ti, .ref si, .ref lo, .ref lh, .ref lk, .ref sp, .ref st, .ref pa, .ref br, .ref sg, .int 0, .int 0, .int 0, .int 0, .int 0, .int 0, .long 0, .long 0, .long 0, .long 0, .int 0]))]) [1] (by decide) rfl
  have hKc := hK.sub (tys' := []) [] rfl
  have hFc := va_free (wc := [(mo, .inr (19, [.int 0, .int 0, .int 0, .int 0, .int 0, .int 0, .int 0, .ref ti, .ref si, .ref lo, .ref lh, .ref lk, .ref sp, .ref st, .ref pa, .ref br, .ref sg, .int 0, .int 0, .int 0, .int 0, .int 0, .int 0, .long 0, .long 0, .long 0, .long 0, .int 0]))]) hD hS hA [1] rfl
  refine va_calli (va_runV (As := []) (rest := []) ⟨hx, hb, hml, hown, hts⟩ (k_m_thrown l dC dI z zK zV mo ti si lo lh lk sp st pa br sg 0 0 0 0 0 0 0 0 0 0 0 0 0 0 0 0 0 0 H.size) (cwV 0 hts hL_X15_thrown_100 rfl rfl rfl (by decide +kernel) ⟨Nat.le_of_ble_eq_true rfl, Nat.le_of_ble_eq_true rfl⟩) ⟨kP_blind, va_recv hKc hPc (ci := 19) (q0 := 0) rfl rfl, kP_go hPc hKc hDc hFc hM hS⟩ rfl rfl hl.1 rfl (lv_room (Nat.le_of_ble_eq_true rfl)) dL_law_455 ⟨Nat.le_of_ble_eq_true rfl, Nat.le_of_ble_eq_true rfl⟩) hS (fun q _ h => hFc q h) hFc (fun r3 u t H1 locs ht hvm hw hB hz1 hk1 hS => ?_)
  obtain ⟨hP, hD, hK⟩ := kJ (wr := [(ou, .inl (co, 1, .inr (.inl (vp_updL of_ 0 0))))]) (w1 := [(mo, .inr (19, [.int 0, .int 0, .int 0, .int 0, .int 0, .int 0, .int 0, .ref ti, .ref si, .ref lo, .ref lh, .ref lk, .ref sp, .ref st, .ref pa, .ref br, .ref sg, .int 0, .int 0, .int 0, .int 0, .int 0, .int 0, .long 0, .long 0, .long 0, .long 0, .int 0]))]) (t1 := []) hP hD hK [1] [0] rfl rfl (by decide) (by decide) hk1 hFc ht hvm hB
  generalize H1 = H at hP hS ⊢
  have hP : va_P (dC, dI) vwCl [(ou, .inl (co, 1, .inr (.inl (vp_updL of_ 0 0)))), (mo, .inr (19, [.int 0, .int 0, .int 0, .int 0, .int 0, .int 0, .int 0, .ref ti, .ref si, .ref lo, .ref lh, .ref lk, .ref sp, .ref st, .ref pa, .ref br, .ref sg, .int 0, .int 0, .int 0, .int 0, .int 0, .int 0, .long 0, .long 0, .long 0, .long 0, .int 0]))] H := hP
  have hD : va_D A [(ou, .inl (co, 1, .inr (.inl (vp_updL of_ 0 0)))), (mo, .inr (19, [.int 0, .int 0, .int 0, .int 0, .int 0, .int 0, .int 0, .ref ti, .ref si, .ref lo, .ref lh, .ref lk, .ref sp, .ref st, .ref pa, .ref br, .ref sg, .int 0, .int 0, .int 0, .int 0, .int 0, .int 0, .long 0, .long 0, .long 0, .long 0, .int 0]))] := hD
  have hK : va_K (dC, dI) vwCl [(cS, .object RX8), (co, .long)] s := hK
  obtain rfl : 0 = r3 := hw
  refine lv_iload hx hb dL_law_458 (lv_at hl 1 rfl) ?_
  refine lv_icmp_eq (tgt := 465) hx hb dL_law_460 (by decide) (fun _ => ?_) (fun c_ => absurd (by decide +kernel) c_)
  refine lv_iload hx hb dL_law_465 (lv_at hl 1 rfl) ?_
  refine lv_if_ne (tgt := 482) hx hb dL_law_467 (by decide) (fun c_ => absurd (by decide +kernel) c_) (fun _ => ?_)
  refine lv_aload_n hx hb dL_law_470 rfl (lv_at hl 5 rfl) ?_
  refine lv_iconst (v := 0) hx hb dL_law_471 (by decide) ?_
  refine va_lald hx hb hK hP 0 1 rfl rfl (pk_in 0 1 (by decide) rfl) dL_law_472 ?_
  refine kc_v (y := .long 0) rfl ?_
  refine lv_iload hx hb dL_law_473 (lv_at hl 0 rfl) ?_
  refine lv_i2l (v := 0) hx hb dL_law_475 (by decide +kernel) ?_
  refine W.lcmp hx hb dL_law_476 ?_
  refine kc_i (y := 0) (by decide +kernel) ?_
  refine lv_if_eq (tgt := 482) hx hb dL_law_477 (by decide) (fun _ => ?_) (fun c_ => absurd (by decide +kernel) c_)
  refine lv_goto (tgt := 1684) hx hb dL_law_482 (by decide) ?_
  exact la_tail (dC := dC) (dI := dI) hst C0 hM hA hAl H locs hS ls (lv_sub hl [2, 7] rfl) (by omega) (by omega)
set_option maxHeartbeats 8000000 in
set_option maxRecDepth 100000 in
theorem la_order_s2 {p : Program} {l : Launch} {e : Env} {s : State} {m : MethodId} {below : List Frame} {meth : Method} {c : Code} {dC : Nat → ClassId} {dI : Nat → Nat → Nat} {z zK zV : Nat → Nat} {b : Nat} {xs : Nat → Int32} {A : Nat → Prop} (hst : l.stackTraces = false) (C0 : lw_At p s m meth c b 4 xs) (hM : am z zK zV A s s.heap) (hA : ∀ q : Nat, s.heap.size ≤ q → A q) (hAl : ∀ q : Nat, A q → s.heap.size ≤ q) (sh : Nat) (rg : Nat) (mf : Nat) (mm : Nat) (mz : Nat) (ma : Nat) (sa : Nat) (s0 : Nat) (s1 : Nat) (s2 : Nat) (s3 : Nat) (s4 : Nat) (s5 : Nat) (s6 : Nat) (s7 : Nat) (s8 : Nat) (dk : Nat) (w0 : Nat) (w1 : Nat) (ol : Nat) (hd : Nat) (lg : Nat) (pl : Nat) (pr : Nat) (cS : ClassId) (x : Nat) (tl : Nat) (tw : Nat) (p2 : Int32) (mo : Nat) (ti : Nat) (si : Nat) (lo : Nat) (lh : Nat) (lk : Nat) (sp : Nat) (st : Nat) (pa : Nat) (br : Nat) (sg : Nat) (ou : Nat) (co : ClassId) (of_ : Nat → Int64) (od_ : Nat) (rw : Int32) (hg0 : (0 : Int32) ≤ p2 ∧ p2 ≤ 2) (hs1 : xs 1 = rw) (hs2 : xs 2 = 2) (hs3 : xs 3 = p2) (hch : (rw.toUInt32 % 65536).toInt32 = 115) (H : Heap) (locs : List Loc) (hK : va_K (dC, dI) vwCl [(cS, .object RX8), (co, .long)] s) (hP : va_P (dC, dI) vwCl [(x, .inr (15, [.ref sh, .ref tl, .ref tw, .int 0])), (tl, .inr (3, [.int 0, .ref (z 0), .int 0])), (sh, .inr (13, [.ref rg, .ref dk, .ref hd, .ref lg, .ref pl, .ref pr, .int 0, .int 0, .int 0, .int 0, .int 0, .int 0, .int 0, .int 0, .int 0, .int 0, .int 0])), (rg, .inr (11, [.ref mf, .ref mm, .ref mz, .ref ma, .ref sa, .int 0])), (sa, .inl (cS, 9, .inr (.inr (.inr (.inr (va_up (va_up (va_up (va_up (va_up (va_up (va_up (va_up (va_up (fun _ => none) 0 (some s0)) 1 (some s1)) 2 (some s2)) 3 (some s3)) 4 (some s4)) 5 (some s5)) 6 (some s6)) 7 (some s7)) 8 (some s8))))))), (s2, .inr (12, [.int 3, .int 3, .ref mf, .int 1, .int 0, .int 900, .int 0, .int 0])), (dk, .inr (4, [.ref w0, .ref w1, .ref ol, .int 0, .int 0, .int 0, .int 0])), (ol, .inr (3, [.int 0, .ref (z 0), .int 0])), (mo, .inr (19, [.int 0, .int 0, .int 0, .int 0, .int 0, .int 0, .int 0, .ref ti, .ref si, .ref lo, .ref lh, .ref lk, .ref sp, .ref st, .ref pa, .ref br, .ref sg, .int 0, .int 0, .int 0, .int 0, .int 0, .int 0, .long 0, .long 0, .long 0, .long 0, .int 0])), (lo, .inr (3, [.int 0, .ref (z 0), .int 0])), (ou, .inl (co, 1, .inr (.inl of_)))] H) (hD : va_D A [(x, .inr (15, [.ref sh, .ref tl, .ref tw, .int 0])), (tl, .inr (3, [.int 0, .ref (z 0), .int 0])), (sh, .inr (13, [.ref rg, .ref dk, .ref hd, .ref lg, .ref pl, .ref pr, .int 0, .int 0, .int 0, .int 0, .int 0, .int 0, .int 0, .int 0, .int 0, .int 0, .int 0])), (rg, .inr (11, [.ref mf, .ref mm, .ref mz, .ref ma, .ref sa, .int 0])), (sa, .inl (cS, 9, .inr (.inr (.inr (.inr (va_up (va_up (va_up (va_up (va_up (va_up (va_up (va_up (va_up (fun _ => none) 0 (some s0)) 1 (some s1)) 2 (some s2)) 3 (some s3)) 4 (some s4)) 5 (some s5)) 6 (some s6)) 7 (some s7)) 8 (some s8))))))), (s2, .inr (12, [.int 3, .int 3, .ref mf, .int 1, .int 0, .int 900, .int 0, .int 0])), (dk, .inr (4, [.ref w0, .ref w1, .ref ol, .int 0, .int 0, .int 0, .int 0])), (ol, .inr (3, [.int 0, .ref (z 0), .int 0])), (mo, .inr (19, [.int 0, .int 0, .int 0, .int 0, .int 0, .int 0, .int 0, .ref ti, .ref si, .ref lo, .ref lh, .ref lk, .ref sp, .ref st, .ref pa, .ref br, .ref sg, .int 0, .int 0, .int 0, .int 0, .int 0, .int 0, .long 0, .long 0, .long 0, .long 0, .int 0])), (lo, .inr (3, [.int 0, .ref (z 0), .int 0])), (ou, .inl (co, 1, .inr (.inl of_)))]) (hS : va_S A s.heap H locs) (ls : Array Slot) (hl : lv_has ls 10 [(0, .ref b), (1, .ref x), (2, .ref mo), (3, .ref ou), (4, .ref od_), (5, .int 0)]) : W p l e room_1 s m #[Value.ref b] below meth c H locs 100 1400 (lw_Z below #[Value.ref b] s) (F0 m 403 ls []) := by
  obtain ⟨hx, hb, hr, hml, hown, hts, hX, hbl, hlocks, hgv⟩ := id C0
  have hbA : ¬ A b := fun h => absurd (hAl b h) (Nat.not_le.mpr hbl)
  refine lv_aload_n hx hb dL_law_403 rfl (lv_at hl 1 rfl) ?_
  refine lv_aload_n hx hb dL_law_404 rfl (lv_at hl 0 rfl) ?_
  refine lv_iload hx hb dL_law_405 (lv_at hl 5 rfl) ?_
  refine lv_iconst (v := 1) hx hb dL_law_407 (by decide) ?_
  refine lv_iadd hx hb dL_law_408 ?_
  refine kc_i (y := 1) (by decide +kernel) ?_
  refine va_sld hx hb hX hbl hbA hS (pk_in 1 4 (by decide) rfl) dL_law_409 ?_
  refine kc_i (y := rw) (hs1 : xs 1 = rw) ?_
  refine lv_i2c (v := 115) hx hb dL_law_410 hch ?_
  refine lv_aload_n hx hb dL_law_411 rfl (lv_at hl 0 rfl) ?_
  refine lv_iload hx hb dL_law_412 (lv_at hl 5 rfl) ?_
  refine lv_iconst (v := 2) hx hb dL_law_414 (by decide) ?_
  refine lv_iadd hx hb dL_law_415 ?_
  refine kc_i (y := 2) (by decide +kernel) ?_
  refine va_sld hx hb hX hbl hbA hS (pk_in 2 4 (by decide) rfl) dL_law_416 ?_
  refine kc_i (y := 2) (hs2 : xs 2 = 2) ?_
  refine lv_aload_n hx hb dL_law_417 rfl (lv_at hl 0 rfl) ?_
  refine lv_iload hx hb dL_law_418 (lv_at hl 5 rfl) ?_
  refine lv_iconst (v := 3) hx hb dL_law_420 (by decide) ?_
  refine lv_iadd hx hb dL_law_421 ?_
  refine kc_i (y := 3) (by decide +kernel) ?_
  refine va_sld hx hb hX hbl hbA hS (pk_in 3 4 (by decide) rfl) dL_law_422 ?_
  refine kc_i (y := p2) (hs3 : xs 3 = p2) ?_
  refine lv_aload_n hx hb dL_law_423 rfl (lv_at hl 3 rfl) ?_
  have hPc := hP.sub (ws' := [(x, .inr (15, [.ref sh, .ref tl, .ref tw, .int 0])), (tl, .inr (3, [.int 0, .ref (z 0), .int 0])), (sh, .inr (13, [.ref rg, .ref dk, .ref hd, .ref lg, .ref pl, .ref pr, .int 0, .int 0, .int 0, .int 0, .int 0, .int 0, .int 0, .int 0, .int 0, .int 0, .int 0])), (dk, .inr (4, [.ref w0, .ref w1, .ref ol, .int 0, .int 0, .int 0, .int 0])), (ol, .inr (3, [.int 0, .ref (z 0), .int 0])), (rg, .inr (11, [.ref mf, .ref mm, .ref mz, .ref ma, .ref sa, .int 0])), (sa, .inl (cS, 9, .inr (.inr (.inr (.inr (va_up (va_up (va_up (va_up (va_up (va_up (va_up (va_up (va_up (fun _ => none) 0 (some s0)) 1 (some s1)) 2 (some s2)) 3 (some s3)) 4 (some s4)) 5 (some s5)) 6 (some s6)) 7 (some s7)) 8 (some s8))))))), (s2, .inr (12, [.int 3, .int 3, .ref mf, .int 1, .int 0, .int 900, .int 0, .int 0])), (ou, .inl (co, 1, .inr (.inl of_)))]) [0, 1, 2, 6, 7, 3, 4, 5, 10] rfl
  have hDc := hD.sub (ws' := [(x, .inr (15, [.ref sh, .ref tl, .ref tw, .int 0])), (tl, .inr (3, [.int 0, .ref (z 0), .int 0])), (sh, .inr (13, [.ref rg, .ref dk, .ref hd, .ref lg, .ref pl, .ref pr, .int 0, .int 0, .int 0, .int 0, .int 0, .int 0, .int 0, .int 0, .int 0, .int 0, .int 0])), (dk, .inr (4, [.ref w0, .ref w1, .ref ol, .int 0, .int 0, .int 0, .int 0])), (ol, .inr (3, [.int 0, .ref (z 0), .int 0])), (rg, .inr (11, [.ref mf, .ref mm, .ref mz, .ref ma, .ref sa, .int 0])), (sa, .inl (cS, 9, .inr (.inr (.inr (.inr (va_up (va_up (va_up (va_up (va_up (va_up (va_up (va_up (va_up (fun _ => none) 0 (some s0)) 1 (some s1)) 2 (some s2)) 3 (some s3)) 4 (some s4)) 5 (some s5)) 6 (some s6)) 7 (some s7)) 8 (some s8))))))), (s2, .inr (12, [.int 3, .int 3, .ref mf, .int 1, .int 0, .int 900, .int 0, .int 0])), (ou, .inl (co, 1, .inr (.inl of_)))]) [0, 1, 2, 6, 7, 3, 4, 5, 10] (by decide) rfl
  have hKc := hK.sub (tys' := [(cS, .object RX8), (co, .long)]) [0, 1] rfl
  have hFc := va_free (wc := [(x, .inr (15, [.ref sh, .ref tl, .ref tw, .int 0])), (tl, .inr (3, [.int 0, .ref (z 0), .int 0])), (sh, .inr (13, [.ref rg, .ref dk, .ref hd, .ref lg, .ref pl, .ref pr, .int 0, .int 0, .int 0, .int 0, .int 0, .int 0, .int 0, .int 0, .int 0, .int 0, .int 0])), (dk, .inr (4, [.ref w0, .ref w1, .ref ol, .int 0, .int 0, .int 0, .int 0])), (ol, .inr (3, [.int 0, .ref (z 0), .int 0])), (rg, .inr (11, [.ref mf, .ref mm, .ref mz, .ref ma, .ref sa, .int 0])), (sa, .inl (cS, 9, .inr (.inr (.inr (.inr (va_up (va_up (va_up (va_up (va_up (va_up (va_up (va_up (va_up (fun _ => none) 0 (some s0)) 1 (some s1)) 2 (some s2)) 3 (some s3)) 4 (some s4)) 5 (some s5)) 6 (some s6)) 7 (some s7)) 8 (some s8))))))), (s2, .inr (12, [.int 3, .int 3, .ref mf, .int 1, .int 0, .int 900, .int 0, .int 0])), (ou, .inl (co, 1, .inr (.inl of_)))]) hD hS hA [0, 1, 2, 6, 7, 3, 4, 5, 10] rfl
  refine va_calli (vx_runSW (As := [.ref x, .int 115, .int 2, .int p2, .ref ou]) (rest := []) ⟨hx, hb, hml, hown, hts⟩ (k_l_order_s2 l dC dI z zK zV sh rg mf mm mz ma sa s0 s1 s2 s3 s4 s5 s6 s7 s8 dk w0 w1 ol hd lg pl pr cS x tl tw p2 ou co of_ H.size (hg0)) (vx_cwSW 5 hts hL_L_order_110 rfl rfl rfl (by decide +kernel) ⟨Nat.le_of_ble_eq_true rfl, Nat.le_of_ble_eq_true rfl⟩) ⟨kP_blind, kP_go hPc hKc hDc hFc hM hS⟩ rfl rfl hl.1 rfl (lv_room (Nat.le_of_ble_eq_true rfl)) dL_law_424 ⟨Nat.le_of_ble_eq_true rfl, Nat.le_of_ble_eq_true rfl⟩) hS (fun q _ h => hFc q h) hFc (fun r1 u t H1 locs ht hvm hw hB hz1 hk1 hS => ?_)
  obtain ⟨hP, hD, hK⟩ := kJ (wr := [(mo, .inr (19, [.int 0, .int 0, .int 0, .int 0, .int 0, .int 0, .int 0, .ref ti, .ref si, .ref lo, .ref lh, .ref lk, .ref sp, .ref st, .ref pa, .ref br, .ref sg, .int 0, .int 0, .int 0, .int 0, .int 0, .int 0, .long 0, .long 0, .long 0, .long 0, .int 0])), (lo, .inr (3, [.int 0, .ref (z 0), .int 0]))]) (w1 := [(ou, .inl (co, 1, .inr (.inl (vp_updL of_ 0 0))))]) (t1 := []) hP hD hK [0, 1, 2, 6, 7, 3, 4, 5, 10] [8, 9] rfl rfl (by decide) (by decide) hk1 hFc ht hvm hB
  generalize H1 = H at hP hS ⊢
  have hP : va_P (dC, dI) vwCl [(mo, .inr (19, [.int 0, .int 0, .int 0, .int 0, .int 0, .int 0, .int 0, .ref ti, .ref si, .ref lo, .ref lh, .ref lk, .ref sp, .ref st, .ref pa, .ref br, .ref sg, .int 0, .int 0, .int 0, .int 0, .int 0, .int 0, .long 0, .long 0, .long 0, .long 0, .int 0])), (lo, .inr (3, [.int 0, .ref (z 0), .int 0])), (ou, .inl (co, 1, .inr (.inl (vp_updL of_ 0 0))))] H := hP
  have hD : va_D A [(mo, .inr (19, [.int 0, .int 0, .int 0, .int 0, .int 0, .int 0, .int 0, .ref ti, .ref si, .ref lo, .ref lh, .ref lk, .ref sp, .ref st, .ref pa, .ref br, .ref sg, .int 0, .int 0, .int 0, .int 0, .int 0, .int 0, .long 0, .long 0, .long 0, .long 0, .int 0])), (lo, .inr (3, [.int 0, .ref (z 0), .int 0])), (ou, .inl (co, 1, .inr (.inl (vp_updL of_ 0 0))))] := hD
  have hK : va_K (dC, dI) vwCl [(cS, .object RX8), (co, .long)] s := hK
  obtain rfl : 0 = r1 := hw
  refine lv_istore (lv' := [(6, .int 0), (0, .ref b), (1, .ref x), (2, .ref mo), (3, .ref ou), (4, .ref od_), (5, .int 0)]) hx hb dL_law_427 hl (by decide) rfl (fun ls hl => ?_)
  refine lv_aload_n hx hb dL_law_429 rfl (lv_at hl 3 rfl) ?_
  refine lv_aload_n hx hb dL_law_430 rfl (lv_at hl 1 rfl) ?_
  refine lv_iload hx hb dL_law_431 (lv_at hl 6 rfl) ?_
  refine lv_iconst (v := 1) hx hb dL_law_433 (by decide) ?_
  refine lv_iadd hx hb dL_law_434 ?_
  refine kc_i (y := 1) (by decide +kernel) ?_
  refine va_sld hx hb hX hbl hbA hS (pk_in 1 4 (by decide) rfl) dL_law_435 ?_
  refine kc_i (y := rw) (hs1 : xs 1 = rw) ?_
  refine lv_i2c (v := 115) hx hb dL_law_436 hch ?_
  refine lv_aload_n hx hb dL_law_437 rfl (lv_at hl 1 rfl) ?_
  refine lv_iload hx hb dL_law_438 (lv_at hl 6 rfl) ?_
  refine lv_iconst (v := 2) hx hb dL_law_440 (by decide) ?_
  refine lv_iadd hx hb dL_law_441 ?_
  refine kc_i (y := 2) (by decide +kernel) ?_
  refine va_sld hx hb hX hbl hbA hS (pk_in 2 4 (by decide) rfl) dL_law_442 ?_
  refine kc_i (y := 2) (hs2 : xs 2 = 2) ?_
  refine lv_aload_n hx hb dL_law_443 rfl (lv_at hl 1 rfl) ?_
  refine lv_iload hx hb dL_law_444 (lv_at hl 6 rfl) ?_
  refine lv_iconst (v := 3) hx hb dL_law_446 (by decide) ?_
  refine lv_iadd hx hb dL_law_447 ?_
  refine kc_i (y := 3) (by decide +kernel) ?_
  refine va_sld hx hb hX hbl hbA hS (pk_in 3 4 (by decide) rfl) dL_law_448 ?_
  refine kc_i (y := p2) (hs3 : xs 3 = p2) ?_
  have hPc := hP.sub (ws' := [(mo, .inr (19, [.int 0, .int 0, .int 0, .int 0, .int 0, .int 0, .int 0, .ref ti, .ref si, .ref lo, .ref lh, .ref lk, .ref sp, .ref st, .ref pa, .ref br, .ref sg, .int 0, .int 0, .int 0, .int 0, .int 0, .int 0, .long 0, .long 0, .long 0, .long 0, .int 0])), (lo, .inr (3, [.int 0, .ref (z 0), .int 0]))]) [0, 1] rfl
  have hDc := hD.sub (ws' := [(mo, .inr (19, [.int 0, .int 0, .int 0, .int 0, .int 0, .int 0, .int 0, .ref ti, .ref si, .ref lo, .ref lh, .ref lk, .ref sp, .ref st, .ref pa, .ref br, .ref sg, .int 0, .int 0, .int 0, .int 0, .int 0, .int 0, .long 0, .long 0, .long 0, .long 0, .int 0])), (lo, .inr (3, [.int 0, .ref (z 0), .int 0]))]) [0, 1] (by decide) rfl
  have hKc := hK.sub (tys' := []) [] rfl
  have hFc := va_free (wc := [(mo, .inr (19, [.int 0, .int 0, .int 0, .int 0, .int 0, .int 0, .int 0, .ref ti, .ref si, .ref lo, .ref lh, .ref lk, .ref sp, .ref st, .ref pa, .ref br, .ref sg, .int 0, .int 0, .int 0, .int 0, .int 0, .int 0, .long 0, .long 0, .long 0, .long 0, .int 0])), (lo, .inr (3, [.int 0, .ref (z 0), .int 0]))]) hD hS hA [0, 1] rfl
  refine va_calli (va_runV (As := [.int 115, .int 2, .int p2]) (rest := []) ⟨hx, hb, hml, hown, hts⟩ (k_m_order_s2 l dC dI z zK zV p2 mo ti si lo lh lk sp st pa br sg 0 H.size (hg0)) (cwV 3 hts hL_X15_order_113 rfl rfl rfl (by decide +kernel) ⟨Nat.le_of_ble_eq_true rfl, Nat.le_of_ble_eq_true rfl⟩) ⟨kP_blind, va_recv hKc hPc (ci := 19) (q0 := 0) rfl rfl, kP_go hPc hKc hDc hFc hM hS⟩ rfl rfl hl.1 rfl (lv_room (Nat.le_of_ble_eq_true rfl)) dL_law_449 ⟨Nat.le_of_ble_eq_true rfl, Nat.le_of_ble_eq_true rfl⟩) hS (fun q _ h => hFc q h) hFc (fun r2 u t H1 locs ht hvm hw hB hz1 hk1 hS => ?_)
  obtain ⟨hP, hD, hK⟩ := kJ (wr := [(ou, .inl (co, 1, .inr (.inl (vp_updL of_ 0 0))))]) (w1 := [(mo, .inr (19, [.int 0, .int 0, .int 0, .int 0, .int 0, .int 0, .int 0, .ref ti, .ref si, .ref lo, .ref lh, .ref lk, .ref sp, .ref st, .ref pa, .ref br, .ref sg, .int 0, .int 0, .int 0, .int 0, .int 0, .int 0, .long 0, .long 0, .long 0, .long 0, .int 0]))]) (t1 := []) hP hD hK [0, 1] [2] rfl rfl (by decide) (by decide) hk1 hFc ht hvm hB
  generalize H1 = H at hP hS ⊢
  have hP : va_P (dC, dI) vwCl [(ou, .inl (co, 1, .inr (.inl (vp_updL of_ 0 0)))), (mo, .inr (19, [.int 0, .int 0, .int 0, .int 0, .int 0, .int 0, .int 0, .ref ti, .ref si, .ref lo, .ref lh, .ref lk, .ref sp, .ref st, .ref pa, .ref br, .ref sg, .int 0, .int 0, .int 0, .int 0, .int 0, .int 0, .long 0, .long 0, .long 0, .long 0, .int 0]))] H := hP
  have hD : va_D A [(ou, .inl (co, 1, .inr (.inl (vp_updL of_ 0 0)))), (mo, .inr (19, [.int 0, .int 0, .int 0, .int 0, .int 0, .int 0, .int 0, .ref ti, .ref si, .ref lo, .ref lh, .ref lk, .ref sp, .ref st, .ref pa, .ref br, .ref sg, .int 0, .int 0, .int 0, .int 0, .int 0, .int 0, .long 0, .long 0, .long 0, .long 0, .int 0]))] := hD
  have hK : va_K (dC, dI) vwCl [(cS, .object RX8), (co, .long)] s := hK
  obtain rfl : 0 = r2 := hw
  refine lv_istore (lv' := [(7, .int 0), (6, .int 0), (0, .ref b), (1, .ref x), (2, .ref mo), (3, .ref ou), (4, .ref od_), (5, .int 0)]) hx hb dL_law_452 hl (by decide) rfl (fun ls hl => ?_)
  refine lv_aload_n hx hb dL_law_454 rfl (lv_at hl 4 rfl) ?_
  have hPc := hP.sub (ws' := [(mo, .inr (19, [.int 0, .int 0, .int 0, .int 0, .int 0, .int 0, .int 0, .ref ti, .ref si, .ref lo, .ref lh, .ref lk, .ref sp, .ref st, .ref pa, .ref br, .ref sg, .int 0, .int 0, .int 0, .int 0, .int 0, .int 0, .long 0, .long 0, .long 0, .long 0, .int 0]))]) [1] rfl
  have hDc := hD.sub (ws' := [(mo, .inr (19, [.int 0, .int 0, .int 0, .int 0, .int 0, .int 0, .int 0, .ref ti, .ref si, .ref lo, .ref lh, .ref lk, .ref sp, .ref st, .ref pa, .ref br, .ref sg, .int 0, .int 0, .int 0, .int 0, .int 0, .int 0, .long 0, .long 0, .long 0, .long 0, .int 0]))]) [1] (by decide) rfl
  have hKc := hK.sub (tys' := []) [] rfl
  have hFc := va_free (wc := [(mo, .inr (19, [.int 0, .int 0, .int 0, .int 0, .int 0, .int 0, .int 0, .ref ti, .ref si, .ref lo, .ref lh, .ref lk, .ref sp, .ref st, .ref pa, .ref br, .ref sg, .int 0, .int 0, .int 0, .int 0, .int 0, .int 0, .long 0, .long 0, .long 0, .long 0, .int 0]))]) hD hS hA [1] rfl
  refine va_calli (va_runV (As := []) (rest := []) ⟨hx, hb, hml, hown, hts⟩ (k_m_thrown l dC dI z zK zV mo ti si lo lh lk sp st pa br sg 0 0 0 0 0 0 0 0 0 0 0 0 0 0 0 0 0 0 H.size) (cwV 0 hts hL_X15_thrown_100 rfl rfl rfl (by decide +kernel) ⟨Nat.le_of_ble_eq_true rfl, Nat.le_of_ble_eq_true rfl⟩) ⟨kP_blind, va_recv hKc hPc (ci := 19) (q0 := 0) rfl rfl, kP_go hPc hKc hDc hFc hM hS⟩ rfl rfl hl.1 rfl (lv_room (Nat.le_of_ble_eq_true rfl)) dL_law_455 ⟨Nat.le_of_ble_eq_true rfl, Nat.le_of_ble_eq_true rfl⟩) hS (fun q _ h => hFc q h) hFc (fun r3 u t H1 locs ht hvm hw hB hz1 hk1 hS => ?_)
  obtain ⟨hP, hD, hK⟩ := kJ (wr := [(ou, .inl (co, 1, .inr (.inl (vp_updL of_ 0 0))))]) (w1 := [(mo, .inr (19, [.int 0, .int 0, .int 0, .int 0, .int 0, .int 0, .int 0, .ref ti, .ref si, .ref lo, .ref lh, .ref lk, .ref sp, .ref st, .ref pa, .ref br, .ref sg, .int 0, .int 0, .int 0, .int 0, .int 0, .int 0, .long 0, .long 0, .long 0, .long 0, .int 0]))]) (t1 := []) hP hD hK [1] [0] rfl rfl (by decide) (by decide) hk1 hFc ht hvm hB
  generalize H1 = H at hP hS ⊢
  have hP : va_P (dC, dI) vwCl [(ou, .inl (co, 1, .inr (.inl (vp_updL of_ 0 0)))), (mo, .inr (19, [.int 0, .int 0, .int 0, .int 0, .int 0, .int 0, .int 0, .ref ti, .ref si, .ref lo, .ref lh, .ref lk, .ref sp, .ref st, .ref pa, .ref br, .ref sg, .int 0, .int 0, .int 0, .int 0, .int 0, .int 0, .long 0, .long 0, .long 0, .long 0, .int 0]))] H := hP
  have hD : va_D A [(ou, .inl (co, 1, .inr (.inl (vp_updL of_ 0 0)))), (mo, .inr (19, [.int 0, .int 0, .int 0, .int 0, .int 0, .int 0, .int 0, .ref ti, .ref si, .ref lo, .ref lh, .ref lk, .ref sp, .ref st, .ref pa, .ref br, .ref sg, .int 0, .int 0, .int 0, .int 0, .int 0, .int 0, .long 0, .long 0, .long 0, .long 0, .int 0]))] := hD
  have hK : va_K (dC, dI) vwCl [(cS, .object RX8), (co, .long)] s := hK
  obtain rfl : 0 = r3 := hw
  refine lv_iload hx hb dL_law_458 (lv_at hl 1 rfl) ?_
  refine lv_icmp_eq (tgt := 465) hx hb dL_law_460 (by decide) (fun _ => ?_) (fun c_ => absurd (by decide +kernel) c_)
  refine lv_iload hx hb dL_law_465 (lv_at hl 1 rfl) ?_
  refine lv_if_ne (tgt := 482) hx hb dL_law_467 (by decide) (fun c_ => absurd (by decide +kernel) c_) (fun _ => ?_)
  refine lv_aload_n hx hb dL_law_470 rfl (lv_at hl 5 rfl) ?_
  refine lv_iconst (v := 0) hx hb dL_law_471 (by decide) ?_
  refine va_lald hx hb hK hP 0 1 rfl rfl (pk_in 0 1 (by decide) rfl) dL_law_472 ?_
  refine kc_v (y := .long 0) rfl ?_
  refine lv_iload hx hb dL_law_473 (lv_at hl 0 rfl) ?_
  refine lv_i2l (v := 0) hx hb dL_law_475 (by decide +kernel) ?_
  refine W.lcmp hx hb dL_law_476 ?_
  refine kc_i (y := 0) (by decide +kernel) ?_
  refine lv_if_eq (tgt := 482) hx hb dL_law_477 (by decide) (fun _ => ?_) (fun c_ => absurd (by decide +kernel) c_)
  refine lv_goto (tgt := 1684) hx hb dL_law_482 (by decide) ?_
  exact la_tail (dC := dC) (dI := dI) hst C0 hM hA hAl H locs hS ls (lv_sub hl [2, 7] rfl) (by omega) (by omega)
set_option maxHeartbeats 8000000 in
set_option maxRecDepth 100000 in
theorem la_order_s3 {p : Program} {l : Launch} {e : Env} {s : State} {m : MethodId} {below : List Frame} {meth : Method} {c : Code} {dC : Nat → ClassId} {dI : Nat → Nat → Nat} {z zK zV : Nat → Nat} {b : Nat} {xs : Nat → Int32} {A : Nat → Prop} (hst : l.stackTraces = false) (C0 : lw_At p s m meth c b 4 xs) (hM : am z zK zV A s s.heap) (hA : ∀ q : Nat, s.heap.size ≤ q → A q) (hAl : ∀ q : Nat, A q → s.heap.size ≤ q) (sh : Nat) (rg : Nat) (mf : Nat) (mm : Nat) (mz : Nat) (ma : Nat) (sa : Nat) (s0 : Nat) (s1 : Nat) (s2 : Nat) (s3 : Nat) (s4 : Nat) (s5 : Nat) (s6 : Nat) (s7 : Nat) (s8 : Nat) (dk : Nat) (w0 : Nat) (w1 : Nat) (ol : Nat) (hd : Nat) (lg : Nat) (pl : Nat) (pr : Nat) (cS : ClassId) (x : Nat) (tl : Nat) (tw : Nat) (p2 : Int32) (mo : Nat) (ti : Nat) (si : Nat) (lo : Nat) (lh : Nat) (lk : Nat) (sp : Nat) (st : Nat) (pa : Nat) (br : Nat) (sg : Nat) (ou : Nat) (co : ClassId) (of_ : Nat → Int64) (od_ : Nat) (rw : Int32) (hg0 : (0 : Int32) ≤ p2 ∧ p2 ≤ 2) (hs1 : xs 1 = rw) (hs2 : xs 2 = 3) (hs3 : xs 3 = p2) (hch : (rw.toUInt32 % 65536).toInt32 = 115) (H : Heap) (locs : List Loc) (hK : va_K (dC, dI) vwCl [(cS, .object RX8), (co, .long)] s) (hP : va_P (dC, dI) vwCl [(x, .inr (15, [.ref sh, .ref tl, .ref tw, .int 0])), (tl, .inr (3, [.int 0, .ref (z 0), .int 0])), (sh, .inr (13, [.ref rg, .ref dk, .ref hd, .ref lg, .ref pl, .ref pr, .int 0, .int 0, .int 0, .int 0, .int 0, .int 0, .int 0, .int 0, .int 0, .int 0, .int 0])), (rg, .inr (11, [.ref mf, .ref mm, .ref mz, .ref ma, .ref sa, .int 0])), (sa, .inl (cS, 9, .inr (.inr (.inr (.inr (va_up (va_up (va_up (va_up (va_up (va_up (va_up (va_up (va_up (fun _ => none) 0 (some s0)) 1 (some s1)) 2 (some s2)) 3 (some s3)) 4 (some s4)) 5 (some s5)) 6 (some s6)) 7 (some s7)) 8 (some s8))))))), (s3, .inr (12, [.int 10, .int 8, .ref mm, .int 1, .int 0, .int 900, .int 0, .int 0])), (dk, .inr (4, [.ref w0, .ref w1, .ref ol, .int 0, .int 0, .int 0, .int 0])), (ol, .inr (3, [.int 0, .ref (z 0), .int 0])), (mo, .inr (19, [.int 0, .int 0, .int 0, .int 0, .int 0, .int 0, .int 0, .ref ti, .ref si, .ref lo, .ref lh, .ref lk, .ref sp, .ref st, .ref pa, .ref br, .ref sg, .int 0, .int 0, .int 0, .int 0, .int 0, .int 0, .long 0, .long 0, .long 0, .long 0, .int 0])), (lo, .inr (3, [.int 0, .ref (z 0), .int 0])), (ou, .inl (co, 1, .inr (.inl of_)))] H) (hD : va_D A [(x, .inr (15, [.ref sh, .ref tl, .ref tw, .int 0])), (tl, .inr (3, [.int 0, .ref (z 0), .int 0])), (sh, .inr (13, [.ref rg, .ref dk, .ref hd, .ref lg, .ref pl, .ref pr, .int 0, .int 0, .int 0, .int 0, .int 0, .int 0, .int 0, .int 0, .int 0, .int 0, .int 0])), (rg, .inr (11, [.ref mf, .ref mm, .ref mz, .ref ma, .ref sa, .int 0])), (sa, .inl (cS, 9, .inr (.inr (.inr (.inr (va_up (va_up (va_up (va_up (va_up (va_up (va_up (va_up (va_up (fun _ => none) 0 (some s0)) 1 (some s1)) 2 (some s2)) 3 (some s3)) 4 (some s4)) 5 (some s5)) 6 (some s6)) 7 (some s7)) 8 (some s8))))))), (s3, .inr (12, [.int 10, .int 8, .ref mm, .int 1, .int 0, .int 900, .int 0, .int 0])), (dk, .inr (4, [.ref w0, .ref w1, .ref ol, .int 0, .int 0, .int 0, .int 0])), (ol, .inr (3, [.int 0, .ref (z 0), .int 0])), (mo, .inr (19, [.int 0, .int 0, .int 0, .int 0, .int 0, .int 0, .int 0, .ref ti, .ref si, .ref lo, .ref lh, .ref lk, .ref sp, .ref st, .ref pa, .ref br, .ref sg, .int 0, .int 0, .int 0, .int 0, .int 0, .int 0, .long 0, .long 0, .long 0, .long 0, .int 0])), (lo, .inr (3, [.int 0, .ref (z 0), .int 0])), (ou, .inl (co, 1, .inr (.inl of_)))]) (hS : va_S A s.heap H locs) (ls : Array Slot) (hl : lv_has ls 10 [(0, .ref b), (1, .ref x), (2, .ref mo), (3, .ref ou), (4, .ref od_), (5, .int 0)]) : W p l e room_1 s m #[Value.ref b] below meth c H locs 100 1400 (lw_Z below #[Value.ref b] s) (F0 m 403 ls []) := by
  obtain ⟨hx, hb, hr, hml, hown, hts, hX, hbl, hlocks, hgv⟩ := id C0
  have hbA : ¬ A b := fun h => absurd (hAl b h) (Nat.not_le.mpr hbl)
  refine lv_aload_n hx hb dL_law_403 rfl (lv_at hl 1 rfl) ?_
  refine lv_aload_n hx hb dL_law_404 rfl (lv_at hl 0 rfl) ?_
  refine lv_iload hx hb dL_law_405 (lv_at hl 5 rfl) ?_
  refine lv_iconst (v := 1) hx hb dL_law_407 (by decide) ?_
  refine lv_iadd hx hb dL_law_408 ?_
  refine kc_i (y := 1) (by decide +kernel) ?_
  refine va_sld hx hb hX hbl hbA hS (pk_in 1 4 (by decide) rfl) dL_law_409 ?_
  refine kc_i (y := rw) (hs1 : xs 1 = rw) ?_
  refine lv_i2c (v := 115) hx hb dL_law_410 hch ?_
  refine lv_aload_n hx hb dL_law_411 rfl (lv_at hl 0 rfl) ?_
  refine lv_iload hx hb dL_law_412 (lv_at hl 5 rfl) ?_
  refine lv_iconst (v := 2) hx hb dL_law_414 (by decide) ?_
  refine lv_iadd hx hb dL_law_415 ?_
  refine kc_i (y := 2) (by decide +kernel) ?_
  refine va_sld hx hb hX hbl hbA hS (pk_in 2 4 (by decide) rfl) dL_law_416 ?_
  refine kc_i (y := 3) (hs2 : xs 2 = 3) ?_
  refine lv_aload_n hx hb dL_law_417 rfl (lv_at hl 0 rfl) ?_
  refine lv_iload hx hb dL_law_418 (lv_at hl 5 rfl) ?_
  refine lv_iconst (v := 3) hx hb dL_law_420 (by decide) ?_
  refine lv_iadd hx hb dL_law_421 ?_
  refine kc_i (y := 3) (by decide +kernel) ?_
  refine va_sld hx hb hX hbl hbA hS (pk_in 3 4 (by decide) rfl) dL_law_422 ?_
  refine kc_i (y := p2) (hs3 : xs 3 = p2) ?_
  refine lv_aload_n hx hb dL_law_423 rfl (lv_at hl 3 rfl) ?_
  have hPc := hP.sub (ws' := [(x, .inr (15, [.ref sh, .ref tl, .ref tw, .int 0])), (tl, .inr (3, [.int 0, .ref (z 0), .int 0])), (sh, .inr (13, [.ref rg, .ref dk, .ref hd, .ref lg, .ref pl, .ref pr, .int 0, .int 0, .int 0, .int 0, .int 0, .int 0, .int 0, .int 0, .int 0, .int 0, .int 0])), (dk, .inr (4, [.ref w0, .ref w1, .ref ol, .int 0, .int 0, .int 0, .int 0])), (ol, .inr (3, [.int 0, .ref (z 0), .int 0])), (rg, .inr (11, [.ref mf, .ref mm, .ref mz, .ref ma, .ref sa, .int 0])), (sa, .inl (cS, 9, .inr (.inr (.inr (.inr (va_up (va_up (va_up (va_up (va_up (va_up (va_up (va_up (va_up (fun _ => none) 0 (some s0)) 1 (some s1)) 2 (some s2)) 3 (some s3)) 4 (some s4)) 5 (some s5)) 6 (some s6)) 7 (some s7)) 8 (some s8))))))), (s3, .inr (12, [.int 10, .int 8, .ref mm, .int 1, .int 0, .int 900, .int 0, .int 0])), (ou, .inl (co, 1, .inr (.inl of_)))]) [0, 1, 2, 6, 7, 3, 4, 5, 10] rfl
  have hDc := hD.sub (ws' := [(x, .inr (15, [.ref sh, .ref tl, .ref tw, .int 0])), (tl, .inr (3, [.int 0, .ref (z 0), .int 0])), (sh, .inr (13, [.ref rg, .ref dk, .ref hd, .ref lg, .ref pl, .ref pr, .int 0, .int 0, .int 0, .int 0, .int 0, .int 0, .int 0, .int 0, .int 0, .int 0, .int 0])), (dk, .inr (4, [.ref w0, .ref w1, .ref ol, .int 0, .int 0, .int 0, .int 0])), (ol, .inr (3, [.int 0, .ref (z 0), .int 0])), (rg, .inr (11, [.ref mf, .ref mm, .ref mz, .ref ma, .ref sa, .int 0])), (sa, .inl (cS, 9, .inr (.inr (.inr (.inr (va_up (va_up (va_up (va_up (va_up (va_up (va_up (va_up (va_up (fun _ => none) 0 (some s0)) 1 (some s1)) 2 (some s2)) 3 (some s3)) 4 (some s4)) 5 (some s5)) 6 (some s6)) 7 (some s7)) 8 (some s8))))))), (s3, .inr (12, [.int 10, .int 8, .ref mm, .int 1, .int 0, .int 900, .int 0, .int 0])), (ou, .inl (co, 1, .inr (.inl of_)))]) [0, 1, 2, 6, 7, 3, 4, 5, 10] (by decide) rfl
  have hKc := hK.sub (tys' := [(cS, .object RX8), (co, .long)]) [0, 1] rfl
  have hFc := va_free (wc := [(x, .inr (15, [.ref sh, .ref tl, .ref tw, .int 0])), (tl, .inr (3, [.int 0, .ref (z 0), .int 0])), (sh, .inr (13, [.ref rg, .ref dk, .ref hd, .ref lg, .ref pl, .ref pr, .int 0, .int 0, .int 0, .int 0, .int 0, .int 0, .int 0, .int 0, .int 0, .int 0, .int 0])), (dk, .inr (4, [.ref w0, .ref w1, .ref ol, .int 0, .int 0, .int 0, .int 0])), (ol, .inr (3, [.int 0, .ref (z 0), .int 0])), (rg, .inr (11, [.ref mf, .ref mm, .ref mz, .ref ma, .ref sa, .int 0])), (sa, .inl (cS, 9, .inr (.inr (.inr (.inr (va_up (va_up (va_up (va_up (va_up (va_up (va_up (va_up (va_up (fun _ => none) 0 (some s0)) 1 (some s1)) 2 (some s2)) 3 (some s3)) 4 (some s4)) 5 (some s5)) 6 (some s6)) 7 (some s7)) 8 (some s8))))))), (s3, .inr (12, [.int 10, .int 8, .ref mm, .int 1, .int 0, .int 900, .int 0, .int 0])), (ou, .inl (co, 1, .inr (.inl of_)))]) hD hS hA [0, 1, 2, 6, 7, 3, 4, 5, 10] rfl
  refine va_calli (vx_runSW (As := [.ref x, .int 115, .int 3, .int p2, .ref ou]) (rest := []) ⟨hx, hb, hml, hown, hts⟩ (k_l_order_s3 l dC dI z zK zV sh rg mf mm mz ma sa s0 s1 s2 s3 s4 s5 s6 s7 s8 dk w0 w1 ol hd lg pl pr cS x tl tw p2 ou co of_ H.size (hg0)) (vx_cwSW 5 hts hL_L_order_110 rfl rfl rfl (by decide +kernel) ⟨Nat.le_of_ble_eq_true rfl, Nat.le_of_ble_eq_true rfl⟩) ⟨kP_blind, kP_go hPc hKc hDc hFc hM hS⟩ rfl rfl hl.1 rfl (lv_room (Nat.le_of_ble_eq_true rfl)) dL_law_424 ⟨Nat.le_of_ble_eq_true rfl, Nat.le_of_ble_eq_true rfl⟩) hS (fun q _ h => hFc q h) hFc (fun r1 u t H1 locs ht hvm hw hB hz1 hk1 hS => ?_)
  obtain ⟨hP, hD, hK⟩ := kJ (wr := [(mo, .inr (19, [.int 0, .int 0, .int 0, .int 0, .int 0, .int 0, .int 0, .ref ti, .ref si, .ref lo, .ref lh, .ref lk, .ref sp, .ref st, .ref pa, .ref br, .ref sg, .int 0, .int 0, .int 0, .int 0, .int 0, .int 0, .long 0, .long 0, .long 0, .long 0, .int 0])), (lo, .inr (3, [.int 0, .ref (z 0), .int 0]))]) (w1 := [(ou, .inl (co, 1, .inr (.inl (vp_updL of_ 0 0))))]) (t1 := []) hP hD hK [0, 1, 2, 6, 7, 3, 4, 5, 10] [8, 9] rfl rfl (by decide) (by decide) hk1 hFc ht hvm hB
  generalize H1 = H at hP hS ⊢
  have hP : va_P (dC, dI) vwCl [(mo, .inr (19, [.int 0, .int 0, .int 0, .int 0, .int 0, .int 0, .int 0, .ref ti, .ref si, .ref lo, .ref lh, .ref lk, .ref sp, .ref st, .ref pa, .ref br, .ref sg, .int 0, .int 0, .int 0, .int 0, .int 0, .int 0, .long 0, .long 0, .long 0, .long 0, .int 0])), (lo, .inr (3, [.int 0, .ref (z 0), .int 0])), (ou, .inl (co, 1, .inr (.inl (vp_updL of_ 0 0))))] H := hP
  have hD : va_D A [(mo, .inr (19, [.int 0, .int 0, .int 0, .int 0, .int 0, .int 0, .int 0, .ref ti, .ref si, .ref lo, .ref lh, .ref lk, .ref sp, .ref st, .ref pa, .ref br, .ref sg, .int 0, .int 0, .int 0, .int 0, .int 0, .int 0, .long 0, .long 0, .long 0, .long 0, .int 0])), (lo, .inr (3, [.int 0, .ref (z 0), .int 0])), (ou, .inl (co, 1, .inr (.inl (vp_updL of_ 0 0))))] := hD
  have hK : va_K (dC, dI) vwCl [(cS, .object RX8), (co, .long)] s := hK
  obtain rfl : 0 = r1 := hw
  refine lv_istore (lv' := [(6, .int 0), (0, .ref b), (1, .ref x), (2, .ref mo), (3, .ref ou), (4, .ref od_), (5, .int 0)]) hx hb dL_law_427 hl (by decide) rfl (fun ls hl => ?_)
  refine lv_aload_n hx hb dL_law_429 rfl (lv_at hl 3 rfl) ?_
  refine lv_aload_n hx hb dL_law_430 rfl (lv_at hl 1 rfl) ?_
  refine lv_iload hx hb dL_law_431 (lv_at hl 6 rfl) ?_
  refine lv_iconst (v := 1) hx hb dL_law_433 (by decide) ?_
  refine lv_iadd hx hb dL_law_434 ?_
  refine kc_i (y := 1) (by decide +kernel) ?_
  refine va_sld hx hb hX hbl hbA hS (pk_in 1 4 (by decide) rfl) dL_law_435 ?_
  refine kc_i (y := rw) (hs1 : xs 1 = rw) ?_
  refine lv_i2c (v := 115) hx hb dL_law_436 hch ?_
  refine lv_aload_n hx hb dL_law_437 rfl (lv_at hl 1 rfl) ?_
  refine lv_iload hx hb dL_law_438 (lv_at hl 6 rfl) ?_
  refine lv_iconst (v := 2) hx hb dL_law_440 (by decide) ?_
  refine lv_iadd hx hb dL_law_441 ?_
  refine kc_i (y := 2) (by decide +kernel) ?_
  refine va_sld hx hb hX hbl hbA hS (pk_in 2 4 (by decide) rfl) dL_law_442 ?_
  refine kc_i (y := 3) (hs2 : xs 2 = 3) ?_
  refine lv_aload_n hx hb dL_law_443 rfl (lv_at hl 1 rfl) ?_
  refine lv_iload hx hb dL_law_444 (lv_at hl 6 rfl) ?_
  refine lv_iconst (v := 3) hx hb dL_law_446 (by decide) ?_
  refine lv_iadd hx hb dL_law_447 ?_
  refine kc_i (y := 3) (by decide +kernel) ?_
  refine va_sld hx hb hX hbl hbA hS (pk_in 3 4 (by decide) rfl) dL_law_448 ?_
  refine kc_i (y := p2) (hs3 : xs 3 = p2) ?_
  have hPc := hP.sub (ws' := [(mo, .inr (19, [.int 0, .int 0, .int 0, .int 0, .int 0, .int 0, .int 0, .ref ti, .ref si, .ref lo, .ref lh, .ref lk, .ref sp, .ref st, .ref pa, .ref br, .ref sg, .int 0, .int 0, .int 0, .int 0, .int 0, .int 0, .long 0, .long 0, .long 0, .long 0, .int 0])), (lo, .inr (3, [.int 0, .ref (z 0), .int 0]))]) [0, 1] rfl
  have hDc := hD.sub (ws' := [(mo, .inr (19, [.int 0, .int 0, .int 0, .int 0, .int 0, .int 0, .int 0, .ref ti, .ref si, .ref lo, .ref lh, .ref lk, .ref sp, .ref st, .ref pa, .ref br, .ref sg, .int 0, .int 0, .int 0, .int 0, .int 0, .int 0, .long 0, .long 0, .long 0, .long 0, .int 0])), (lo, .inr (3, [.int 0, .ref (z 0), .int 0]))]) [0, 1] (by decide) rfl
  have hKc := hK.sub (tys' := []) [] rfl
  have hFc := va_free (wc := [(mo, .inr (19, [.int 0, .int 0, .int 0, .int 0, .int 0, .int 0, .int 0, .ref ti, .ref si, .ref lo, .ref lh, .ref lk, .ref sp, .ref st, .ref pa, .ref br, .ref sg, .int 0, .int 0, .int 0, .int 0, .int 0, .int 0, .long 0, .long 0, .long 0, .long 0, .int 0])), (lo, .inr (3, [.int 0, .ref (z 0), .int 0]))]) hD hS hA [0, 1] rfl
  refine va_calli (va_runV (As := [.int 115, .int 3, .int p2]) (rest := []) ⟨hx, hb, hml, hown, hts⟩ (k_m_order_s3 l dC dI z zK zV p2 mo ti si lo lh lk sp st pa br sg 0 H.size (hg0)) (cwV 3 hts hL_X15_order_113 rfl rfl rfl (by decide +kernel) ⟨Nat.le_of_ble_eq_true rfl, Nat.le_of_ble_eq_true rfl⟩) ⟨kP_blind, va_recv hKc hPc (ci := 19) (q0 := 0) rfl rfl, kP_go hPc hKc hDc hFc hM hS⟩ rfl rfl hl.1 rfl (lv_room (Nat.le_of_ble_eq_true rfl)) dL_law_449 ⟨Nat.le_of_ble_eq_true rfl, Nat.le_of_ble_eq_true rfl⟩) hS (fun q _ h => hFc q h) hFc (fun r2 u t H1 locs ht hvm hw hB hz1 hk1 hS => ?_)
  obtain ⟨hP, hD, hK⟩ := kJ (wr := [(ou, .inl (co, 1, .inr (.inl (vp_updL of_ 0 0))))]) (w1 := [(mo, .inr (19, [.int 0, .int 0, .int 0, .int 0, .int 0, .int 0, .int 0, .ref ti, .ref si, .ref lo, .ref lh, .ref lk, .ref sp, .ref st, .ref pa, .ref br, .ref sg, .int 0, .int 0, .int 0, .int 0, .int 0, .int 0, .long 0, .long 0, .long 0, .long 0, .int 0]))]) (t1 := []) hP hD hK [0, 1] [2] rfl rfl (by decide) (by decide) hk1 hFc ht hvm hB
  generalize H1 = H at hP hS ⊢
  have hP : va_P (dC, dI) vwCl [(ou, .inl (co, 1, .inr (.inl (vp_updL of_ 0 0)))), (mo, .inr (19, [.int 0, .int 0, .int 0, .int 0, .int 0, .int 0, .int 0, .ref ti, .ref si, .ref lo, .ref lh, .ref lk, .ref sp, .ref st, .ref pa, .ref br, .ref sg, .int 0, .int 0, .int 0, .int 0, .int 0, .int 0, .long 0, .long 0, .long 0, .long 0, .int 0]))] H := hP
  have hD : va_D A [(ou, .inl (co, 1, .inr (.inl (vp_updL of_ 0 0)))), (mo, .inr (19, [.int 0, .int 0, .int 0, .int 0, .int 0, .int 0, .int 0, .ref ti, .ref si, .ref lo, .ref lh, .ref lk, .ref sp, .ref st, .ref pa, .ref br, .ref sg, .int 0, .int 0, .int 0, .int 0, .int 0, .int 0, .long 0, .long 0, .long 0, .long 0, .int 0]))] := hD
  have hK : va_K (dC, dI) vwCl [(cS, .object RX8), (co, .long)] s := hK
  obtain rfl : 0 = r2 := hw
  refine lv_istore (lv' := [(7, .int 0), (6, .int 0), (0, .ref b), (1, .ref x), (2, .ref mo), (3, .ref ou), (4, .ref od_), (5, .int 0)]) hx hb dL_law_452 hl (by decide) rfl (fun ls hl => ?_)
  refine lv_aload_n hx hb dL_law_454 rfl (lv_at hl 4 rfl) ?_
  have hPc := hP.sub (ws' := [(mo, .inr (19, [.int 0, .int 0, .int 0, .int 0, .int 0, .int 0, .int 0, .ref ti, .ref si, .ref lo, .ref lh, .ref lk, .ref sp, .ref st, .ref pa, .ref br, .ref sg, .int 0, .int 0, .int 0, .int 0, .int 0, .int 0, .long 0, .long 0, .long 0, .long 0, .int 0]))]) [1] rfl
  have hDc := hD.sub (ws' := [(mo, .inr (19, [.int 0, .int 0, .int 0, .int 0, .int 0, .int 0, .int 0, .ref ti, .ref si, .ref lo, .ref lh, .ref lk, .ref sp, .ref st, .ref pa, .ref br, .ref sg, .int 0, .int 0, .int 0, .int 0, .int 0, .int 0, .long 0, .long 0, .long 0, .long 0, .int 0]))]) [1] (by decide) rfl
  have hKc := hK.sub (tys' := []) [] rfl
  have hFc := va_free (wc := [(mo, .inr (19, [.int 0, .int 0, .int 0, .int 0, .int 0, .int 0, .int 0, .ref ti, .ref si, .ref lo, .ref lh, .ref lk, .ref sp, .ref st, .ref pa, .ref br, .ref sg, .int 0, .int 0, .int 0, .int 0, .int 0, .int 0, .long 0, .long 0, .long 0, .long 0, .int 0]))]) hD hS hA [1] rfl
  refine va_calli (va_runV (As := []) (rest := []) ⟨hx, hb, hml, hown, hts⟩ (k_m_thrown l dC dI z zK zV mo ti si lo lh lk sp st pa br sg 0 0 0 0 0 0 0 0 0 0 0 0 0 0 0 0 0 0 H.size) (cwV 0 hts hL_X15_thrown_100 rfl rfl rfl (by decide +kernel) ⟨Nat.le_of_ble_eq_true rfl, Nat.le_of_ble_eq_true rfl⟩) ⟨kP_blind, va_recv hKc hPc (ci := 19) (q0 := 0) rfl rfl, kP_go hPc hKc hDc hFc hM hS⟩ rfl rfl hl.1 rfl (lv_room (Nat.le_of_ble_eq_true rfl)) dL_law_455 ⟨Nat.le_of_ble_eq_true rfl, Nat.le_of_ble_eq_true rfl⟩) hS (fun q _ h => hFc q h) hFc (fun r3 u t H1 locs ht hvm hw hB hz1 hk1 hS => ?_)
  obtain ⟨hP, hD, hK⟩ := kJ (wr := [(ou, .inl (co, 1, .inr (.inl (vp_updL of_ 0 0))))]) (w1 := [(mo, .inr (19, [.int 0, .int 0, .int 0, .int 0, .int 0, .int 0, .int 0, .ref ti, .ref si, .ref lo, .ref lh, .ref lk, .ref sp, .ref st, .ref pa, .ref br, .ref sg, .int 0, .int 0, .int 0, .int 0, .int 0, .int 0, .long 0, .long 0, .long 0, .long 0, .int 0]))]) (t1 := []) hP hD hK [1] [0] rfl rfl (by decide) (by decide) hk1 hFc ht hvm hB
  generalize H1 = H at hP hS ⊢
  have hP : va_P (dC, dI) vwCl [(ou, .inl (co, 1, .inr (.inl (vp_updL of_ 0 0)))), (mo, .inr (19, [.int 0, .int 0, .int 0, .int 0, .int 0, .int 0, .int 0, .ref ti, .ref si, .ref lo, .ref lh, .ref lk, .ref sp, .ref st, .ref pa, .ref br, .ref sg, .int 0, .int 0, .int 0, .int 0, .int 0, .int 0, .long 0, .long 0, .long 0, .long 0, .int 0]))] H := hP
  have hD : va_D A [(ou, .inl (co, 1, .inr (.inl (vp_updL of_ 0 0)))), (mo, .inr (19, [.int 0, .int 0, .int 0, .int 0, .int 0, .int 0, .int 0, .ref ti, .ref si, .ref lo, .ref lh, .ref lk, .ref sp, .ref st, .ref pa, .ref br, .ref sg, .int 0, .int 0, .int 0, .int 0, .int 0, .int 0, .long 0, .long 0, .long 0, .long 0, .int 0]))] := hD
  have hK : va_K (dC, dI) vwCl [(cS, .object RX8), (co, .long)] s := hK
  obtain rfl : 0 = r3 := hw
  refine lv_iload hx hb dL_law_458 (lv_at hl 1 rfl) ?_
  refine lv_icmp_eq (tgt := 465) hx hb dL_law_460 (by decide) (fun _ => ?_) (fun c_ => absurd (by decide +kernel) c_)
  refine lv_iload hx hb dL_law_465 (lv_at hl 1 rfl) ?_
  refine lv_if_ne (tgt := 482) hx hb dL_law_467 (by decide) (fun c_ => absurd (by decide +kernel) c_) (fun _ => ?_)
  refine lv_aload_n hx hb dL_law_470 rfl (lv_at hl 5 rfl) ?_
  refine lv_iconst (v := 0) hx hb dL_law_471 (by decide) ?_
  refine va_lald hx hb hK hP 0 1 rfl rfl (pk_in 0 1 (by decide) rfl) dL_law_472 ?_
  refine kc_v (y := .long 0) rfl ?_
  refine lv_iload hx hb dL_law_473 (lv_at hl 0 rfl) ?_
  refine lv_i2l (v := 0) hx hb dL_law_475 (by decide +kernel) ?_
  refine W.lcmp hx hb dL_law_476 ?_
  refine kc_i (y := 0) (by decide +kernel) ?_
  refine lv_if_eq (tgt := 482) hx hb dL_law_477 (by decide) (fun _ => ?_) (fun c_ => absurd (by decide +kernel) c_)
  refine lv_goto (tgt := 1684) hx hb dL_law_482 (by decide) ?_
  exact la_tail (dC := dC) (dI := dI) hst C0 hM hA hAl H locs hS ls (lv_sub hl [2, 7] rfl) (by omega) (by omega)
set_option maxHeartbeats 8000000 in
set_option maxRecDepth 100000 in
theorem la_order_s4 {p : Program} {l : Launch} {e : Env} {s : State} {m : MethodId} {below : List Frame} {meth : Method} {c : Code} {dC : Nat → ClassId} {dI : Nat → Nat → Nat} {z zK zV : Nat → Nat} {b : Nat} {xs : Nat → Int32} {A : Nat → Prop} (hst : l.stackTraces = false) (C0 : lw_At p s m meth c b 4 xs) (hM : am z zK zV A s s.heap) (hA : ∀ q : Nat, s.heap.size ≤ q → A q) (hAl : ∀ q : Nat, A q → s.heap.size ≤ q) (sh : Nat) (rg : Nat) (mf : Nat) (mm : Nat) (mz : Nat) (ma : Nat) (sa : Nat) (s0 : Nat) (s1 : Nat) (s2 : Nat) (s3 : Nat) (s4 : Nat) (s5 : Nat) (s6 : Nat) (s7 : Nat) (s8 : Nat) (dk : Nat) (w0 : Nat) (w1 : Nat) (ol : Nat) (hd : Nat) (lg : Nat) (pl : Nat) (pr : Nat) (cS : ClassId) (x : Nat) (tl : Nat) (tw : Nat) (p2 : Int32) (mo : Nat) (ti : Nat) (si : Nat) (lo : Nat) (lh : Nat) (lk : Nat) (sp : Nat) (st : Nat) (pa : Nat) (br : Nat) (sg : Nat) (ou : Nat) (co : ClassId) (of_ : Nat → Int64) (od_ : Nat) (rw : Int32) (hg0 : (0 : Int32) ≤ p2 ∧ p2 ≤ 2) (hs1 : xs 1 = rw) (hs2 : xs 2 = 4) (hs3 : xs 3 = p2) (hch : (rw.toUInt32 % 65536).toInt32 = 115) (H : Heap) (locs : List Loc) (hK : va_K (dC, dI) vwCl [(cS, .object RX8), (co, .long)] s) (hP : va_P (dC, dI) vwCl [(x, .inr (15, [.ref sh, .ref tl, .ref tw, .int 0])), (tl, .inr (3, [.int 0, .ref (z 0), .int 0])), (sh, .inr (13, [.ref rg, .ref dk, .ref hd, .ref lg, .ref pl, .ref pr, .int 0, .int 0, .int 0, .int 0, .int 0, .int 0, .int 0, .int 0, .int 0, .int 0, .int 0])), (rg, .inr (11, [.ref mf, .ref mm, .ref mz, .ref ma, .ref sa, .int 0])), (sa, .inl (cS, 9, .inr (.inr (.inr (.inr (va_up (va_up (va_up (va_up (va_up (va_up (va_up (va_up (va_up (fun _ => none) 0 (some s0)) 1 (some s1)) 2 (some s2)) 3 (some s3)) 4 (some s4)) 5 (some s5)) 6 (some s6)) 7 (some s7)) 8 (some s8))))))), (s4, .inr (12, [.int 9, .int 6, .ref mm, .int 1, .int 0, .int 900, .int 0, .int 0])), (dk, .inr (4, [.ref w0, .ref w1, .ref ol, .int 0, .int 0, .int 0, .int 0])), (ol, .inr (3, [.int 0, .ref (z 0), .int 0])), (mo, .inr (19, [.int 0, .int 0, .int 0, .int 0, .int 0, .int 0, .int 0, .ref ti, .ref si, .ref lo, .ref lh, .ref lk, .ref sp, .ref st, .ref pa, .ref br, .ref sg, .int 0, .int 0, .int 0, .int 0, .int 0, .int 0, .long 0, .long 0, .long 0, .long 0, .int 0])), (lo, .inr (3, [.int 0, .ref (z 0), .int 0])), (ou, .inl (co, 1, .inr (.inl of_)))] H) (hD : va_D A [(x, .inr (15, [.ref sh, .ref tl, .ref tw, .int 0])), (tl, .inr (3, [.int 0, .ref (z 0), .int 0])), (sh, .inr (13, [.ref rg, .ref dk, .ref hd, .ref lg, .ref pl, .ref pr, .int 0, .int 0, .int 0, .int 0, .int 0, .int 0, .int 0, .int 0, .int 0, .int 0, .int 0])), (rg, .inr (11, [.ref mf, .ref mm, .ref mz, .ref ma, .ref sa, .int 0])), (sa, .inl (cS, 9, .inr (.inr (.inr (.inr (va_up (va_up (va_up (va_up (va_up (va_up (va_up (va_up (va_up (fun _ => none) 0 (some s0)) 1 (some s1)) 2 (some s2)) 3 (some s3)) 4 (some s4)) 5 (some s5)) 6 (some s6)) 7 (some s7)) 8 (some s8))))))), (s4, .inr (12, [.int 9, .int 6, .ref mm, .int 1, .int 0, .int 900, .int 0, .int 0])), (dk, .inr (4, [.ref w0, .ref w1, .ref ol, .int 0, .int 0, .int 0, .int 0])), (ol, .inr (3, [.int 0, .ref (z 0), .int 0])), (mo, .inr (19, [.int 0, .int 0, .int 0, .int 0, .int 0, .int 0, .int 0, .ref ti, .ref si, .ref lo, .ref lh, .ref lk, .ref sp, .ref st, .ref pa, .ref br, .ref sg, .int 0, .int 0, .int 0, .int 0, .int 0, .int 0, .long 0, .long 0, .long 0, .long 0, .int 0])), (lo, .inr (3, [.int 0, .ref (z 0), .int 0])), (ou, .inl (co, 1, .inr (.inl of_)))]) (hS : va_S A s.heap H locs) (ls : Array Slot) (hl : lv_has ls 10 [(0, .ref b), (1, .ref x), (2, .ref mo), (3, .ref ou), (4, .ref od_), (5, .int 0)]) : W p l e room_1 s m #[Value.ref b] below meth c H locs 100 1400 (lw_Z below #[Value.ref b] s) (F0 m 403 ls []) := by
  obtain ⟨hx, hb, hr, hml, hown, hts, hX, hbl, hlocks, hgv⟩ := id C0
  have hbA : ¬ A b := fun h => absurd (hAl b h) (Nat.not_le.mpr hbl)
  refine lv_aload_n hx hb dL_law_403 rfl (lv_at hl 1 rfl) ?_
  refine lv_aload_n hx hb dL_law_404 rfl (lv_at hl 0 rfl) ?_
  refine lv_iload hx hb dL_law_405 (lv_at hl 5 rfl) ?_
  refine lv_iconst (v := 1) hx hb dL_law_407 (by decide) ?_
  refine lv_iadd hx hb dL_law_408 ?_
  refine kc_i (y := 1) (by decide +kernel) ?_
  refine va_sld hx hb hX hbl hbA hS (pk_in 1 4 (by decide) rfl) dL_law_409 ?_
  refine kc_i (y := rw) (hs1 : xs 1 = rw) ?_
  refine lv_i2c (v := 115) hx hb dL_law_410 hch ?_
  refine lv_aload_n hx hb dL_law_411 rfl (lv_at hl 0 rfl) ?_
  refine lv_iload hx hb dL_law_412 (lv_at hl 5 rfl) ?_
  refine lv_iconst (v := 2) hx hb dL_law_414 (by decide) ?_
  refine lv_iadd hx hb dL_law_415 ?_
  refine kc_i (y := 2) (by decide +kernel) ?_
  refine va_sld hx hb hX hbl hbA hS (pk_in 2 4 (by decide) rfl) dL_law_416 ?_
  refine kc_i (y := 4) (hs2 : xs 2 = 4) ?_
  refine lv_aload_n hx hb dL_law_417 rfl (lv_at hl 0 rfl) ?_
  refine lv_iload hx hb dL_law_418 (lv_at hl 5 rfl) ?_
  refine lv_iconst (v := 3) hx hb dL_law_420 (by decide) ?_
  refine lv_iadd hx hb dL_law_421 ?_
  refine kc_i (y := 3) (by decide +kernel) ?_
  refine va_sld hx hb hX hbl hbA hS (pk_in 3 4 (by decide) rfl) dL_law_422 ?_
  refine kc_i (y := p2) (hs3 : xs 3 = p2) ?_
  refine lv_aload_n hx hb dL_law_423 rfl (lv_at hl 3 rfl) ?_
  have hPc := hP.sub (ws' := [(x, .inr (15, [.ref sh, .ref tl, .ref tw, .int 0])), (tl, .inr (3, [.int 0, .ref (z 0), .int 0])), (sh, .inr (13, [.ref rg, .ref dk, .ref hd, .ref lg, .ref pl, .ref pr, .int 0, .int 0, .int 0, .int 0, .int 0, .int 0, .int 0, .int 0, .int 0, .int 0, .int 0])), (dk, .inr (4, [.ref w0, .ref w1, .ref ol, .int 0, .int 0, .int 0, .int 0])), (ol, .inr (3, [.int 0, .ref (z 0), .int 0])), (rg, .inr (11, [.ref mf, .ref mm, .ref mz, .ref ma, .ref sa, .int 0])), (sa, .inl (cS, 9, .inr (.inr (.inr (.inr (va_up (va_up (va_up (va_up (va_up (va_up (va_up (va_up (va_up (fun _ => none) 0 (some s0)) 1 (some s1)) 2 (some s2)) 3 (some s3)) 4 (some s4)) 5 (some s5)) 6 (some s6)) 7 (some s7)) 8 (some s8))))))), (s4, .inr (12, [.int 9, .int 6, .ref mm, .int 1, .int 0, .int 900, .int 0, .int 0])), (ou, .inl (co, 1, .inr (.inl of_)))]) [0, 1, 2, 6, 7, 3, 4, 5, 10] rfl
  have hDc := hD.sub (ws' := [(x, .inr (15, [.ref sh, .ref tl, .ref tw, .int 0])), (tl, .inr (3, [.int 0, .ref (z 0), .int 0])), (sh, .inr (13, [.ref rg, .ref dk, .ref hd, .ref lg, .ref pl, .ref pr, .int 0, .int 0, .int 0, .int 0, .int 0, .int 0, .int 0, .int 0, .int 0, .int 0, .int 0])), (dk, .inr (4, [.ref w0, .ref w1, .ref ol, .int 0, .int 0, .int 0, .int 0])), (ol, .inr (3, [.int 0, .ref (z 0), .int 0])), (rg, .inr (11, [.ref mf, .ref mm, .ref mz, .ref ma, .ref sa, .int 0])), (sa, .inl (cS, 9, .inr (.inr (.inr (.inr (va_up (va_up (va_up (va_up (va_up (va_up (va_up (va_up (va_up (fun _ => none) 0 (some s0)) 1 (some s1)) 2 (some s2)) 3 (some s3)) 4 (some s4)) 5 (some s5)) 6 (some s6)) 7 (some s7)) 8 (some s8))))))), (s4, .inr (12, [.int 9, .int 6, .ref mm, .int 1, .int 0, .int 900, .int 0, .int 0])), (ou, .inl (co, 1, .inr (.inl of_)))]) [0, 1, 2, 6, 7, 3, 4, 5, 10] (by decide) rfl
  have hKc := hK.sub (tys' := [(cS, .object RX8), (co, .long)]) [0, 1] rfl
  have hFc := va_free (wc := [(x, .inr (15, [.ref sh, .ref tl, .ref tw, .int 0])), (tl, .inr (3, [.int 0, .ref (z 0), .int 0])), (sh, .inr (13, [.ref rg, .ref dk, .ref hd, .ref lg, .ref pl, .ref pr, .int 0, .int 0, .int 0, .int 0, .int 0, .int 0, .int 0, .int 0, .int 0, .int 0, .int 0])), (dk, .inr (4, [.ref w0, .ref w1, .ref ol, .int 0, .int 0, .int 0, .int 0])), (ol, .inr (3, [.int 0, .ref (z 0), .int 0])), (rg, .inr (11, [.ref mf, .ref mm, .ref mz, .ref ma, .ref sa, .int 0])), (sa, .inl (cS, 9, .inr (.inr (.inr (.inr (va_up (va_up (va_up (va_up (va_up (va_up (va_up (va_up (va_up (fun _ => none) 0 (some s0)) 1 (some s1)) 2 (some s2)) 3 (some s3)) 4 (some s4)) 5 (some s5)) 6 (some s6)) 7 (some s7)) 8 (some s8))))))), (s4, .inr (12, [.int 9, .int 6, .ref mm, .int 1, .int 0, .int 900, .int 0, .int 0])), (ou, .inl (co, 1, .inr (.inl of_)))]) hD hS hA [0, 1, 2, 6, 7, 3, 4, 5, 10] rfl
  refine va_calli (vx_runSW (As := [.ref x, .int 115, .int 4, .int p2, .ref ou]) (rest := []) ⟨hx, hb, hml, hown, hts⟩ (k_l_order_s4 l dC dI z zK zV sh rg mf mm mz ma sa s0 s1 s2 s3 s4 s5 s6 s7 s8 dk w0 w1 ol hd lg pl pr cS x tl tw p2 ou co of_ H.size (hg0)) (vx_cwSW 5 hts hL_L_order_110 rfl rfl rfl (by decide +kernel) ⟨Nat.le_of_ble_eq_true rfl, Nat.le_of_ble_eq_true rfl⟩) ⟨kP_blind, kP_go hPc hKc hDc hFc hM hS⟩ rfl rfl hl.1 rfl (lv_room (Nat.le_of_ble_eq_true rfl)) dL_law_424 ⟨Nat.le_of_ble_eq_true rfl, Nat.le_of_ble_eq_true rfl⟩) hS (fun q _ h => hFc q h) hFc (fun r1 u t H1 locs ht hvm hw hB hz1 hk1 hS => ?_)
  obtain ⟨hP, hD, hK⟩ := kJ (wr := [(mo, .inr (19, [.int 0, .int 0, .int 0, .int 0, .int 0, .int 0, .int 0, .ref ti, .ref si, .ref lo, .ref lh, .ref lk, .ref sp, .ref st, .ref pa, .ref br, .ref sg, .int 0, .int 0, .int 0, .int 0, .int 0, .int 0, .long 0, .long 0, .long 0, .long 0, .int 0])), (lo, .inr (3, [.int 0, .ref (z 0), .int 0]))]) (w1 := [(ou, .inl (co, 1, .inr (.inl (vp_updL of_ 0 0))))]) (t1 := []) hP hD hK [0, 1, 2, 6, 7, 3, 4, 5, 10] [8, 9] rfl rfl (by decide) (by decide) hk1 hFc ht hvm hB
  generalize H1 = H at hP hS ⊢
  have hP : va_P (dC, dI) vwCl [(mo, .inr (19, [.int 0, .int 0, .int 0, .int 0, .int 0, .int 0, .int 0, .ref ti, .ref si, .ref lo, .ref lh, .ref lk, .ref sp, .ref st, .ref pa, .ref br, .ref sg, .int 0, .int 0, .int 0, .int 0, .int 0, .int 0, .long 0, .long 0, .long 0, .long 0, .int 0])), (lo, .inr (3, [.int 0, .ref (z 0), .int 0])), (ou, .inl (co, 1, .inr (.inl (vp_updL of_ 0 0))))] H := hP
  have hD : va_D A [(mo, .inr (19, [.int 0, .int 0, .int 0, .int 0, .int 0, .int 0, .int 0, .ref ti, .ref si, .ref lo, .ref lh, .ref lk, .ref sp, .ref st, .ref pa, .ref br, .ref sg, .int 0, .int 0, .int 0, .int 0, .int 0, .int 0, .long 0, .long 0, .long 0, .long 0, .int 0])), (lo, .inr (3, [.int 0, .ref (z 0), .int 0])), (ou, .inl (co, 1, .inr (.inl (vp_updL of_ 0 0))))] := hD
  have hK : va_K (dC, dI) vwCl [(cS, .object RX8), (co, .long)] s := hK
  obtain rfl : 0 = r1 := hw
  refine lv_istore (lv' := [(6, .int 0), (0, .ref b), (1, .ref x), (2, .ref mo), (3, .ref ou), (4, .ref od_), (5, .int 0)]) hx hb dL_law_427 hl (by decide) rfl (fun ls hl => ?_)
  refine lv_aload_n hx hb dL_law_429 rfl (lv_at hl 3 rfl) ?_
  refine lv_aload_n hx hb dL_law_430 rfl (lv_at hl 1 rfl) ?_
  refine lv_iload hx hb dL_law_431 (lv_at hl 6 rfl) ?_
  refine lv_iconst (v := 1) hx hb dL_law_433 (by decide) ?_
  refine lv_iadd hx hb dL_law_434 ?_
  refine kc_i (y := 1) (by decide +kernel) ?_
  refine va_sld hx hb hX hbl hbA hS (pk_in 1 4 (by decide) rfl) dL_law_435 ?_
  refine kc_i (y := rw) (hs1 : xs 1 = rw) ?_
  refine lv_i2c (v := 115) hx hb dL_law_436 hch ?_
  refine lv_aload_n hx hb dL_law_437 rfl (lv_at hl 1 rfl) ?_
  refine lv_iload hx hb dL_law_438 (lv_at hl 6 rfl) ?_
  refine lv_iconst (v := 2) hx hb dL_law_440 (by decide) ?_
  refine lv_iadd hx hb dL_law_441 ?_
  refine kc_i (y := 2) (by decide +kernel) ?_
  refine va_sld hx hb hX hbl hbA hS (pk_in 2 4 (by decide) rfl) dL_law_442 ?_
  refine kc_i (y := 4) (hs2 : xs 2 = 4) ?_
  refine lv_aload_n hx hb dL_law_443 rfl (lv_at hl 1 rfl) ?_
  refine lv_iload hx hb dL_law_444 (lv_at hl 6 rfl) ?_
  refine lv_iconst (v := 3) hx hb dL_law_446 (by decide) ?_
  refine lv_iadd hx hb dL_law_447 ?_
  refine kc_i (y := 3) (by decide +kernel) ?_
  refine va_sld hx hb hX hbl hbA hS (pk_in 3 4 (by decide) rfl) dL_law_448 ?_
  refine kc_i (y := p2) (hs3 : xs 3 = p2) ?_
  have hPc := hP.sub (ws' := [(mo, .inr (19, [.int 0, .int 0, .int 0, .int 0, .int 0, .int 0, .int 0, .ref ti, .ref si, .ref lo, .ref lh, .ref lk, .ref sp, .ref st, .ref pa, .ref br, .ref sg, .int 0, .int 0, .int 0, .int 0, .int 0, .int 0, .long 0, .long 0, .long 0, .long 0, .int 0])), (lo, .inr (3, [.int 0, .ref (z 0), .int 0]))]) [0, 1] rfl
  have hDc := hD.sub (ws' := [(mo, .inr (19, [.int 0, .int 0, .int 0, .int 0, .int 0, .int 0, .int 0, .ref ti, .ref si, .ref lo, .ref lh, .ref lk, .ref sp, .ref st, .ref pa, .ref br, .ref sg, .int 0, .int 0, .int 0, .int 0, .int 0, .int 0, .long 0, .long 0, .long 0, .long 0, .int 0])), (lo, .inr (3, [.int 0, .ref (z 0), .int 0]))]) [0, 1] (by decide) rfl
  have hKc := hK.sub (tys' := []) [] rfl
  have hFc := va_free (wc := [(mo, .inr (19, [.int 0, .int 0, .int 0, .int 0, .int 0, .int 0, .int 0, .ref ti, .ref si, .ref lo, .ref lh, .ref lk, .ref sp, .ref st, .ref pa, .ref br, .ref sg, .int 0, .int 0, .int 0, .int 0, .int 0, .int 0, .long 0, .long 0, .long 0, .long 0, .int 0])), (lo, .inr (3, [.int 0, .ref (z 0), .int 0]))]) hD hS hA [0, 1] rfl
  refine va_calli (va_runV (As := [.int 115, .int 4, .int p2]) (rest := []) ⟨hx, hb, hml, hown, hts⟩ (k_m_order_s4 l dC dI z zK zV p2 mo ti si lo lh lk sp st pa br sg 0 H.size (hg0)) (cwV 3 hts hL_X15_order_113 rfl rfl rfl (by decide +kernel) ⟨Nat.le_of_ble_eq_true rfl, Nat.le_of_ble_eq_true rfl⟩) ⟨kP_blind, va_recv hKc hPc (ci := 19) (q0 := 0) rfl rfl, kP_go hPc hKc hDc hFc hM hS⟩ rfl rfl hl.1 rfl (lv_room (Nat.le_of_ble_eq_true rfl)) dL_law_449 ⟨Nat.le_of_ble_eq_true rfl, Nat.le_of_ble_eq_true rfl⟩) hS (fun q _ h => hFc q h) hFc (fun r2 u t H1 locs ht hvm hw hB hz1 hk1 hS => ?_)
  obtain ⟨hP, hD, hK⟩ := kJ (wr := [(ou, .inl (co, 1, .inr (.inl (vp_updL of_ 0 0))))]) (w1 := [(mo, .inr (19, [.int 0, .int 0, .int 0, .int 0, .int 0, .int 0, .int 0, .ref ti, .ref si, .ref lo, .ref lh, .ref lk, .ref sp, .ref st, .ref pa, .ref br, .ref sg, .int 0, .int 0, .int 0, .int 0, .int 0, .int 0, .long 0, .long 0, .long 0, .long 0, .int 0]))]) (t1 := []) hP hD hK [0, 1] [2] rfl rfl (by decide) (by decide) hk1 hFc ht hvm hB
  generalize H1 = H at hP hS ⊢
  have hP : va_P (dC, dI) vwCl [(ou, .inl (co, 1, .inr (.inl (vp_updL of_ 0 0)))), (mo, .inr (19, [.int 0, .int 0, .int 0, .int 0, .int 0, .int 0, .int 0, .ref ti, .ref si, .ref lo, .ref lh, .ref lk, .ref sp, .ref st, .ref pa, .ref br, .ref sg, .int 0, .int 0, .int 0, .int 0, .int 0, .int 0, .long 0, .long 0, .long 0, .long 0, .int 0]))] H := hP
  have hD : va_D A [(ou, .inl (co, 1, .inr (.inl (vp_updL of_ 0 0)))), (mo, .inr (19, [.int 0, .int 0, .int 0, .int 0, .int 0, .int 0, .int 0, .ref ti, .ref si, .ref lo, .ref lh, .ref lk, .ref sp, .ref st, .ref pa, .ref br, .ref sg, .int 0, .int 0, .int 0, .int 0, .int 0, .int 0, .long 0, .long 0, .long 0, .long 0, .int 0]))] := hD
  have hK : va_K (dC, dI) vwCl [(cS, .object RX8), (co, .long)] s := hK
  obtain rfl : 0 = r2 := hw
  refine lv_istore (lv' := [(7, .int 0), (6, .int 0), (0, .ref b), (1, .ref x), (2, .ref mo), (3, .ref ou), (4, .ref od_), (5, .int 0)]) hx hb dL_law_452 hl (by decide) rfl (fun ls hl => ?_)
  refine lv_aload_n hx hb dL_law_454 rfl (lv_at hl 4 rfl) ?_
  have hPc := hP.sub (ws' := [(mo, .inr (19, [.int 0, .int 0, .int 0, .int 0, .int 0, .int 0, .int 0, .ref ti, .ref si, .ref lo, .ref lh, .ref lk, .ref sp, .ref st, .ref pa, .ref br, .ref sg, .int 0, .int 0, .int 0, .int 0, .int 0, .int 0, .long 0, .long 0, .long 0, .long 0, .int 0]))]) [1] rfl
  have hDc := hD.sub (ws' := [(mo, .inr (19, [.int 0, .int 0, .int 0, .int 0, .int 0, .int 0, .int 0, .ref ti, .ref si, .ref lo, .ref lh, .ref lk, .ref sp, .ref st, .ref pa, .ref br, .ref sg, .int 0, .int 0, .int 0, .int 0, .int 0, .int 0, .long 0, .long 0, .long 0, .long 0, .int 0]))]) [1] (by decide) rfl
  have hKc := hK.sub (tys' := []) [] rfl
  have hFc := va_free (wc := [(mo, .inr (19, [.int 0, .int 0, .int 0, .int 0, .int 0, .int 0, .int 0, .ref ti, .ref si, .ref lo, .ref lh, .ref lk, .ref sp, .ref st, .ref pa, .ref br, .ref sg, .int 0, .int 0, .int 0, .int 0, .int 0, .int 0, .long 0, .long 0, .long 0, .long 0, .int 0]))]) hD hS hA [1] rfl
  refine va_calli (va_runV (As := []) (rest := []) ⟨hx, hb, hml, hown, hts⟩ (k_m_thrown l dC dI z zK zV mo ti si lo lh lk sp st pa br sg 0 0 0 0 0 0 0 0 0 0 0 0 0 0 0 0 0 0 H.size) (cwV 0 hts hL_X15_thrown_100 rfl rfl rfl (by decide +kernel) ⟨Nat.le_of_ble_eq_true rfl, Nat.le_of_ble_eq_true rfl⟩) ⟨kP_blind, va_recv hKc hPc (ci := 19) (q0 := 0) rfl rfl, kP_go hPc hKc hDc hFc hM hS⟩ rfl rfl hl.1 rfl (lv_room (Nat.le_of_ble_eq_true rfl)) dL_law_455 ⟨Nat.le_of_ble_eq_true rfl, Nat.le_of_ble_eq_true rfl⟩) hS (fun q _ h => hFc q h) hFc (fun r3 u t H1 locs ht hvm hw hB hz1 hk1 hS => ?_)
  obtain ⟨hP, hD, hK⟩ := kJ (wr := [(ou, .inl (co, 1, .inr (.inl (vp_updL of_ 0 0))))]) (w1 := [(mo, .inr (19, [.int 0, .int 0, .int 0, .int 0, .int 0, .int 0, .int 0, .ref ti, .ref si, .ref lo, .ref lh, .ref lk, .ref sp, .ref st, .ref pa, .ref br, .ref sg, .int 0, .int 0, .int 0, .int 0, .int 0, .int 0, .long 0, .long 0, .long 0, .long 0, .int 0]))]) (t1 := []) hP hD hK [1] [0] rfl rfl (by decide) (by decide) hk1 hFc ht hvm hB
  generalize H1 = H at hP hS ⊢
  have hP : va_P (dC, dI) vwCl [(ou, .inl (co, 1, .inr (.inl (vp_updL of_ 0 0)))), (mo, .inr (19, [.int 0, .int 0, .int 0, .int 0, .int 0, .int 0, .int 0, .ref ti, .ref si, .ref lo, .ref lh, .ref lk, .ref sp, .ref st, .ref pa, .ref br, .ref sg, .int 0, .int 0, .int 0, .int 0, .int 0, .int 0, .long 0, .long 0, .long 0, .long 0, .int 0]))] H := hP
  have hD : va_D A [(ou, .inl (co, 1, .inr (.inl (vp_updL of_ 0 0)))), (mo, .inr (19, [.int 0, .int 0, .int 0, .int 0, .int 0, .int 0, .int 0, .ref ti, .ref si, .ref lo, .ref lh, .ref lk, .ref sp, .ref st, .ref pa, .ref br, .ref sg, .int 0, .int 0, .int 0, .int 0, .int 0, .int 0, .long 0, .long 0, .long 0, .long 0, .int 0]))] := hD
  have hK : va_K (dC, dI) vwCl [(cS, .object RX8), (co, .long)] s := hK
  obtain rfl : 0 = r3 := hw
  refine lv_iload hx hb dL_law_458 (lv_at hl 1 rfl) ?_
  refine lv_icmp_eq (tgt := 465) hx hb dL_law_460 (by decide) (fun _ => ?_) (fun c_ => absurd (by decide +kernel) c_)
  refine lv_iload hx hb dL_law_465 (lv_at hl 1 rfl) ?_
  refine lv_if_ne (tgt := 482) hx hb dL_law_467 (by decide) (fun c_ => absurd (by decide +kernel) c_) (fun _ => ?_)
  refine lv_aload_n hx hb dL_law_470 rfl (lv_at hl 5 rfl) ?_
  refine lv_iconst (v := 0) hx hb dL_law_471 (by decide) ?_
  refine va_lald hx hb hK hP 0 1 rfl rfl (pk_in 0 1 (by decide) rfl) dL_law_472 ?_
  refine kc_v (y := .long 0) rfl ?_
  refine lv_iload hx hb dL_law_473 (lv_at hl 0 rfl) ?_
  refine lv_i2l (v := 0) hx hb dL_law_475 (by decide +kernel) ?_
  refine W.lcmp hx hb dL_law_476 ?_
  refine kc_i (y := 0) (by decide +kernel) ?_
  refine lv_if_eq (tgt := 482) hx hb dL_law_477 (by decide) (fun _ => ?_) (fun c_ => absurd (by decide +kernel) c_)
  refine lv_goto (tgt := 1684) hx hb dL_law_482 (by decide) ?_
  exact la_tail (dC := dC) (dI := dI) hst C0 hM hA hAl H locs hS ls (lv_sub hl [2, 7] rfl) (by omega) (by omega)
set_option maxHeartbeats 8000000 in
set_option maxRecDepth 100000 in
theorem la_order_s5 {p : Program} {l : Launch} {e : Env} {s : State} {m : MethodId} {below : List Frame} {meth : Method} {c : Code} {dC : Nat → ClassId} {dI : Nat → Nat → Nat} {z zK zV : Nat → Nat} {b : Nat} {xs : Nat → Int32} {A : Nat → Prop} (hst : l.stackTraces = false) (C0 : lw_At p s m meth c b 4 xs) (hM : am z zK zV A s s.heap) (hA : ∀ q : Nat, s.heap.size ≤ q → A q) (hAl : ∀ q : Nat, A q → s.heap.size ≤ q) (sh : Nat) (rg : Nat) (mf : Nat) (mm : Nat) (mz : Nat) (ma : Nat) (sa : Nat) (s0 : Nat) (s1 : Nat) (s2 : Nat) (s3 : Nat) (s4 : Nat) (s5 : Nat) (s6 : Nat) (s7 : Nat) (s8 : Nat) (dk : Nat) (w0 : Nat) (w1 : Nat) (ol : Nat) (hd : Nat) (lg : Nat) (pl : Nat) (pr : Nat) (cS : ClassId) (x : Nat) (tl : Nat) (tw : Nat) (p2 : Int32) (mo : Nat) (ti : Nat) (si : Nat) (lo : Nat) (lh : Nat) (lk : Nat) (sp : Nat) (st : Nat) (pa : Nat) (br : Nat) (sg : Nat) (ou : Nat) (co : ClassId) (of_ : Nat → Int64) (od_ : Nat) (rw : Int32) (hg0 : (0 : Int32) ≤ p2 ∧ p2 ≤ 2) (hs1 : xs 1 = rw) (hs2 : xs 2 = 5) (hs3 : xs 3 = p2) (hch : (rw.toUInt32 % 65536).toInt32 = 115) (H : Heap) (locs : List Loc) (hK : va_K (dC, dI) vwCl [(cS, .object RX8), (co, .long)] s) (hP : va_P (dC, dI) vwCl [(x, .inr (15, [.ref sh, .ref tl, .ref tw, .int 0])), (tl, .inr (3, [.int 0, .ref (z 0), .int 0])), (sh, .inr (13, [.ref rg, .ref dk, .ref hd, .ref lg, .ref pl, .ref pr, .int 0, .int 0, .int 0, .int 0, .int 0, .int 0, .int 0, .int 0, .int 0, .int 0, .int 0])), (rg, .inr (11, [.ref mf, .ref mm, .ref mz, .ref ma, .ref sa, .int 0])), (sa, .inl (cS, 9, .inr (.inr (.inr (.inr (va_up (va_up (va_up (va_up (va_up (va_up (va_up (va_up (va_up (fun _ => none) 0 (some s0)) 1 (some s1)) 2 (some s2)) 3 (some s3)) 4 (some s4)) 5 (some s5)) 6 (some s6)) 7 (some s7)) 8 (some s8))))))), (s5, .inr (12, [.int 4, .int 3, .ref mm, .int 1, .int 0, .int 900, .int 0, .int 0])), (dk, .inr (4, [.ref w0, .ref w1, .ref ol, .int 0, .int 0, .int 0, .int 0])), (ol, .inr (3, [.int 0, .ref (z 0), .int 0])), (mo, .inr (19, [.int 0, .int 0, .int 0, .int 0, .int 0, .int 0, .int 0, .ref ti, .ref si, .ref lo, .ref lh, .ref lk, .ref sp, .ref st, .ref pa, .ref br, .ref sg, .int 0, .int 0, .int 0, .int 0, .int 0, .int 0, .long 0, .long 0, .long 0, .long 0, .int 0])), (lo, .inr (3, [.int 0, .ref (z 0), .int 0])), (ou, .inl (co, 1, .inr (.inl of_)))] H) (hD : va_D A [(x, .inr (15, [.ref sh, .ref tl, .ref tw, .int 0])), (tl, .inr (3, [.int 0, .ref (z 0), .int 0])), (sh, .inr (13, [.ref rg, .ref dk, .ref hd, .ref lg, .ref pl, .ref pr, .int 0, .int 0, .int 0, .int 0, .int 0, .int 0, .int 0, .int 0, .int 0, .int 0, .int 0])), (rg, .inr (11, [.ref mf, .ref mm, .ref mz, .ref ma, .ref sa, .int 0])), (sa, .inl (cS, 9, .inr (.inr (.inr (.inr (va_up (va_up (va_up (va_up (va_up (va_up (va_up (va_up (va_up (fun _ => none) 0 (some s0)) 1 (some s1)) 2 (some s2)) 3 (some s3)) 4 (some s4)) 5 (some s5)) 6 (some s6)) 7 (some s7)) 8 (some s8))))))), (s5, .inr (12, [.int 4, .int 3, .ref mm, .int 1, .int 0, .int 900, .int 0, .int 0])), (dk, .inr (4, [.ref w0, .ref w1, .ref ol, .int 0, .int 0, .int 0, .int 0])), (ol, .inr (3, [.int 0, .ref (z 0), .int 0])), (mo, .inr (19, [.int 0, .int 0, .int 0, .int 0, .int 0, .int 0, .int 0, .ref ti, .ref si, .ref lo, .ref lh, .ref lk, .ref sp, .ref st, .ref pa, .ref br, .ref sg, .int 0, .int 0, .int 0, .int 0, .int 0, .int 0, .long 0, .long 0, .long 0, .long 0, .int 0])), (lo, .inr (3, [.int 0, .ref (z 0), .int 0])), (ou, .inl (co, 1, .inr (.inl of_)))]) (hS : va_S A s.heap H locs) (ls : Array Slot) (hl : lv_has ls 10 [(0, .ref b), (1, .ref x), (2, .ref mo), (3, .ref ou), (4, .ref od_), (5, .int 0)]) : W p l e room_1 s m #[Value.ref b] below meth c H locs 100 1400 (lw_Z below #[Value.ref b] s) (F0 m 403 ls []) := by
  obtain ⟨hx, hb, hr, hml, hown, hts, hX, hbl, hlocks, hgv⟩ := id C0
  have hbA : ¬ A b := fun h => absurd (hAl b h) (Nat.not_le.mpr hbl)
  refine lv_aload_n hx hb dL_law_403 rfl (lv_at hl 1 rfl) ?_
  refine lv_aload_n hx hb dL_law_404 rfl (lv_at hl 0 rfl) ?_
  refine lv_iload hx hb dL_law_405 (lv_at hl 5 rfl) ?_
  refine lv_iconst (v := 1) hx hb dL_law_407 (by decide) ?_
  refine lv_iadd hx hb dL_law_408 ?_
  refine kc_i (y := 1) (by decide +kernel) ?_
  refine va_sld hx hb hX hbl hbA hS (pk_in 1 4 (by decide) rfl) dL_law_409 ?_
  refine kc_i (y := rw) (hs1 : xs 1 = rw) ?_
  refine lv_i2c (v := 115) hx hb dL_law_410 hch ?_
  refine lv_aload_n hx hb dL_law_411 rfl (lv_at hl 0 rfl) ?_
  refine lv_iload hx hb dL_law_412 (lv_at hl 5 rfl) ?_
  refine lv_iconst (v := 2) hx hb dL_law_414 (by decide) ?_
  refine lv_iadd hx hb dL_law_415 ?_
  refine kc_i (y := 2) (by decide +kernel) ?_
  refine va_sld hx hb hX hbl hbA hS (pk_in 2 4 (by decide) rfl) dL_law_416 ?_
  refine kc_i (y := 5) (hs2 : xs 2 = 5) ?_
  refine lv_aload_n hx hb dL_law_417 rfl (lv_at hl 0 rfl) ?_
  refine lv_iload hx hb dL_law_418 (lv_at hl 5 rfl) ?_
  refine lv_iconst (v := 3) hx hb dL_law_420 (by decide) ?_
  refine lv_iadd hx hb dL_law_421 ?_
  refine kc_i (y := 3) (by decide +kernel) ?_
  refine va_sld hx hb hX hbl hbA hS (pk_in 3 4 (by decide) rfl) dL_law_422 ?_
  refine kc_i (y := p2) (hs3 : xs 3 = p2) ?_
  refine lv_aload_n hx hb dL_law_423 rfl (lv_at hl 3 rfl) ?_
  have hPc := hP.sub (ws' := [(x, .inr (15, [.ref sh, .ref tl, .ref tw, .int 0])), (tl, .inr (3, [.int 0, .ref (z 0), .int 0])), (sh, .inr (13, [.ref rg, .ref dk, .ref hd, .ref lg, .ref pl, .ref pr, .int 0, .int 0, .int 0, .int 0, .int 0, .int 0, .int 0, .int 0, .int 0, .int 0, .int 0])), (dk, .inr (4, [.ref w0, .ref w1, .ref ol, .int 0, .int 0, .int 0, .int 0])), (ol, .inr (3, [.int 0, .ref (z 0), .int 0])), (rg, .inr (11, [.ref mf, .ref mm, .ref mz, .ref ma, .ref sa, .int 0])), (sa, .inl (cS, 9, .inr (.inr (.inr (.inr (va_up (va_up (va_up (va_up (va_up (va_up (va_up (va_up (va_up (fun _ => none) 0 (some s0)) 1 (some s1)) 2 (some s2)) 3 (some s3)) 4 (some s4)) 5 (some s5)) 6 (some s6)) 7 (some s7)) 8 (some s8))))))), (s5, .inr (12, [.int 4, .int 3, .ref mm, .int 1, .int 0, .int 900, .int 0, .int 0])), (ou, .inl (co, 1, .inr (.inl of_)))]) [0, 1, 2, 6, 7, 3, 4, 5, 10] rfl
  have hDc := hD.sub (ws' := [(x, .inr (15, [.ref sh, .ref tl, .ref tw, .int 0])), (tl, .inr (3, [.int 0, .ref (z 0), .int 0])), (sh, .inr (13, [.ref rg, .ref dk, .ref hd, .ref lg, .ref pl, .ref pr, .int 0, .int 0, .int 0, .int 0, .int 0, .int 0, .int 0, .int 0, .int 0, .int 0, .int 0])), (dk, .inr (4, [.ref w0, .ref w1, .ref ol, .int 0, .int 0, .int 0, .int 0])), (ol, .inr (3, [.int 0, .ref (z 0), .int 0])), (rg, .inr (11, [.ref mf, .ref mm, .ref mz, .ref ma, .ref sa, .int 0])), (sa, .inl (cS, 9, .inr (.inr (.inr (.inr (va_up (va_up (va_up (va_up (va_up (va_up (va_up (va_up (va_up (fun _ => none) 0 (some s0)) 1 (some s1)) 2 (some s2)) 3 (some s3)) 4 (some s4)) 5 (some s5)) 6 (some s6)) 7 (some s7)) 8 (some s8))))))), (s5, .inr (12, [.int 4, .int 3, .ref mm, .int 1, .int 0, .int 900, .int 0, .int 0])), (ou, .inl (co, 1, .inr (.inl of_)))]) [0, 1, 2, 6, 7, 3, 4, 5, 10] (by decide) rfl
  have hKc := hK.sub (tys' := [(cS, .object RX8), (co, .long)]) [0, 1] rfl
  have hFc := va_free (wc := [(x, .inr (15, [.ref sh, .ref tl, .ref tw, .int 0])), (tl, .inr (3, [.int 0, .ref (z 0), .int 0])), (sh, .inr (13, [.ref rg, .ref dk, .ref hd, .ref lg, .ref pl, .ref pr, .int 0, .int 0, .int 0, .int 0, .int 0, .int 0, .int 0, .int 0, .int 0, .int 0, .int 0])), (dk, .inr (4, [.ref w0, .ref w1, .ref ol, .int 0, .int 0, .int 0, .int 0])), (ol, .inr (3, [.int 0, .ref (z 0), .int 0])), (rg, .inr (11, [.ref mf, .ref mm, .ref mz, .ref ma, .ref sa, .int 0])), (sa, .inl (cS, 9, .inr (.inr (.inr (.inr (va_up (va_up (va_up (va_up (va_up (va_up (va_up (va_up (va_up (fun _ => none) 0 (some s0)) 1 (some s1)) 2 (some s2)) 3 (some s3)) 4 (some s4)) 5 (some s5)) 6 (some s6)) 7 (some s7)) 8 (some s8))))))), (s5, .inr (12, [.int 4, .int 3, .ref mm, .int 1, .int 0, .int 900, .int 0, .int 0])), (ou, .inl (co, 1, .inr (.inl of_)))]) hD hS hA [0, 1, 2, 6, 7, 3, 4, 5, 10] rfl
  refine va_calli (vx_runSW (As := [.ref x, .int 115, .int 5, .int p2, .ref ou]) (rest := []) ⟨hx, hb, hml, hown, hts⟩ (k_l_order_s5 l dC dI z zK zV sh rg mf mm mz ma sa s0 s1 s2 s3 s4 s5 s6 s7 s8 dk w0 w1 ol hd lg pl pr cS x tl tw p2 ou co of_ H.size (hg0)) (vx_cwSW 5 hts hL_L_order_110 rfl rfl rfl (by decide +kernel) ⟨Nat.le_of_ble_eq_true rfl, Nat.le_of_ble_eq_true rfl⟩) ⟨kP_blind, kP_go hPc hKc hDc hFc hM hS⟩ rfl rfl hl.1 rfl (lv_room (Nat.le_of_ble_eq_true rfl)) dL_law_424 ⟨Nat.le_of_ble_eq_true rfl, Nat.le_of_ble_eq_true rfl⟩) hS (fun q _ h => hFc q h) hFc (fun r1 u t H1 locs ht hvm hw hB hz1 hk1 hS => ?_)
  obtain ⟨hP, hD, hK⟩ := kJ (wr := [(mo, .inr (19, [.int 0, .int 0, .int 0, .int 0, .int 0, .int 0, .int 0, .ref ti, .ref si, .ref lo, .ref lh, .ref lk, .ref sp, .ref st, .ref pa, .ref br, .ref sg, .int 0, .int 0, .int 0, .int 0, .int 0, .int 0, .long 0, .long 0, .long 0, .long 0, .int 0])), (lo, .inr (3, [.int 0, .ref (z 0), .int 0]))]) (w1 := [(ou, .inl (co, 1, .inr (.inl (vp_updL of_ 0 0))))]) (t1 := []) hP hD hK [0, 1, 2, 6, 7, 3, 4, 5, 10] [8, 9] rfl rfl (by decide) (by decide) hk1 hFc ht hvm hB
  generalize H1 = H at hP hS ⊢
  have hP : va_P (dC, dI) vwCl [(mo, .inr (19, [.int 0, .int 0, .int 0, .int 0, .int 0, .int 0, .int 0, .ref ti, .ref si, .ref lo, .ref lh, .ref lk, .ref sp, .ref st, .ref pa, .ref br, .ref sg, .int 0, .int 0, .int 0, .int 0, .int 0, .int 0, .long 0, .long 0, .long 0, .long 0, .int 0])), (lo, .inr (3, [.int 0, .ref (z 0), .int 0])), (ou, .inl (co, 1, .inr (.inl (vp_updL of_ 0 0))))] H := hP
  have hD : va_D A [(mo, .inr (19, [.int 0, .int 0, .int 0, .int 0, .int 0, .int 0, .int 0, .ref ti, .ref si, .ref lo, .ref lh, .ref lk, .ref sp, .ref st, .ref pa, .ref br, .ref sg, .int 0, .int 0, .int 0, .int 0, .int 0, .int 0, .long 0, .long 0, .long 0, .long 0, .int 0])), (lo, .inr (3, [.int 0, .ref (z 0), .int 0])), (ou, .inl (co, 1, .inr (.inl (vp_updL of_ 0 0))))] := hD
  have hK : va_K (dC, dI) vwCl [(cS, .object RX8), (co, .long)] s := hK
  obtain rfl : 0 = r1 := hw
  refine lv_istore (lv' := [(6, .int 0), (0, .ref b), (1, .ref x), (2, .ref mo), (3, .ref ou), (4, .ref od_), (5, .int 0)]) hx hb dL_law_427 hl (by decide) rfl (fun ls hl => ?_)
  refine lv_aload_n hx hb dL_law_429 rfl (lv_at hl 3 rfl) ?_
  refine lv_aload_n hx hb dL_law_430 rfl (lv_at hl 1 rfl) ?_
  refine lv_iload hx hb dL_law_431 (lv_at hl 6 rfl) ?_
  refine lv_iconst (v := 1) hx hb dL_law_433 (by decide) ?_
  refine lv_iadd hx hb dL_law_434 ?_
  refine kc_i (y := 1) (by decide +kernel) ?_
  refine va_sld hx hb hX hbl hbA hS (pk_in 1 4 (by decide) rfl) dL_law_435 ?_
  refine kc_i (y := rw) (hs1 : xs 1 = rw) ?_
  refine lv_i2c (v := 115) hx hb dL_law_436 hch ?_
  refine lv_aload_n hx hb dL_law_437 rfl (lv_at hl 1 rfl) ?_
  refine lv_iload hx hb dL_law_438 (lv_at hl 6 rfl) ?_
  refine lv_iconst (v := 2) hx hb dL_law_440 (by decide) ?_
  refine lv_iadd hx hb dL_law_441 ?_
  refine kc_i (y := 2) (by decide +kernel) ?_
  refine va_sld hx hb hX hbl hbA hS (pk_in 2 4 (by decide) rfl) dL_law_442 ?_
  refine kc_i (y := 5) (hs2 : xs 2 = 5) ?_
  refine lv_aload_n hx hb dL_law_443 rfl (lv_at hl 1 rfl) ?_
  refine lv_iload hx hb dL_law_444 (lv_at hl 6 rfl) ?_
  refine lv_iconst (v := 3) hx hb dL_law_446 (by decide) ?_
  refine lv_iadd hx hb dL_law_447 ?_
  refine kc_i (y := 3) (by decide +kernel) ?_
  refine va_sld hx hb hX hbl hbA hS (pk_in 3 4 (by decide) rfl) dL_law_448 ?_
  refine kc_i (y := p2) (hs3 : xs 3 = p2) ?_
  have hPc := hP.sub (ws' := [(mo, .inr (19, [.int 0, .int 0, .int 0, .int 0, .int 0, .int 0, .int 0, .ref ti, .ref si, .ref lo, .ref lh, .ref lk, .ref sp, .ref st, .ref pa, .ref br, .ref sg, .int 0, .int 0, .int 0, .int 0, .int 0, .int 0, .long 0, .long 0, .long 0, .long 0, .int 0])), (lo, .inr (3, [.int 0, .ref (z 0), .int 0]))]) [0, 1] rfl
  have hDc := hD.sub (ws' := [(mo, .inr (19, [.int 0, .int 0, .int 0, .int 0, .int 0, .int 0, .int 0, .ref ti, .ref si, .ref lo, .ref lh, .ref lk, .ref sp, .ref st, .ref pa, .ref br, .ref sg, .int 0, .int 0, .int 0, .int 0, .int 0, .int 0, .long 0, .long 0, .long 0, .long 0, .int 0])), (lo, .inr (3, [.int 0, .ref (z 0), .int 0]))]) [0, 1] (by decide) rfl
  have hKc := hK.sub (tys' := []) [] rfl
  have hFc := va_free (wc := [(mo, .inr (19, [.int 0, .int 0, .int 0, .int 0, .int 0, .int 0, .int 0, .ref ti, .ref si, .ref lo, .ref lh, .ref lk, .ref sp, .ref st, .ref pa, .ref br, .ref sg, .int 0, .int 0, .int 0, .int 0, .int 0, .int 0, .long 0, .long 0, .long 0, .long 0, .int 0])), (lo, .inr (3, [.int 0, .ref (z 0), .int 0]))]) hD hS hA [0, 1] rfl
  refine va_calli (va_runV (As := [.int 115, .int 5, .int p2]) (rest := []) ⟨hx, hb, hml, hown, hts⟩ (k_m_order_s5 l dC dI z zK zV p2 mo ti si lo lh lk sp st pa br sg 0 H.size (hg0)) (cwV 3 hts hL_X15_order_113 rfl rfl rfl (by decide +kernel) ⟨Nat.le_of_ble_eq_true rfl, Nat.le_of_ble_eq_true rfl⟩) ⟨kP_blind, va_recv hKc hPc (ci := 19) (q0 := 0) rfl rfl, kP_go hPc hKc hDc hFc hM hS⟩ rfl rfl hl.1 rfl (lv_room (Nat.le_of_ble_eq_true rfl)) dL_law_449 ⟨Nat.le_of_ble_eq_true rfl, Nat.le_of_ble_eq_true rfl⟩) hS (fun q _ h => hFc q h) hFc (fun r2 u t H1 locs ht hvm hw hB hz1 hk1 hS => ?_)
  obtain ⟨hP, hD, hK⟩ := kJ (wr := [(ou, .inl (co, 1, .inr (.inl (vp_updL of_ 0 0))))]) (w1 := [(mo, .inr (19, [.int 0, .int 0, .int 0, .int 0, .int 0, .int 0, .int 0, .ref ti, .ref si, .ref lo, .ref lh, .ref lk, .ref sp, .ref st, .ref pa, .ref br, .ref sg, .int 0, .int 0, .int 0, .int 0, .int 0, .int 0, .long 0, .long 0, .long 0, .long 0, .int 0]))]) (t1 := []) hP hD hK [0, 1] [2] rfl rfl (by decide) (by decide) hk1 hFc ht hvm hB
  generalize H1 = H at hP hS ⊢
  have hP : va_P (dC, dI) vwCl [(ou, .inl (co, 1, .inr (.inl (vp_updL of_ 0 0)))), (mo, .inr (19, [.int 0, .int 0, .int 0, .int 0, .int 0, .int 0, .int 0, .ref ti, .ref si, .ref lo, .ref lh, .ref lk, .ref sp, .ref st, .ref pa, .ref br, .ref sg, .int 0, .int 0, .int 0, .int 0, .int 0, .int 0, .long 0, .long 0, .long 0, .long 0, .int 0]))] H := hP
  have hD : va_D A [(ou, .inl (co, 1, .inr (.inl (vp_updL of_ 0 0)))), (mo, .inr (19, [.int 0, .int 0, .int 0, .int 0, .int 0, .int 0, .int 0, .ref ti, .ref si, .ref lo, .ref lh, .ref lk, .ref sp, .ref st, .ref pa, .ref br, .ref sg, .int 0, .int 0, .int 0, .int 0, .int 0, .int 0, .long 0, .long 0, .long 0, .long 0, .int 0]))] := hD
  have hK : va_K (dC, dI) vwCl [(cS, .object RX8), (co, .long)] s := hK
  obtain rfl : 0 = r2 := hw
  refine lv_istore (lv' := [(7, .int 0), (6, .int 0), (0, .ref b), (1, .ref x), (2, .ref mo), (3, .ref ou), (4, .ref od_), (5, .int 0)]) hx hb dL_law_452 hl (by decide) rfl (fun ls hl => ?_)
  refine lv_aload_n hx hb dL_law_454 rfl (lv_at hl 4 rfl) ?_
  have hPc := hP.sub (ws' := [(mo, .inr (19, [.int 0, .int 0, .int 0, .int 0, .int 0, .int 0, .int 0, .ref ti, .ref si, .ref lo, .ref lh, .ref lk, .ref sp, .ref st, .ref pa, .ref br, .ref sg, .int 0, .int 0, .int 0, .int 0, .int 0, .int 0, .long 0, .long 0, .long 0, .long 0, .int 0]))]) [1] rfl
  have hDc := hD.sub (ws' := [(mo, .inr (19, [.int 0, .int 0, .int 0, .int 0, .int 0, .int 0, .int 0, .ref ti, .ref si, .ref lo, .ref lh, .ref lk, .ref sp, .ref st, .ref pa, .ref br, .ref sg, .int 0, .int 0, .int 0, .int 0, .int 0, .int 0, .long 0, .long 0, .long 0, .long 0, .int 0]))]) [1] (by decide) rfl
  have hKc := hK.sub (tys' := []) [] rfl
  have hFc := va_free (wc := [(mo, .inr (19, [.int 0, .int 0, .int 0, .int 0, .int 0, .int 0, .int 0, .ref ti, .ref si, .ref lo, .ref lh, .ref lk, .ref sp, .ref st, .ref pa, .ref br, .ref sg, .int 0, .int 0, .int 0, .int 0, .int 0, .int 0, .long 0, .long 0, .long 0, .long 0, .int 0]))]) hD hS hA [1] rfl
  refine va_calli (va_runV (As := []) (rest := []) ⟨hx, hb, hml, hown, hts⟩ (k_m_thrown l dC dI z zK zV mo ti si lo lh lk sp st pa br sg 0 0 0 0 0 0 0 0 0 0 0 0 0 0 0 0 0 0 H.size) (cwV 0 hts hL_X15_thrown_100 rfl rfl rfl (by decide +kernel) ⟨Nat.le_of_ble_eq_true rfl, Nat.le_of_ble_eq_true rfl⟩) ⟨kP_blind, va_recv hKc hPc (ci := 19) (q0 := 0) rfl rfl, kP_go hPc hKc hDc hFc hM hS⟩ rfl rfl hl.1 rfl (lv_room (Nat.le_of_ble_eq_true rfl)) dL_law_455 ⟨Nat.le_of_ble_eq_true rfl, Nat.le_of_ble_eq_true rfl⟩) hS (fun q _ h => hFc q h) hFc (fun r3 u t H1 locs ht hvm hw hB hz1 hk1 hS => ?_)
  obtain ⟨hP, hD, hK⟩ := kJ (wr := [(ou, .inl (co, 1, .inr (.inl (vp_updL of_ 0 0))))]) (w1 := [(mo, .inr (19, [.int 0, .int 0, .int 0, .int 0, .int 0, .int 0, .int 0, .ref ti, .ref si, .ref lo, .ref lh, .ref lk, .ref sp, .ref st, .ref pa, .ref br, .ref sg, .int 0, .int 0, .int 0, .int 0, .int 0, .int 0, .long 0, .long 0, .long 0, .long 0, .int 0]))]) (t1 := []) hP hD hK [1] [0] rfl rfl (by decide) (by decide) hk1 hFc ht hvm hB
  generalize H1 = H at hP hS ⊢
  have hP : va_P (dC, dI) vwCl [(ou, .inl (co, 1, .inr (.inl (vp_updL of_ 0 0)))), (mo, .inr (19, [.int 0, .int 0, .int 0, .int 0, .int 0, .int 0, .int 0, .ref ti, .ref si, .ref lo, .ref lh, .ref lk, .ref sp, .ref st, .ref pa, .ref br, .ref sg, .int 0, .int 0, .int 0, .int 0, .int 0, .int 0, .long 0, .long 0, .long 0, .long 0, .int 0]))] H := hP
  have hD : va_D A [(ou, .inl (co, 1, .inr (.inl (vp_updL of_ 0 0)))), (mo, .inr (19, [.int 0, .int 0, .int 0, .int 0, .int 0, .int 0, .int 0, .ref ti, .ref si, .ref lo, .ref lh, .ref lk, .ref sp, .ref st, .ref pa, .ref br, .ref sg, .int 0, .int 0, .int 0, .int 0, .int 0, .int 0, .long 0, .long 0, .long 0, .long 0, .int 0]))] := hD
  have hK : va_K (dC, dI) vwCl [(cS, .object RX8), (co, .long)] s := hK
  obtain rfl : 0 = r3 := hw
  refine lv_iload hx hb dL_law_458 (lv_at hl 1 rfl) ?_
  refine lv_icmp_eq (tgt := 465) hx hb dL_law_460 (by decide) (fun _ => ?_) (fun c_ => absurd (by decide +kernel) c_)
  refine lv_iload hx hb dL_law_465 (lv_at hl 1 rfl) ?_
  refine lv_if_ne (tgt := 482) hx hb dL_law_467 (by decide) (fun c_ => absurd (by decide +kernel) c_) (fun _ => ?_)
  refine lv_aload_n hx hb dL_law_470 rfl (lv_at hl 5 rfl) ?_
  refine lv_iconst (v := 0) hx hb dL_law_471 (by decide) ?_
  refine va_lald hx hb hK hP 0 1 rfl rfl (pk_in 0 1 (by decide) rfl) dL_law_472 ?_
  refine kc_v (y := .long 0) rfl ?_
  refine lv_iload hx hb dL_law_473 (lv_at hl 0 rfl) ?_
  refine lv_i2l (v := 0) hx hb dL_law_475 (by decide +kernel) ?_
  refine W.lcmp hx hb dL_law_476 ?_
  refine kc_i (y := 0) (by decide +kernel) ?_
  refine lv_if_eq (tgt := 482) hx hb dL_law_477 (by decide) (fun _ => ?_) (fun c_ => absurd (by decide +kernel) c_)
  refine lv_goto (tgt := 1684) hx hb dL_law_482 (by decide) ?_
  exact la_tail (dC := dC) (dI := dI) hst C0 hM hA hAl H locs hS ls (lv_sub hl [2, 7] rfl) (by omega) (by omega)
set_option maxHeartbeats 8000000 in
set_option maxRecDepth 100000 in
theorem la_order_s6 {p : Program} {l : Launch} {e : Env} {s : State} {m : MethodId} {below : List Frame} {meth : Method} {c : Code} {dC : Nat → ClassId} {dI : Nat → Nat → Nat} {z zK zV : Nat → Nat} {b : Nat} {xs : Nat → Int32} {A : Nat → Prop} (hst : l.stackTraces = false) (C0 : lw_At p s m meth c b 4 xs) (hM : am z zK zV A s s.heap) (hA : ∀ q : Nat, s.heap.size ≤ q → A q) (hAl : ∀ q : Nat, A q → s.heap.size ≤ q) (sh : Nat) (rg : Nat) (mf : Nat) (mm : Nat) (mz : Nat) (ma : Nat) (sa : Nat) (s0 : Nat) (s1 : Nat) (s2 : Nat) (s3 : Nat) (s4 : Nat) (s5 : Nat) (s6 : Nat) (s7 : Nat) (s8 : Nat) (dk : Nat) (w0 : Nat) (w1 : Nat) (ol : Nat) (hd : Nat) (lg : Nat) (pl : Nat) (pr : Nat) (cS : ClassId) (x : Nat) (tl : Nat) (tw : Nat) (p2 : Int32) (mo : Nat) (ti : Nat) (si : Nat) (lo : Nat) (lh : Nat) (lk : Nat) (sp : Nat) (st : Nat) (pa : Nat) (br : Nat) (sg : Nat) (ou : Nat) (co : ClassId) (of_ : Nat → Int64) (od_ : Nat) (rw : Int32) (hg0 : (0 : Int32) ≤ p2 ∧ p2 ≤ 2) (hs1 : xs 1 = rw) (hs2 : xs 2 = 6) (hs3 : xs 3 = p2) (hch : (rw.toUInt32 % 65536).toInt32 = 115) (H : Heap) (locs : List Loc) (hK : va_K (dC, dI) vwCl [(cS, .object RX8), (co, .long)] s) (hP : va_P (dC, dI) vwCl [(x, .inr (15, [.ref sh, .ref tl, .ref tw, .int 0])), (tl, .inr (3, [.int 0, .ref (z 0), .int 0])), (sh, .inr (13, [.ref rg, .ref dk, .ref hd, .ref lg, .ref pl, .ref pr, .int 0, .int 0, .int 0, .int 0, .int 0, .int 0, .int 0, .int 0, .int 0, .int 0, .int 0])), (rg, .inr (11, [.ref mf, .ref mm, .ref mz, .ref ma, .ref sa, .int 0])), (sa, .inl (cS, 9, .inr (.inr (.inr (.inr (va_up (va_up (va_up (va_up (va_up (va_up (va_up (va_up (va_up (fun _ => none) 0 (some s0)) 1 (some s1)) 2 (some s2)) 3 (some s3)) 4 (some s4)) 5 (some s5)) 6 (some s6)) 7 (some s7)) 8 (some s8))))))), (s6, .inr (12, [.int 5, .int 4, .ref mz, .int 1, .int 0, .int 900, .int 0, .int 0])), (dk, .inr (4, [.ref w0, .ref w1, .ref ol, .int 0, .int 0, .int 0, .int 0])), (ol, .inr (3, [.int 0, .ref (z 0), .int 0])), (mo, .inr (19, [.int 0, .int 0, .int 0, .int 0, .int 0, .int 0, .int 0, .ref ti, .ref si, .ref lo, .ref lh, .ref lk, .ref sp, .ref st, .ref pa, .ref br, .ref sg, .int 0, .int 0, .int 0, .int 0, .int 0, .int 0, .long 0, .long 0, .long 0, .long 0, .int 0])), (lo, .inr (3, [.int 0, .ref (z 0), .int 0])), (ou, .inl (co, 1, .inr (.inl of_)))] H) (hD : va_D A [(x, .inr (15, [.ref sh, .ref tl, .ref tw, .int 0])), (tl, .inr (3, [.int 0, .ref (z 0), .int 0])), (sh, .inr (13, [.ref rg, .ref dk, .ref hd, .ref lg, .ref pl, .ref pr, .int 0, .int 0, .int 0, .int 0, .int 0, .int 0, .int 0, .int 0, .int 0, .int 0, .int 0])), (rg, .inr (11, [.ref mf, .ref mm, .ref mz, .ref ma, .ref sa, .int 0])), (sa, .inl (cS, 9, .inr (.inr (.inr (.inr (va_up (va_up (va_up (va_up (va_up (va_up (va_up (va_up (va_up (fun _ => none) 0 (some s0)) 1 (some s1)) 2 (some s2)) 3 (some s3)) 4 (some s4)) 5 (some s5)) 6 (some s6)) 7 (some s7)) 8 (some s8))))))), (s6, .inr (12, [.int 5, .int 4, .ref mz, .int 1, .int 0, .int 900, .int 0, .int 0])), (dk, .inr (4, [.ref w0, .ref w1, .ref ol, .int 0, .int 0, .int 0, .int 0])), (ol, .inr (3, [.int 0, .ref (z 0), .int 0])), (mo, .inr (19, [.int 0, .int 0, .int 0, .int 0, .int 0, .int 0, .int 0, .ref ti, .ref si, .ref lo, .ref lh, .ref lk, .ref sp, .ref st, .ref pa, .ref br, .ref sg, .int 0, .int 0, .int 0, .int 0, .int 0, .int 0, .long 0, .long 0, .long 0, .long 0, .int 0])), (lo, .inr (3, [.int 0, .ref (z 0), .int 0])), (ou, .inl (co, 1, .inr (.inl of_)))]) (hS : va_S A s.heap H locs) (ls : Array Slot) (hl : lv_has ls 10 [(0, .ref b), (1, .ref x), (2, .ref mo), (3, .ref ou), (4, .ref od_), (5, .int 0)]) : W p l e room_1 s m #[Value.ref b] below meth c H locs 100 1400 (lw_Z below #[Value.ref b] s) (F0 m 403 ls []) := by
  obtain ⟨hx, hb, hr, hml, hown, hts, hX, hbl, hlocks, hgv⟩ := id C0
  have hbA : ¬ A b := fun h => absurd (hAl b h) (Nat.not_le.mpr hbl)
  refine lv_aload_n hx hb dL_law_403 rfl (lv_at hl 1 rfl) ?_
  refine lv_aload_n hx hb dL_law_404 rfl (lv_at hl 0 rfl) ?_
  refine lv_iload hx hb dL_law_405 (lv_at hl 5 rfl) ?_
  refine lv_iconst (v := 1) hx hb dL_law_407 (by decide) ?_
  refine lv_iadd hx hb dL_law_408 ?_
  refine kc_i (y := 1) (by decide +kernel) ?_
  refine va_sld hx hb hX hbl hbA hS (pk_in 1 4 (by decide) rfl) dL_law_409 ?_
  refine kc_i (y := rw) (hs1 : xs 1 = rw) ?_
  refine lv_i2c (v := 115) hx hb dL_law_410 hch ?_
  refine lv_aload_n hx hb dL_law_411 rfl (lv_at hl 0 rfl) ?_
  refine lv_iload hx hb dL_law_412 (lv_at hl 5 rfl) ?_
  refine lv_iconst (v := 2) hx hb dL_law_414 (by decide) ?_
  refine lv_iadd hx hb dL_law_415 ?_
  refine kc_i (y := 2) (by decide +kernel) ?_
  refine va_sld hx hb hX hbl hbA hS (pk_in 2 4 (by decide) rfl) dL_law_416 ?_
  refine kc_i (y := 6) (hs2 : xs 2 = 6) ?_
  refine lv_aload_n hx hb dL_law_417 rfl (lv_at hl 0 rfl) ?_
  refine lv_iload hx hb dL_law_418 (lv_at hl 5 rfl) ?_
  refine lv_iconst (v := 3) hx hb dL_law_420 (by decide) ?_
  refine lv_iadd hx hb dL_law_421 ?_
  refine kc_i (y := 3) (by decide +kernel) ?_
  refine va_sld hx hb hX hbl hbA hS (pk_in 3 4 (by decide) rfl) dL_law_422 ?_
  refine kc_i (y := p2) (hs3 : xs 3 = p2) ?_
  refine lv_aload_n hx hb dL_law_423 rfl (lv_at hl 3 rfl) ?_
  have hPc := hP.sub (ws' := [(x, .inr (15, [.ref sh, .ref tl, .ref tw, .int 0])), (tl, .inr (3, [.int 0, .ref (z 0), .int 0])), (sh, .inr (13, [.ref rg, .ref dk, .ref hd, .ref lg, .ref pl, .ref pr, .int 0, .int 0, .int 0, .int 0, .int 0, .int 0, .int 0, .int 0, .int 0, .int 0, .int 0])), (dk, .inr (4, [.ref w0, .ref w1, .ref ol, .int 0, .int 0, .int 0, .int 0])), (ol, .inr (3, [.int 0, .ref (z 0), .int 0])), (rg, .inr (11, [.ref mf, .ref mm, .ref mz, .ref ma, .ref sa, .int 0])), (sa, .inl (cS, 9, .inr (.inr (.inr (.inr (va_up (va_up (va_up (va_up (va_up (va_up (va_up (va_up (va_up (fun _ => none) 0 (some s0)) 1 (some s1)) 2 (some s2)) 3 (some s3)) 4 (some s4)) 5 (some s5)) 6 (some s6)) 7 (some s7)) 8 (some s8))))))), (s6, .inr (12, [.int 5, .int 4, .ref mz, .int 1, .int 0, .int 900, .int 0, .int 0])), (ou, .inl (co, 1, .inr (.inl of_)))]) [0, 1, 2, 6, 7, 3, 4, 5, 10] rfl
  have hDc := hD.sub (ws' := [(x, .inr (15, [.ref sh, .ref tl, .ref tw, .int 0])), (tl, .inr (3, [.int 0, .ref (z 0), .int 0])), (sh, .inr (13, [.ref rg, .ref dk, .ref hd, .ref lg, .ref pl, .ref pr, .int 0, .int 0, .int 0, .int 0, .int 0, .int 0, .int 0, .int 0, .int 0, .int 0, .int 0])), (dk, .inr (4, [.ref w0, .ref w1, .ref ol, .int 0, .int 0, .int 0, .int 0])), (ol, .inr (3, [.int 0, .ref (z 0), .int 0])), (rg, .inr (11, [.ref mf, .ref mm, .ref mz, .ref ma, .ref sa, .int 0])), (sa, .inl (cS, 9, .inr (.inr (.inr (.inr (va_up (va_up (va_up (va_up (va_up (va_up (va_up (va_up (va_up (fun _ => none) 0 (some s0)) 1 (some s1)) 2 (some s2)) 3 (some s3)) 4 (some s4)) 5 (some s5)) 6 (some s6)) 7 (some s7)) 8 (some s8))))))), (s6, .inr (12, [.int 5, .int 4, .ref mz, .int 1, .int 0, .int 900, .int 0, .int 0])), (ou, .inl (co, 1, .inr (.inl of_)))]) [0, 1, 2, 6, 7, 3, 4, 5, 10] (by decide) rfl
  have hKc := hK.sub (tys' := [(cS, .object RX8), (co, .long)]) [0, 1] rfl
  have hFc := va_free (wc := [(x, .inr (15, [.ref sh, .ref tl, .ref tw, .int 0])), (tl, .inr (3, [.int 0, .ref (z 0), .int 0])), (sh, .inr (13, [.ref rg, .ref dk, .ref hd, .ref lg, .ref pl, .ref pr, .int 0, .int 0, .int 0, .int 0, .int 0, .int 0, .int 0, .int 0, .int 0, .int 0, .int 0])), (dk, .inr (4, [.ref w0, .ref w1, .ref ol, .int 0, .int 0, .int 0, .int 0])), (ol, .inr (3, [.int 0, .ref (z 0), .int 0])), (rg, .inr (11, [.ref mf, .ref mm, .ref mz, .ref ma, .ref sa, .int 0])), (sa, .inl (cS, 9, .inr (.inr (.inr (.inr (va_up (va_up (va_up (va_up (va_up (va_up (va_up (va_up (va_up (fun _ => none) 0 (some s0)) 1 (some s1)) 2 (some s2)) 3 (some s3)) 4 (some s4)) 5 (some s5)) 6 (some s6)) 7 (some s7)) 8 (some s8))))))), (s6, .inr (12, [.int 5, .int 4, .ref mz, .int 1, .int 0, .int 900, .int 0, .int 0])), (ou, .inl (co, 1, .inr (.inl of_)))]) hD hS hA [0, 1, 2, 6, 7, 3, 4, 5, 10] rfl
  refine va_calli (vx_runSW (As := [.ref x, .int 115, .int 6, .int p2, .ref ou]) (rest := []) ⟨hx, hb, hml, hown, hts⟩ (k_l_order_s6 l dC dI z zK zV sh rg mf mm mz ma sa s0 s1 s2 s3 s4 s5 s6 s7 s8 dk w0 w1 ol hd lg pl pr cS x tl tw p2 ou co of_ H.size (hg0)) (vx_cwSW 5 hts hL_L_order_110 rfl rfl rfl (by decide +kernel) ⟨Nat.le_of_ble_eq_true rfl, Nat.le_of_ble_eq_true rfl⟩) ⟨kP_blind, kP_go hPc hKc hDc hFc hM hS⟩ rfl rfl hl.1 rfl (lv_room (Nat.le_of_ble_eq_true rfl)) dL_law_424 ⟨Nat.le_of_ble_eq_true rfl, Nat.le_of_ble_eq_true rfl⟩) hS (fun q _ h => hFc q h) hFc (fun r1 u t H1 locs ht hvm hw hB hz1 hk1 hS => ?_)
  obtain ⟨hP, hD, hK⟩ := kJ (wr := [(mo, .inr (19, [.int 0, .int 0, .int 0, .int 0, .int 0, .int 0, .int 0, .ref ti, .ref si, .ref lo, .ref lh, .ref lk, .ref sp, .ref st, .ref pa, .ref br, .ref sg, .int 0, .int 0, .int 0, .int 0, .int 0, .int 0, .long 0, .long 0, .long 0, .long 0, .int 0])), (lo, .inr (3, [.int 0, .ref (z 0), .int 0]))]) (w1 := [(ou, .inl (co, 1, .inr (.inl (vp_updL of_ 0 0))))]) (t1 := []) hP hD hK [0, 1, 2, 6, 7, 3, 4, 5, 10] [8, 9] rfl rfl (by decide) (by decide) hk1 hFc ht hvm hB
  generalize H1 = H at hP hS ⊢
  have hP : va_P (dC, dI) vwCl [(mo, .inr (19, [.int 0, .int 0, .int 0, .int 0, .int 0, .int 0, .int 0, .ref ti, .ref si, .ref lo, .ref lh, .ref lk, .ref sp, .ref st, .ref pa, .ref br, .ref sg, .int 0, .int 0, .int 0, .int 0, .int 0, .int 0, .long 0, .long 0, .long 0, .long 0, .int 0])), (lo, .inr (3, [.int 0, .ref (z 0), .int 0])), (ou, .inl (co, 1, .inr (.inl (vp_updL of_ 0 0))))] H := hP
  have hD : va_D A [(mo, .inr (19, [.int 0, .int 0, .int 0, .int 0, .int 0, .int 0, .int 0, .ref ti, .ref si, .ref lo, .ref lh, .ref lk, .ref sp, .ref st, .ref pa, .ref br, .ref sg, .int 0, .int 0, .int 0, .int 0, .int 0, .int 0, .long 0, .long 0, .long 0, .long 0, .int 0])), (lo, .inr (3, [.int 0, .ref (z 0), .int 0])), (ou, .inl (co, 1, .inr (.inl (vp_updL of_ 0 0))))] := hD
  have hK : va_K (dC, dI) vwCl [(cS, .object RX8), (co, .long)] s := hK
  obtain rfl : 0 = r1 := hw
  refine lv_istore (lv' := [(6, .int 0), (0, .ref b), (1, .ref x), (2, .ref mo), (3, .ref ou), (4, .ref od_), (5, .int 0)]) hx hb dL_law_427 hl (by decide) rfl (fun ls hl => ?_)
  refine lv_aload_n hx hb dL_law_429 rfl (lv_at hl 3 rfl) ?_
  refine lv_aload_n hx hb dL_law_430 rfl (lv_at hl 1 rfl) ?_
  refine lv_iload hx hb dL_law_431 (lv_at hl 6 rfl) ?_
  refine lv_iconst (v := 1) hx hb dL_law_433 (by decide) ?_
  refine lv_iadd hx hb dL_law_434 ?_
  refine kc_i (y := 1) (by decide +kernel) ?_
  refine va_sld hx hb hX hbl hbA hS (pk_in 1 4 (by decide) rfl) dL_law_435 ?_
  refine kc_i (y := rw) (hs1 : xs 1 = rw) ?_
  refine lv_i2c (v := 115) hx hb dL_law_436 hch ?_
  refine lv_aload_n hx hb dL_law_437 rfl (lv_at hl 1 rfl) ?_
  refine lv_iload hx hb dL_law_438 (lv_at hl 6 rfl) ?_
  refine lv_iconst (v := 2) hx hb dL_law_440 (by decide) ?_
  refine lv_iadd hx hb dL_law_441 ?_
  refine kc_i (y := 2) (by decide +kernel) ?_
  refine va_sld hx hb hX hbl hbA hS (pk_in 2 4 (by decide) rfl) dL_law_442 ?_
  refine kc_i (y := 6) (hs2 : xs 2 = 6) ?_
  refine lv_aload_n hx hb dL_law_443 rfl (lv_at hl 1 rfl) ?_
  refine lv_iload hx hb dL_law_444 (lv_at hl 6 rfl) ?_
  refine lv_iconst (v := 3) hx hb dL_law_446 (by decide) ?_
  refine lv_iadd hx hb dL_law_447 ?_
  refine kc_i (y := 3) (by decide +kernel) ?_
  refine va_sld hx hb hX hbl hbA hS (pk_in 3 4 (by decide) rfl) dL_law_448 ?_
  refine kc_i (y := p2) (hs3 : xs 3 = p2) ?_
  have hPc := hP.sub (ws' := [(mo, .inr (19, [.int 0, .int 0, .int 0, .int 0, .int 0, .int 0, .int 0, .ref ti, .ref si, .ref lo, .ref lh, .ref lk, .ref sp, .ref st, .ref pa, .ref br, .ref sg, .int 0, .int 0, .int 0, .int 0, .int 0, .int 0, .long 0, .long 0, .long 0, .long 0, .int 0])), (lo, .inr (3, [.int 0, .ref (z 0), .int 0]))]) [0, 1] rfl
  have hDc := hD.sub (ws' := [(mo, .inr (19, [.int 0, .int 0, .int 0, .int 0, .int 0, .int 0, .int 0, .ref ti, .ref si, .ref lo, .ref lh, .ref lk, .ref sp, .ref st, .ref pa, .ref br, .ref sg, .int 0, .int 0, .int 0, .int 0, .int 0, .int 0, .long 0, .long 0, .long 0, .long 0, .int 0])), (lo, .inr (3, [.int 0, .ref (z 0), .int 0]))]) [0, 1] (by decide) rfl
  have hKc := hK.sub (tys' := []) [] rfl
  have hFc := va_free (wc := [(mo, .inr (19, [.int 0, .int 0, .int 0, .int 0, .int 0, .int 0, .int 0, .ref ti, .ref si, .ref lo, .ref lh, .ref lk, .ref sp, .ref st, .ref pa, .ref br, .ref sg, .int 0, .int 0, .int 0, .int 0, .int 0, .int 0, .long 0, .long 0, .long 0, .long 0, .int 0])), (lo, .inr (3, [.int 0, .ref (z 0), .int 0]))]) hD hS hA [0, 1] rfl
  refine va_calli (va_runV (As := [.int 115, .int 6, .int p2]) (rest := []) ⟨hx, hb, hml, hown, hts⟩ (k_m_order_s6 l dC dI z zK zV p2 mo ti si lo lh lk sp st pa br sg 0 H.size (hg0)) (cwV 3 hts hL_X15_order_113 rfl rfl rfl (by decide +kernel) ⟨Nat.le_of_ble_eq_true rfl, Nat.le_of_ble_eq_true rfl⟩) ⟨kP_blind, va_recv hKc hPc (ci := 19) (q0 := 0) rfl rfl, kP_go hPc hKc hDc hFc hM hS⟩ rfl rfl hl.1 rfl (lv_room (Nat.le_of_ble_eq_true rfl)) dL_law_449 ⟨Nat.le_of_ble_eq_true rfl, Nat.le_of_ble_eq_true rfl⟩) hS (fun q _ h => hFc q h) hFc (fun r2 u t H1 locs ht hvm hw hB hz1 hk1 hS => ?_)
  obtain ⟨hP, hD, hK⟩ := kJ (wr := [(ou, .inl (co, 1, .inr (.inl (vp_updL of_ 0 0))))]) (w1 := [(mo, .inr (19, [.int 0, .int 0, .int 0, .int 0, .int 0, .int 0, .int 0, .ref ti, .ref si, .ref lo, .ref lh, .ref lk, .ref sp, .ref st, .ref pa, .ref br, .ref sg, .int 0, .int 0, .int 0, .int 0, .int 0, .int 0, .long 0, .long 0, .long 0, .long 0, .int 0]))]) (t1 := []) hP hD hK [0, 1] [2] rfl rfl (by decide) (by decide) hk1 hFc ht hvm hB
  generalize H1 = H at hP hS ⊢
  have hP : va_P (dC, dI) vwCl [(ou, .inl (co, 1, .inr (.inl (vp_updL of_ 0 0)))), (mo, .inr (19, [.int 0, .int 0, .int 0, .int 0, .int 0, .int 0, .int 0, .ref ti, .ref si, .ref lo, .ref lh, .ref lk, .ref sp, .ref st, .ref pa, .ref br, .ref sg, .int 0, .int 0, .int 0, .int 0, .int 0, .int 0, .long 0, .long 0, .long 0, .long 0, .int 0]))] H := hP
  have hD : va_D A [(ou, .inl (co, 1, .inr (.inl (vp_updL of_ 0 0)))), (mo, .inr (19, [.int 0, .int 0, .int 0, .int 0, .int 0, .int 0, .int 0, .ref ti, .ref si, .ref lo, .ref lh, .ref lk, .ref sp, .ref st, .ref pa, .ref br, .ref sg, .int 0, .int 0, .int 0, .int 0, .int 0, .int 0, .long 0, .long 0, .long 0, .long 0, .int 0]))] := hD
  have hK : va_K (dC, dI) vwCl [(cS, .object RX8), (co, .long)] s := hK
  obtain rfl : 0 = r2 := hw
  refine lv_istore (lv' := [(7, .int 0), (6, .int 0), (0, .ref b), (1, .ref x), (2, .ref mo), (3, .ref ou), (4, .ref od_), (5, .int 0)]) hx hb dL_law_452 hl (by decide) rfl (fun ls hl => ?_)
  refine lv_aload_n hx hb dL_law_454 rfl (lv_at hl 4 rfl) ?_
  have hPc := hP.sub (ws' := [(mo, .inr (19, [.int 0, .int 0, .int 0, .int 0, .int 0, .int 0, .int 0, .ref ti, .ref si, .ref lo, .ref lh, .ref lk, .ref sp, .ref st, .ref pa, .ref br, .ref sg, .int 0, .int 0, .int 0, .int 0, .int 0, .int 0, .long 0, .long 0, .long 0, .long 0, .int 0]))]) [1] rfl
  have hDc := hD.sub (ws' := [(mo, .inr (19, [.int 0, .int 0, .int 0, .int 0, .int 0, .int 0, .int 0, .ref ti, .ref si, .ref lo, .ref lh, .ref lk, .ref sp, .ref st, .ref pa, .ref br, .ref sg, .int 0, .int 0, .int 0, .int 0, .int 0, .int 0, .long 0, .long 0, .long 0, .long 0, .int 0]))]) [1] (by decide) rfl
  have hKc := hK.sub (tys' := []) [] rfl
  have hFc := va_free (wc := [(mo, .inr (19, [.int 0, .int 0, .int 0, .int 0, .int 0, .int 0, .int 0, .ref ti, .ref si, .ref lo, .ref lh, .ref lk, .ref sp, .ref st, .ref pa, .ref br, .ref sg, .int 0, .int 0, .int 0, .int 0, .int 0, .int 0, .long 0, .long 0, .long 0, .long 0, .int 0]))]) hD hS hA [1] rfl
  refine va_calli (va_runV (As := []) (rest := []) ⟨hx, hb, hml, hown, hts⟩ (k_m_thrown l dC dI z zK zV mo ti si lo lh lk sp st pa br sg 0 0 0 0 0 0 0 0 0 0 0 0 0 0 0 0 0 0 H.size) (cwV 0 hts hL_X15_thrown_100 rfl rfl rfl (by decide +kernel) ⟨Nat.le_of_ble_eq_true rfl, Nat.le_of_ble_eq_true rfl⟩) ⟨kP_blind, va_recv hKc hPc (ci := 19) (q0 := 0) rfl rfl, kP_go hPc hKc hDc hFc hM hS⟩ rfl rfl hl.1 rfl (lv_room (Nat.le_of_ble_eq_true rfl)) dL_law_455 ⟨Nat.le_of_ble_eq_true rfl, Nat.le_of_ble_eq_true rfl⟩) hS (fun q _ h => hFc q h) hFc (fun r3 u t H1 locs ht hvm hw hB hz1 hk1 hS => ?_)
  obtain ⟨hP, hD, hK⟩ := kJ (wr := [(ou, .inl (co, 1, .inr (.inl (vp_updL of_ 0 0))))]) (w1 := [(mo, .inr (19, [.int 0, .int 0, .int 0, .int 0, .int 0, .int 0, .int 0, .ref ti, .ref si, .ref lo, .ref lh, .ref lk, .ref sp, .ref st, .ref pa, .ref br, .ref sg, .int 0, .int 0, .int 0, .int 0, .int 0, .int 0, .long 0, .long 0, .long 0, .long 0, .int 0]))]) (t1 := []) hP hD hK [1] [0] rfl rfl (by decide) (by decide) hk1 hFc ht hvm hB
  generalize H1 = H at hP hS ⊢
  have hP : va_P (dC, dI) vwCl [(ou, .inl (co, 1, .inr (.inl (vp_updL of_ 0 0)))), (mo, .inr (19, [.int 0, .int 0, .int 0, .int 0, .int 0, .int 0, .int 0, .ref ti, .ref si, .ref lo, .ref lh, .ref lk, .ref sp, .ref st, .ref pa, .ref br, .ref sg, .int 0, .int 0, .int 0, .int 0, .int 0, .int 0, .long 0, .long 0, .long 0, .long 0, .int 0]))] H := hP
  have hD : va_D A [(ou, .inl (co, 1, .inr (.inl (vp_updL of_ 0 0)))), (mo, .inr (19, [.int 0, .int 0, .int 0, .int 0, .int 0, .int 0, .int 0, .ref ti, .ref si, .ref lo, .ref lh, .ref lk, .ref sp, .ref st, .ref pa, .ref br, .ref sg, .int 0, .int 0, .int 0, .int 0, .int 0, .int 0, .long 0, .long 0, .long 0, .long 0, .int 0]))] := hD
  have hK : va_K (dC, dI) vwCl [(cS, .object RX8), (co, .long)] s := hK
  obtain rfl : 0 = r3 := hw
  refine lv_iload hx hb dL_law_458 (lv_at hl 1 rfl) ?_
  refine lv_icmp_eq (tgt := 465) hx hb dL_law_460 (by decide) (fun _ => ?_) (fun c_ => absurd (by decide +kernel) c_)
  refine lv_iload hx hb dL_law_465 (lv_at hl 1 rfl) ?_
  refine lv_if_ne (tgt := 482) hx hb dL_law_467 (by decide) (fun c_ => absurd (by decide +kernel) c_) (fun _ => ?_)
  refine lv_aload_n hx hb dL_law_470 rfl (lv_at hl 5 rfl) ?_
  refine lv_iconst (v := 0) hx hb dL_law_471 (by decide) ?_
  refine va_lald hx hb hK hP 0 1 rfl rfl (pk_in 0 1 (by decide) rfl) dL_law_472 ?_
  refine kc_v (y := .long 0) rfl ?_
  refine lv_iload hx hb dL_law_473 (lv_at hl 0 rfl) ?_
  refine lv_i2l (v := 0) hx hb dL_law_475 (by decide +kernel) ?_
  refine W.lcmp hx hb dL_law_476 ?_
  refine kc_i (y := 0) (by decide +kernel) ?_
  refine lv_if_eq (tgt := 482) hx hb dL_law_477 (by decide) (fun _ => ?_) (fun c_ => absurd (by decide +kernel) c_)
  refine lv_goto (tgt := 1684) hx hb dL_law_482 (by decide) ?_
  exact la_tail (dC := dC) (dI := dI) hst C0 hM hA hAl H locs hS ls (lv_sub hl [2, 7] rfl) (by omega) (by omega)
set_option maxHeartbeats 8000000 in
set_option maxRecDepth 100000 in
theorem la_order_s7 {p : Program} {l : Launch} {e : Env} {s : State} {m : MethodId} {below : List Frame} {meth : Method} {c : Code} {dC : Nat → ClassId} {dI : Nat → Nat → Nat} {z zK zV : Nat → Nat} {b : Nat} {xs : Nat → Int32} {A : Nat → Prop} (hst : l.stackTraces = false) (C0 : lw_At p s m meth c b 4 xs) (hM : am z zK zV A s s.heap) (hA : ∀ q : Nat, s.heap.size ≤ q → A q) (hAl : ∀ q : Nat, A q → s.heap.size ≤ q) (sh : Nat) (rg : Nat) (mf : Nat) (mm : Nat) (mz : Nat) (ma : Nat) (sa : Nat) (s0 : Nat) (s1 : Nat) (s2 : Nat) (s3 : Nat) (s4 : Nat) (s5 : Nat) (s6 : Nat) (s7 : Nat) (s8 : Nat) (dk : Nat) (w0 : Nat) (w1 : Nat) (ol : Nat) (hd : Nat) (lg : Nat) (pl : Nat) (pr : Nat) (cS : ClassId) (x : Nat) (tl : Nat) (tw : Nat) (p2 : Int32) (mo : Nat) (ti : Nat) (si : Nat) (lo : Nat) (lh : Nat) (lk : Nat) (sp : Nat) (st : Nat) (pa : Nat) (br : Nat) (sg : Nat) (ou : Nat) (co : ClassId) (of_ : Nat → Int64) (od_ : Nat) (rw : Int32) (hg0 : (0 : Int32) ≤ p2 ∧ p2 ≤ 2) (hs1 : xs 1 = rw) (hs2 : xs 2 = 7) (hs3 : xs 3 = p2) (hch : (rw.toUInt32 % 65536).toInt32 = 115) (H : Heap) (locs : List Loc) (hK : va_K (dC, dI) vwCl [(cS, .object RX8), (co, .long)] s) (hP : va_P (dC, dI) vwCl [(x, .inr (15, [.ref sh, .ref tl, .ref tw, .int 0])), (tl, .inr (3, [.int 0, .ref (z 0), .int 0])), (sh, .inr (13, [.ref rg, .ref dk, .ref hd, .ref lg, .ref pl, .ref pr, .int 0, .int 0, .int 0, .int 0, .int 0, .int 0, .int 0, .int 0, .int 0, .int 0, .int 0])), (rg, .inr (11, [.ref mf, .ref mm, .ref mz, .ref ma, .ref sa, .int 0])), (sa, .inl (cS, 9, .inr (.inr (.inr (.inr (va_up (va_up (va_up (va_up (va_up (va_up (va_up (va_up (va_up (fun _ => none) 0 (some s0)) 1 (some s1)) 2 (some s2)) 3 (some s3)) 4 (some s4)) 5 (some s5)) 6 (some s6)) 7 (some s7)) 8 (some s8))))))), (s7, .inr (12, [.int 4, .int 3, .ref mf, .int 0, .int 0, .int 900, .int 0, .int 0])), (dk, .inr (4, [.ref w0, .ref w1, .ref ol, .int 0, .int 0, .int 0, .int 0])), (ol, .inr (3, [.int 0, .ref (z 0), .int 0])), (mo, .inr (19, [.int 0, .int 0, .int 0, .int 0, .int 0, .int 0, .int 0, .ref ti, .ref si, .ref lo, .ref lh, .ref lk, .ref sp, .ref st, .ref pa, .ref br, .ref sg, .int 0, .int 0, .int 0, .int 0, .int 0, .int 0, .long 0, .long 0, .long 0, .long 0, .int 0])), (lo, .inr (3, [.int 0, .ref (z 0), .int 0])), (ou, .inl (co, 1, .inr (.inl of_)))] H) (hD : va_D A [(x, .inr (15, [.ref sh, .ref tl, .ref tw, .int 0])), (tl, .inr (3, [.int 0, .ref (z 0), .int 0])), (sh, .inr (13, [.ref rg, .ref dk, .ref hd, .ref lg, .ref pl, .ref pr, .int 0, .int 0, .int 0, .int 0, .int 0, .int 0, .int 0, .int 0, .int 0, .int 0, .int 0])), (rg, .inr (11, [.ref mf, .ref mm, .ref mz, .ref ma, .ref sa, .int 0])), (sa, .inl (cS, 9, .inr (.inr (.inr (.inr (va_up (va_up (va_up (va_up (va_up (va_up (va_up (va_up (va_up (fun _ => none) 0 (some s0)) 1 (some s1)) 2 (some s2)) 3 (some s3)) 4 (some s4)) 5 (some s5)) 6 (some s6)) 7 (some s7)) 8 (some s8))))))), (s7, .inr (12, [.int 4, .int 3, .ref mf, .int 0, .int 0, .int 900, .int 0, .int 0])), (dk, .inr (4, [.ref w0, .ref w1, .ref ol, .int 0, .int 0, .int 0, .int 0])), (ol, .inr (3, [.int 0, .ref (z 0), .int 0])), (mo, .inr (19, [.int 0, .int 0, .int 0, .int 0, .int 0, .int 0, .int 0, .ref ti, .ref si, .ref lo, .ref lh, .ref lk, .ref sp, .ref st, .ref pa, .ref br, .ref sg, .int 0, .int 0, .int 0, .int 0, .int 0, .int 0, .long 0, .long 0, .long 0, .long 0, .int 0])), (lo, .inr (3, [.int 0, .ref (z 0), .int 0])), (ou, .inl (co, 1, .inr (.inl of_)))]) (hS : va_S A s.heap H locs) (ls : Array Slot) (hl : lv_has ls 10 [(0, .ref b), (1, .ref x), (2, .ref mo), (3, .ref ou), (4, .ref od_), (5, .int 0)]) : W p l e room_1 s m #[Value.ref b] below meth c H locs 100 1400 (lw_Z below #[Value.ref b] s) (F0 m 403 ls []) := by
  obtain ⟨hx, hb, hr, hml, hown, hts, hX, hbl, hlocks, hgv⟩ := id C0
  have hbA : ¬ A b := fun h => absurd (hAl b h) (Nat.not_le.mpr hbl)
  refine lv_aload_n hx hb dL_law_403 rfl (lv_at hl 1 rfl) ?_
  refine lv_aload_n hx hb dL_law_404 rfl (lv_at hl 0 rfl) ?_
  refine lv_iload hx hb dL_law_405 (lv_at hl 5 rfl) ?_
  refine lv_iconst (v := 1) hx hb dL_law_407 (by decide) ?_
  refine lv_iadd hx hb dL_law_408 ?_
  refine kc_i (y := 1) (by decide +kernel) ?_
  refine va_sld hx hb hX hbl hbA hS (pk_in 1 4 (by decide) rfl) dL_law_409 ?_
  refine kc_i (y := rw) (hs1 : xs 1 = rw) ?_
  refine lv_i2c (v := 115) hx hb dL_law_410 hch ?_
  refine lv_aload_n hx hb dL_law_411 rfl (lv_at hl 0 rfl) ?_
  refine lv_iload hx hb dL_law_412 (lv_at hl 5 rfl) ?_
  refine lv_iconst (v := 2) hx hb dL_law_414 (by decide) ?_
  refine lv_iadd hx hb dL_law_415 ?_
  refine kc_i (y := 2) (by decide +kernel) ?_
  refine va_sld hx hb hX hbl hbA hS (pk_in 2 4 (by decide) rfl) dL_law_416 ?_
  refine kc_i (y := 7) (hs2 : xs 2 = 7) ?_
  refine lv_aload_n hx hb dL_law_417 rfl (lv_at hl 0 rfl) ?_
  refine lv_iload hx hb dL_law_418 (lv_at hl 5 rfl) ?_
  refine lv_iconst (v := 3) hx hb dL_law_420 (by decide) ?_
  refine lv_iadd hx hb dL_law_421 ?_
  refine kc_i (y := 3) (by decide +kernel) ?_
  refine va_sld hx hb hX hbl hbA hS (pk_in 3 4 (by decide) rfl) dL_law_422 ?_
  refine kc_i (y := p2) (hs3 : xs 3 = p2) ?_
  refine lv_aload_n hx hb dL_law_423 rfl (lv_at hl 3 rfl) ?_
  have hPc := hP.sub (ws' := [(x, .inr (15, [.ref sh, .ref tl, .ref tw, .int 0])), (tl, .inr (3, [.int 0, .ref (z 0), .int 0])), (sh, .inr (13, [.ref rg, .ref dk, .ref hd, .ref lg, .ref pl, .ref pr, .int 0, .int 0, .int 0, .int 0, .int 0, .int 0, .int 0, .int 0, .int 0, .int 0, .int 0])), (dk, .inr (4, [.ref w0, .ref w1, .ref ol, .int 0, .int 0, .int 0, .int 0])), (ol, .inr (3, [.int 0, .ref (z 0), .int 0])), (rg, .inr (11, [.ref mf, .ref mm, .ref mz, .ref ma, .ref sa, .int 0])), (sa, .inl (cS, 9, .inr (.inr (.inr (.inr (va_up (va_up (va_up (va_up (va_up (va_up (va_up (va_up (va_up (fun _ => none) 0 (some s0)) 1 (some s1)) 2 (some s2)) 3 (some s3)) 4 (some s4)) 5 (some s5)) 6 (some s6)) 7 (some s7)) 8 (some s8))))))), (s7, .inr (12, [.int 4, .int 3, .ref mf, .int 0, .int 0, .int 900, .int 0, .int 0])), (ou, .inl (co, 1, .inr (.inl of_)))]) [0, 1, 2, 6, 7, 3, 4, 5, 10] rfl
  have hDc := hD.sub (ws' := [(x, .inr (15, [.ref sh, .ref tl, .ref tw, .int 0])), (tl, .inr (3, [.int 0, .ref (z 0), .int 0])), (sh, .inr (13, [.ref rg, .ref dk, .ref hd, .ref lg, .ref pl, .ref pr, .int 0, .int 0, .int 0, .int 0, .int 0, .int 0, .int 0, .int 0, .int 0, .int 0, .int 0])), (dk, .inr (4, [.ref w0, .ref w1, .ref ol, .int 0, .int 0, .int 0, .int 0])), (ol, .inr (3, [.int 0, .ref (z 0), .int 0])), (rg, .inr (11, [.ref mf, .ref mm, .ref mz, .ref ma, .ref sa, .int 0])), (sa, .inl (cS, 9, .inr (.inr (.inr (.inr (va_up (va_up (va_up (va_up (va_up (va_up (va_up (va_up (va_up (fun _ => none) 0 (some s0)) 1 (some s1)) 2 (some s2)) 3 (some s3)) 4 (some s4)) 5 (some s5)) 6 (some s6)) 7 (some s7)) 8 (some s8))))))), (s7, .inr (12, [.int 4, .int 3, .ref mf, .int 0, .int 0, .int 900, .int 0, .int 0])), (ou, .inl (co, 1, .inr (.inl of_)))]) [0, 1, 2, 6, 7, 3, 4, 5, 10] (by decide) rfl
  have hKc := hK.sub (tys' := [(cS, .object RX8), (co, .long)]) [0, 1] rfl
  have hFc := va_free (wc := [(x, .inr (15, [.ref sh, .ref tl, .ref tw, .int 0])), (tl, .inr (3, [.int 0, .ref (z 0), .int 0])), (sh, .inr (13, [.ref rg, .ref dk, .ref hd, .ref lg, .ref pl, .ref pr, .int 0, .int 0, .int 0, .int 0, .int 0, .int 0, .int 0, .int 0, .int 0, .int 0, .int 0])), (dk, .inr (4, [.ref w0, .ref w1, .ref ol, .int 0, .int 0, .int 0, .int 0])), (ol, .inr (3, [.int 0, .ref (z 0), .int 0])), (rg, .inr (11, [.ref mf, .ref mm, .ref mz, .ref ma, .ref sa, .int 0])), (sa, .inl (cS, 9, .inr (.inr (.inr (.inr (va_up (va_up (va_up (va_up (va_up (va_up (va_up (va_up (va_up (fun _ => none) 0 (some s0)) 1 (some s1)) 2 (some s2)) 3 (some s3)) 4 (some s4)) 5 (some s5)) 6 (some s6)) 7 (some s7)) 8 (some s8))))))), (s7, .inr (12, [.int 4, .int 3, .ref mf, .int 0, .int 0, .int 900, .int 0, .int 0])), (ou, .inl (co, 1, .inr (.inl of_)))]) hD hS hA [0, 1, 2, 6, 7, 3, 4, 5, 10] rfl
  refine va_calli (vx_runSW (As := [.ref x, .int 115, .int 7, .int p2, .ref ou]) (rest := []) ⟨hx, hb, hml, hown, hts⟩ (k_l_order_s7 l dC dI z zK zV sh rg mf mm mz ma sa s0 s1 s2 s3 s4 s5 s6 s7 s8 dk w0 w1 ol hd lg pl pr cS x tl tw p2 ou co of_ H.size (hg0)) (vx_cwSW 5 hts hL_L_order_110 rfl rfl rfl (by decide +kernel) ⟨Nat.le_of_ble_eq_true rfl, Nat.le_of_ble_eq_true rfl⟩) ⟨kP_blind, kP_go hPc hKc hDc hFc hM hS⟩ rfl rfl hl.1 rfl (lv_room (Nat.le_of_ble_eq_true rfl)) dL_law_424 ⟨Nat.le_of_ble_eq_true rfl, Nat.le_of_ble_eq_true rfl⟩) hS (fun q _ h => hFc q h) hFc (fun r1 u t H1 locs ht hvm hw hB hz1 hk1 hS => ?_)
  obtain ⟨hP, hD, hK⟩ := kJ (wr := [(mo, .inr (19, [.int 0, .int 0, .int 0, .int 0, .int 0, .int 0, .int 0, .ref ti, .ref si, .ref lo, .ref lh, .ref lk, .ref sp, .ref st, .ref pa, .ref br, .ref sg, .int 0, .int 0, .int 0, .int 0, .int 0, .int 0, .long 0, .long 0, .long 0, .long 0, .int 0])), (lo, .inr (3, [.int 0, .ref (z 0), .int 0]))]) (w1 := [(ou, .inl (co, 1, .inr (.inl (vp_updL of_ 0 0))))]) (t1 := []) hP hD hK [0, 1, 2, 6, 7, 3, 4, 5, 10] [8, 9] rfl rfl (by decide) (by decide) hk1 hFc ht hvm hB
  generalize H1 = H at hP hS ⊢
  have hP : va_P (dC, dI) vwCl [(mo, .inr (19, [.int 0, .int 0, .int 0, .int 0, .int 0, .int 0, .int 0, .ref ti, .ref si, .ref lo, .ref lh, .ref lk, .ref sp, .ref st, .ref pa, .ref br, .ref sg, .int 0, .int 0, .int 0, .int 0, .int 0, .int 0, .long 0, .long 0, .long 0, .long 0, .int 0])), (lo, .inr (3, [.int 0, .ref (z 0), .int 0])), (ou, .inl (co, 1, .inr (.inl (vp_updL of_ 0 0))))] H := hP
  have hD : va_D A [(mo, .inr (19, [.int 0, .int 0, .int 0, .int 0, .int 0, .int 0, .int 0, .ref ti, .ref si, .ref lo, .ref lh, .ref lk, .ref sp, .ref st, .ref pa, .ref br, .ref sg, .int 0, .int 0, .int 0, .int 0, .int 0, .int 0, .long 0, .long 0, .long 0, .long 0, .int 0])), (lo, .inr (3, [.int 0, .ref (z 0), .int 0])), (ou, .inl (co, 1, .inr (.inl (vp_updL of_ 0 0))))] := hD
  have hK : va_K (dC, dI) vwCl [(cS, .object RX8), (co, .long)] s := hK
  obtain rfl : 0 = r1 := hw
  refine lv_istore (lv' := [(6, .int 0), (0, .ref b), (1, .ref x), (2, .ref mo), (3, .ref ou), (4, .ref od_), (5, .int 0)]) hx hb dL_law_427 hl (by decide) rfl (fun ls hl => ?_)
  refine lv_aload_n hx hb dL_law_429 rfl (lv_at hl 3 rfl) ?_
  refine lv_aload_n hx hb dL_law_430 rfl (lv_at hl 1 rfl) ?_
  refine lv_iload hx hb dL_law_431 (lv_at hl 6 rfl) ?_
  refine lv_iconst (v := 1) hx hb dL_law_433 (by decide) ?_
  refine lv_iadd hx hb dL_law_434 ?_
  refine kc_i (y := 1) (by decide +kernel) ?_
  refine va_sld hx hb hX hbl hbA hS (pk_in 1 4 (by decide) rfl) dL_law_435 ?_
  refine kc_i (y := rw) (hs1 : xs 1 = rw) ?_
  refine lv_i2c (v := 115) hx hb dL_law_436 hch ?_
  refine lv_aload_n hx hb dL_law_437 rfl (lv_at hl 1 rfl) ?_
  refine lv_iload hx hb dL_law_438 (lv_at hl 6 rfl) ?_
  refine lv_iconst (v := 2) hx hb dL_law_440 (by decide) ?_
  refine lv_iadd hx hb dL_law_441 ?_
  refine kc_i (y := 2) (by decide +kernel) ?_
  refine va_sld hx hb hX hbl hbA hS (pk_in 2 4 (by decide) rfl) dL_law_442 ?_
  refine kc_i (y := 7) (hs2 : xs 2 = 7) ?_
  refine lv_aload_n hx hb dL_law_443 rfl (lv_at hl 1 rfl) ?_
  refine lv_iload hx hb dL_law_444 (lv_at hl 6 rfl) ?_
  refine lv_iconst (v := 3) hx hb dL_law_446 (by decide) ?_
  refine lv_iadd hx hb dL_law_447 ?_
  refine kc_i (y := 3) (by decide +kernel) ?_
  refine va_sld hx hb hX hbl hbA hS (pk_in 3 4 (by decide) rfl) dL_law_448 ?_
  refine kc_i (y := p2) (hs3 : xs 3 = p2) ?_
  have hPc := hP.sub (ws' := [(mo, .inr (19, [.int 0, .int 0, .int 0, .int 0, .int 0, .int 0, .int 0, .ref ti, .ref si, .ref lo, .ref lh, .ref lk, .ref sp, .ref st, .ref pa, .ref br, .ref sg, .int 0, .int 0, .int 0, .int 0, .int 0, .int 0, .long 0, .long 0, .long 0, .long 0, .int 0])), (lo, .inr (3, [.int 0, .ref (z 0), .int 0]))]) [0, 1] rfl
  have hDc := hD.sub (ws' := [(mo, .inr (19, [.int 0, .int 0, .int 0, .int 0, .int 0, .int 0, .int 0, .ref ti, .ref si, .ref lo, .ref lh, .ref lk, .ref sp, .ref st, .ref pa, .ref br, .ref sg, .int 0, .int 0, .int 0, .int 0, .int 0, .int 0, .long 0, .long 0, .long 0, .long 0, .int 0])), (lo, .inr (3, [.int 0, .ref (z 0), .int 0]))]) [0, 1] (by decide) rfl
  have hKc := hK.sub (tys' := []) [] rfl
  have hFc := va_free (wc := [(mo, .inr (19, [.int 0, .int 0, .int 0, .int 0, .int 0, .int 0, .int 0, .ref ti, .ref si, .ref lo, .ref lh, .ref lk, .ref sp, .ref st, .ref pa, .ref br, .ref sg, .int 0, .int 0, .int 0, .int 0, .int 0, .int 0, .long 0, .long 0, .long 0, .long 0, .int 0])), (lo, .inr (3, [.int 0, .ref (z 0), .int 0]))]) hD hS hA [0, 1] rfl
  refine va_calli (va_runV (As := [.int 115, .int 7, .int p2]) (rest := []) ⟨hx, hb, hml, hown, hts⟩ (k_m_order_s7 l dC dI z zK zV p2 mo ti si lo lh lk sp st pa br sg 0 H.size (hg0)) (cwV 3 hts hL_X15_order_113 rfl rfl rfl (by decide +kernel) ⟨Nat.le_of_ble_eq_true rfl, Nat.le_of_ble_eq_true rfl⟩) ⟨kP_blind, va_recv hKc hPc (ci := 19) (q0 := 0) rfl rfl, kP_go hPc hKc hDc hFc hM hS⟩ rfl rfl hl.1 rfl (lv_room (Nat.le_of_ble_eq_true rfl)) dL_law_449 ⟨Nat.le_of_ble_eq_true rfl, Nat.le_of_ble_eq_true rfl⟩) hS (fun q _ h => hFc q h) hFc (fun r2 u t H1 locs ht hvm hw hB hz1 hk1 hS => ?_)
  obtain ⟨hP, hD, hK⟩ := kJ (wr := [(ou, .inl (co, 1, .inr (.inl (vp_updL of_ 0 0))))]) (w1 := [(mo, .inr (19, [.int 0, .int 0, .int 0, .int 0, .int 0, .int 0, .int 0, .ref ti, .ref si, .ref lo, .ref lh, .ref lk, .ref sp, .ref st, .ref pa, .ref br, .ref sg, .int 0, .int 0, .int 0, .int 0, .int 0, .int 0, .long 0, .long 0, .long 0, .long 0, .int 0]))]) (t1 := []) hP hD hK [0, 1] [2] rfl rfl (by decide) (by decide) hk1 hFc ht hvm hB
  generalize H1 = H at hP hS ⊢
  have hP : va_P (dC, dI) vwCl [(ou, .inl (co, 1, .inr (.inl (vp_updL of_ 0 0)))), (mo, .inr (19, [.int 0, .int 0, .int 0, .int 0, .int 0, .int 0, .int 0, .ref ti, .ref si, .ref lo, .ref lh, .ref lk, .ref sp, .ref st, .ref pa, .ref br, .ref sg, .int 0, .int 0, .int 0, .int 0, .int 0, .int 0, .long 0, .long 0, .long 0, .long 0, .int 0]))] H := hP
  have hD : va_D A [(ou, .inl (co, 1, .inr (.inl (vp_updL of_ 0 0)))), (mo, .inr (19, [.int 0, .int 0, .int 0, .int 0, .int 0, .int 0, .int 0, .ref ti, .ref si, .ref lo, .ref lh, .ref lk, .ref sp, .ref st, .ref pa, .ref br, .ref sg, .int 0, .int 0, .int 0, .int 0, .int 0, .int 0, .long 0, .long 0, .long 0, .long 0, .int 0]))] := hD
  have hK : va_K (dC, dI) vwCl [(cS, .object RX8), (co, .long)] s := hK
  obtain rfl : 0 = r2 := hw
  refine lv_istore (lv' := [(7, .int 0), (6, .int 0), (0, .ref b), (1, .ref x), (2, .ref mo), (3, .ref ou), (4, .ref od_), (5, .int 0)]) hx hb dL_law_452 hl (by decide) rfl (fun ls hl => ?_)
  refine lv_aload_n hx hb dL_law_454 rfl (lv_at hl 4 rfl) ?_
  have hPc := hP.sub (ws' := [(mo, .inr (19, [.int 0, .int 0, .int 0, .int 0, .int 0, .int 0, .int 0, .ref ti, .ref si, .ref lo, .ref lh, .ref lk, .ref sp, .ref st, .ref pa, .ref br, .ref sg, .int 0, .int 0, .int 0, .int 0, .int 0, .int 0, .long 0, .long 0, .long 0, .long 0, .int 0]))]) [1] rfl
  have hDc := hD.sub (ws' := [(mo, .inr (19, [.int 0, .int 0, .int 0, .int 0, .int 0, .int 0, .int 0, .ref ti, .ref si, .ref lo, .ref lh, .ref lk, .ref sp, .ref st, .ref pa, .ref br, .ref sg, .int 0, .int 0, .int 0, .int 0, .int 0, .int 0, .long 0, .long 0, .long 0, .long 0, .int 0]))]) [1] (by decide) rfl
  have hKc := hK.sub (tys' := []) [] rfl
  have hFc := va_free (wc := [(mo, .inr (19, [.int 0, .int 0, .int 0, .int 0, .int 0, .int 0, .int 0, .ref ti, .ref si, .ref lo, .ref lh, .ref lk, .ref sp, .ref st, .ref pa, .ref br, .ref sg, .int 0, .int 0, .int 0, .int 0, .int 0, .int 0, .long 0, .long 0, .long 0, .long 0, .int 0]))]) hD hS hA [1] rfl
  refine va_calli (va_runV (As := []) (rest := []) ⟨hx, hb, hml, hown, hts⟩ (k_m_thrown l dC dI z zK zV mo ti si lo lh lk sp st pa br sg 0 0 0 0 0 0 0 0 0 0 0 0 0 0 0 0 0 0 H.size) (cwV 0 hts hL_X15_thrown_100 rfl rfl rfl (by decide +kernel) ⟨Nat.le_of_ble_eq_true rfl, Nat.le_of_ble_eq_true rfl⟩) ⟨kP_blind, va_recv hKc hPc (ci := 19) (q0 := 0) rfl rfl, kP_go hPc hKc hDc hFc hM hS⟩ rfl rfl hl.1 rfl (lv_room (Nat.le_of_ble_eq_true rfl)) dL_law_455 ⟨Nat.le_of_ble_eq_true rfl, Nat.le_of_ble_eq_true rfl⟩) hS (fun q _ h => hFc q h) hFc (fun r3 u t H1 locs ht hvm hw hB hz1 hk1 hS => ?_)
  obtain ⟨hP, hD, hK⟩ := kJ (wr := [(ou, .inl (co, 1, .inr (.inl (vp_updL of_ 0 0))))]) (w1 := [(mo, .inr (19, [.int 0, .int 0, .int 0, .int 0, .int 0, .int 0, .int 0, .ref ti, .ref si, .ref lo, .ref lh, .ref lk, .ref sp, .ref st, .ref pa, .ref br, .ref sg, .int 0, .int 0, .int 0, .int 0, .int 0, .int 0, .long 0, .long 0, .long 0, .long 0, .int 0]))]) (t1 := []) hP hD hK [1] [0] rfl rfl (by decide) (by decide) hk1 hFc ht hvm hB
  generalize H1 = H at hP hS ⊢
  have hP : va_P (dC, dI) vwCl [(ou, .inl (co, 1, .inr (.inl (vp_updL of_ 0 0)))), (mo, .inr (19, [.int 0, .int 0, .int 0, .int 0, .int 0, .int 0, .int 0, .ref ti, .ref si, .ref lo, .ref lh, .ref lk, .ref sp, .ref st, .ref pa, .ref br, .ref sg, .int 0, .int 0, .int 0, .int 0, .int 0, .int 0, .long 0, .long 0, .long 0, .long 0, .int 0]))] H := hP
  have hD : va_D A [(ou, .inl (co, 1, .inr (.inl (vp_updL of_ 0 0)))), (mo, .inr (19, [.int 0, .int 0, .int 0, .int 0, .int 0, .int 0, .int 0, .ref ti, .ref si, .ref lo, .ref lh, .ref lk, .ref sp, .ref st, .ref pa, .ref br, .ref sg, .int 0, .int 0, .int 0, .int 0, .int 0, .int 0, .long 0, .long 0, .long 0, .long 0, .int 0]))] := hD
  have hK : va_K (dC, dI) vwCl [(cS, .object RX8), (co, .long)] s := hK
  obtain rfl : 0 = r3 := hw
  refine lv_iload hx hb dL_law_458 (lv_at hl 1 rfl) ?_
  refine lv_icmp_eq (tgt := 465) hx hb dL_law_460 (by decide) (fun _ => ?_) (fun c_ => absurd (by decide +kernel) c_)
  refine lv_iload hx hb dL_law_465 (lv_at hl 1 rfl) ?_
  refine lv_if_ne (tgt := 482) hx hb dL_law_467 (by decide) (fun c_ => absurd (by decide +kernel) c_) (fun _ => ?_)
  refine lv_aload_n hx hb dL_law_470 rfl (lv_at hl 5 rfl) ?_
  refine lv_iconst (v := 0) hx hb dL_law_471 (by decide) ?_
  refine va_lald hx hb hK hP 0 1 rfl rfl (pk_in 0 1 (by decide) rfl) dL_law_472 ?_
  refine kc_v (y := .long 0) rfl ?_
  refine lv_iload hx hb dL_law_473 (lv_at hl 0 rfl) ?_
  refine lv_i2l (v := 0) hx hb dL_law_475 (by decide +kernel) ?_
  refine W.lcmp hx hb dL_law_476 ?_
  refine kc_i (y := 0) (by decide +kernel) ?_
  refine lv_if_eq (tgt := 482) hx hb dL_law_477 (by decide) (fun _ => ?_) (fun c_ => absurd (by decide +kernel) c_)
  refine lv_goto (tgt := 1684) hx hb dL_law_482 (by decide) ?_
  exact la_tail (dC := dC) (dI := dI) hst C0 hM hA hAl H locs hS ls (lv_sub hl [2, 7] rfl) (by omega) (by omega)
set_option maxHeartbeats 8000000 in
set_option maxRecDepth 100000 in
theorem la_order_s8 {p : Program} {l : Launch} {e : Env} {s : State} {m : MethodId} {below : List Frame} {meth : Method} {c : Code} {dC : Nat → ClassId} {dI : Nat → Nat → Nat} {z zK zV : Nat → Nat} {b : Nat} {xs : Nat → Int32} {A : Nat → Prop} (hst : l.stackTraces = false) (C0 : lw_At p s m meth c b 4 xs) (hM : am z zK zV A s s.heap) (hA : ∀ q : Nat, s.heap.size ≤ q → A q) (hAl : ∀ q : Nat, A q → s.heap.size ≤ q) (sh : Nat) (rg : Nat) (mf : Nat) (mm : Nat) (mz : Nat) (ma : Nat) (sa : Nat) (s0 : Nat) (s1 : Nat) (s2 : Nat) (s3 : Nat) (s4 : Nat) (s5 : Nat) (s6 : Nat) (s7 : Nat) (s8 : Nat) (dk : Nat) (w0 : Nat) (w1 : Nat) (ol : Nat) (hd : Nat) (lg : Nat) (pl : Nat) (pr : Nat) (cS : ClassId) (x : Nat) (tl : Nat) (tw : Nat) (p2 : Int32) (mo : Nat) (ti : Nat) (si : Nat) (lo : Nat) (lh : Nat) (lk : Nat) (sp : Nat) (st : Nat) (pa : Nat) (br : Nat) (sg : Nat) (ou : Nat) (co : ClassId) (of_ : Nat → Int64) (od_ : Nat) (rw : Int32) (hg0 : (0 : Int32) ≤ p2 ∧ p2 ≤ 2) (hs1 : xs 1 = rw) (hs2 : xs 2 = 8) (hs3 : xs 3 = p2) (hch : (rw.toUInt32 % 65536).toInt32 = 115) (H : Heap) (locs : List Loc) (hK : va_K (dC, dI) vwCl [(cS, .object RX8), (co, .long)] s) (hP : va_P (dC, dI) vwCl [(x, .inr (15, [.ref sh, .ref tl, .ref tw, .int 0])), (tl, .inr (3, [.int 0, .ref (z 0), .int 0])), (sh, .inr (13, [.ref rg, .ref dk, .ref hd, .ref lg, .ref pl, .ref pr, .int 0, .int 0, .int 0, .int 0, .int 0, .int 0, .int 0, .int 0, .int 0, .int 0, .int 0])), (rg, .inr (11, [.ref mf, .ref mm, .ref mz, .ref ma, .ref sa, .int 0])), (sa, .inl (cS, 9, .inr (.inr (.inr (.inr (va_up (va_up (va_up (va_up (va_up (va_up (va_up (va_up (va_up (fun _ => none) 0 (some s0)) 1 (some s1)) 2 (some s2)) 3 (some s3)) 4 (some s4)) 5 (some s5)) 6 (some s6)) 7 (some s7)) 8 (some s8))))))), (s8, .inr (12, [.int 6, .int 4, .ref mz, .int 0, .int 0, .int 900, .int 0, .int 0])), (dk, .inr (4, [.ref w0, .ref w1, .ref ol, .int 0, .int 0, .int 0, .int 0])), (ol, .inr (3, [.int 0, .ref (z 0), .int 0])), (mo, .inr (19, [.int 0, .int 0, .int 0, .int 0, .int 0, .int 0, .int 0, .ref ti, .ref si, .ref lo, .ref lh, .ref lk, .ref sp, .ref st, .ref pa, .ref br, .ref sg, .int 0, .int 0, .int 0, .int 0, .int 0, .int 0, .long 0, .long 0, .long 0, .long 0, .int 0])), (lo, .inr (3, [.int 0, .ref (z 0), .int 0])), (ou, .inl (co, 1, .inr (.inl of_)))] H) (hD : va_D A [(x, .inr (15, [.ref sh, .ref tl, .ref tw, .int 0])), (tl, .inr (3, [.int 0, .ref (z 0), .int 0])), (sh, .inr (13, [.ref rg, .ref dk, .ref hd, .ref lg, .ref pl, .ref pr, .int 0, .int 0, .int 0, .int 0, .int 0, .int 0, .int 0, .int 0, .int 0, .int 0, .int 0])), (rg, .inr (11, [.ref mf, .ref mm, .ref mz, .ref ma, .ref sa, .int 0])), (sa, .inl (cS, 9, .inr (.inr (.inr (.inr (va_up (va_up (va_up (va_up (va_up (va_up (va_up (va_up (va_up (fun _ => none) 0 (some s0)) 1 (some s1)) 2 (some s2)) 3 (some s3)) 4 (some s4)) 5 (some s5)) 6 (some s6)) 7 (some s7)) 8 (some s8))))))), (s8, .inr (12, [.int 6, .int 4, .ref mz, .int 0, .int 0, .int 900, .int 0, .int 0])), (dk, .inr (4, [.ref w0, .ref w1, .ref ol, .int 0, .int 0, .int 0, .int 0])), (ol, .inr (3, [.int 0, .ref (z 0), .int 0])), (mo, .inr (19, [.int 0, .int 0, .int 0, .int 0, .int 0, .int 0, .int 0, .ref ti, .ref si, .ref lo, .ref lh, .ref lk, .ref sp, .ref st, .ref pa, .ref br, .ref sg, .int 0, .int 0, .int 0, .int 0, .int 0, .int 0, .long 0, .long 0, .long 0, .long 0, .int 0])), (lo, .inr (3, [.int 0, .ref (z 0), .int 0])), (ou, .inl (co, 1, .inr (.inl of_)))]) (hS : va_S A s.heap H locs) (ls : Array Slot) (hl : lv_has ls 10 [(0, .ref b), (1, .ref x), (2, .ref mo), (3, .ref ou), (4, .ref od_), (5, .int 0)]) : W p l e room_1 s m #[Value.ref b] below meth c H locs 100 1400 (lw_Z below #[Value.ref b] s) (F0 m 403 ls []) := by
  obtain ⟨hx, hb, hr, hml, hown, hts, hX, hbl, hlocks, hgv⟩ := id C0
  have hbA : ¬ A b := fun h => absurd (hAl b h) (Nat.not_le.mpr hbl)
  refine lv_aload_n hx hb dL_law_403 rfl (lv_at hl 1 rfl) ?_
  refine lv_aload_n hx hb dL_law_404 rfl (lv_at hl 0 rfl) ?_
  refine lv_iload hx hb dL_law_405 (lv_at hl 5 rfl) ?_
  refine lv_iconst (v := 1) hx hb dL_law_407 (by decide) ?_
  refine lv_iadd hx hb dL_law_408 ?_
  refine kc_i (y := 1) (by decide +kernel) ?_
  refine va_sld hx hb hX hbl hbA hS (pk_in 1 4 (by decide) rfl) dL_law_409 ?_
  refine kc_i (y := rw) (hs1 : xs 1 = rw) ?_
  refine lv_i2c (v := 115) hx hb dL_law_410 hch ?_
  refine lv_aload_n hx hb dL_law_411 rfl (lv_at hl 0 rfl) ?_
  refine lv_iload hx hb dL_law_412 (lv_at hl 5 rfl) ?_
  refine lv_iconst (v := 2) hx hb dL_law_414 (by decide) ?_
  refine lv_iadd hx hb dL_law_415 ?_
  refine kc_i (y := 2) (by decide +kernel) ?_
  refine va_sld hx hb hX hbl hbA hS (pk_in 2 4 (by decide) rfl) dL_law_416 ?_
  refine kc_i (y := 8) (hs2 : xs 2 = 8) ?_
  refine lv_aload_n hx hb dL_law_417 rfl (lv_at hl 0 rfl) ?_
  refine lv_iload hx hb dL_law_418 (lv_at hl 5 rfl) ?_
  refine lv_iconst (v := 3) hx hb dL_law_420 (by decide) ?_
  refine lv_iadd hx hb dL_law_421 ?_
  refine kc_i (y := 3) (by decide +kernel) ?_
  refine va_sld hx hb hX hbl hbA hS (pk_in 3 4 (by decide) rfl) dL_law_422 ?_
  refine kc_i (y := p2) (hs3 : xs 3 = p2) ?_
  refine lv_aload_n hx hb dL_law_423 rfl (lv_at hl 3 rfl) ?_
  have hPc := hP.sub (ws' := [(x, .inr (15, [.ref sh, .ref tl, .ref tw, .int 0])), (tl, .inr (3, [.int 0, .ref (z 0), .int 0])), (sh, .inr (13, [.ref rg, .ref dk, .ref hd, .ref lg, .ref pl, .ref pr, .int 0, .int 0, .int 0, .int 0, .int 0, .int 0, .int 0, .int 0, .int 0, .int 0, .int 0])), (dk, .inr (4, [.ref w0, .ref w1, .ref ol, .int 0, .int 0, .int 0, .int 0])), (ol, .inr (3, [.int 0, .ref (z 0), .int 0])), (rg, .inr (11, [.ref mf, .ref mm, .ref mz, .ref ma, .ref sa, .int 0])), (sa, .inl (cS, 9, .inr (.inr (.inr (.inr (va_up (va_up (va_up (va_up (va_up (va_up (va_up (va_up (va_up (fun _ => none) 0 (some s0)) 1 (some s1)) 2 (some s2)) 3 (some s3)) 4 (some s4)) 5 (some s5)) 6 (some s6)) 7 (some s7)) 8 (some s8))))))), (s8, .inr (12, [.int 6, .int 4, .ref mz, .int 0, .int 0, .int 900, .int 0, .int 0])), (ou, .inl (co, 1, .inr (.inl of_)))]) [0, 1, 2, 6, 7, 3, 4, 5, 10] rfl
  have hDc := hD.sub (ws' := [(x, .inr (15, [.ref sh, .ref tl, .ref tw, .int 0])), (tl, .inr (3, [.int 0, .ref (z 0), .int 0])), (sh, .inr (13, [.ref rg, .ref dk, .ref hd, .ref lg, .ref pl, .ref pr, .int 0, .int 0, .int 0, .int 0, .int 0, .int 0, .int 0, .int 0, .int 0, .int 0, .int 0])), (dk, .inr (4, [.ref w0, .ref w1, .ref ol, .int 0, .int 0, .int 0, .int 0])), (ol, .inr (3, [.int 0, .ref (z 0), .int 0])), (rg, .inr (11, [.ref mf, .ref mm, .ref mz, .ref ma, .ref sa, .int 0])), (sa, .inl (cS, 9, .inr (.inr (.inr (.inr (va_up (va_up (va_up (va_up (va_up (va_up (va_up (va_up (va_up (fun _ => none) 0 (some s0)) 1 (some s1)) 2 (some s2)) 3 (some s3)) 4 (some s4)) 5 (some s5)) 6 (some s6)) 7 (some s7)) 8 (some s8))))))), (s8, .inr (12, [.int 6, .int 4, .ref mz, .int 0, .int 0, .int 900, .int 0, .int 0])), (ou, .inl (co, 1, .inr (.inl of_)))]) [0, 1, 2, 6, 7, 3, 4, 5, 10] (by decide) rfl
  have hKc := hK.sub (tys' := [(cS, .object RX8), (co, .long)]) [0, 1] rfl
  have hFc := va_free (wc := [(x, .inr (15, [.ref sh, .ref tl, .ref tw, .int 0])), (tl, .inr (3, [.int 0, .ref (z 0), .int 0])), (sh, .inr (13, [.ref rg, .ref dk, .ref hd, .ref lg, .ref pl, .ref pr, .int 0, .int 0, .int 0, .int 0, .int 0, .int 0, .int 0, .int 0, .int 0, .int 0, .int 0])), (dk, .inr (4, [.ref w0, .ref w1, .ref ol, .int 0, .int 0, .int 0, .int 0])), (ol, .inr (3, [.int 0, .ref (z 0), .int 0])), (rg, .inr (11, [.ref mf, .ref mm, .ref mz, .ref ma, .ref sa, .int 0])), (sa, .inl (cS, 9, .inr (.inr (.inr (.inr (va_up (va_up (va_up (va_up (va_up (va_up (va_up (va_up (va_up (fun _ => none) 0 (some s0)) 1 (some s1)) 2 (some s2)) 3 (some s3)) 4 (some s4)) 5 (some s5)) 6 (some s6)) 7 (some s7)) 8 (some s8))))))), (s8, .inr (12, [.int 6, .int 4, .ref mz, .int 0, .int 0, .int 900, .int 0, .int 0])), (ou, .inl (co, 1, .inr (.inl of_)))]) hD hS hA [0, 1, 2, 6, 7, 3, 4, 5, 10] rfl
  refine va_calli (vx_runSW (As := [.ref x, .int 115, .int 8, .int p2, .ref ou]) (rest := []) ⟨hx, hb, hml, hown, hts⟩ (k_l_order_s8 l dC dI z zK zV sh rg mf mm mz ma sa s0 s1 s2 s3 s4 s5 s6 s7 s8 dk w0 w1 ol hd lg pl pr cS x tl tw p2 ou co of_ H.size (hg0)) (vx_cwSW 5 hts hL_L_order_110 rfl rfl rfl (by decide +kernel) ⟨Nat.le_of_ble_eq_true rfl, Nat.le_of_ble_eq_true rfl⟩) ⟨kP_blind, kP_go hPc hKc hDc hFc hM hS⟩ rfl rfl hl.1 rfl (lv_room (Nat.le_of_ble_eq_true rfl)) dL_law_424 ⟨Nat.le_of_ble_eq_true rfl, Nat.le_of_ble_eq_true rfl⟩) hS (fun q _ h => hFc q h) hFc (fun r1 u t H1 locs ht hvm hw hB hz1 hk1 hS => ?_)
  obtain ⟨hP, hD, hK⟩ := kJ (wr := [(mo, .inr (19, [.int 0, .int 0, .int 0, .int 0, .int 0, .int 0, .int 0, .ref ti, .ref si, .ref lo, .ref lh, .ref lk, .ref sp, .ref st, .ref pa, .ref br, .ref sg, .int 0, .int 0, .int 0, .int 0, .int 0, .int 0, .long 0, .long 0, .long 0, .long 0, .int 0])), (lo, .inr (3, [.int 0, .ref (z 0), .int 0]))]) (w1 := [(ou, .inl (co, 1, .inr (.inl (vp_updL of_ 0 0))))]) (t1 := []) hP hD hK [0, 1, 2, 6, 7, 3, 4, 5, 10] [8, 9] rfl rfl (by decide) (by decide) hk1 hFc ht hvm hB
  generalize H1 = H at hP hS ⊢
  have hP : va_P (dC, dI) vwCl [(mo, .inr (19, [.int 0, .int 0, .int 0, .int 0, .int 0, .int 0, .int 0, .ref ti, .ref si, .ref lo, .ref lh, .ref lk, .ref sp, .ref st, .ref pa, .ref br, .ref sg, .int 0, .int 0, .int 0, .int 0, .int 0, .int 0, .long 0, .long 0, .long 0, .long 0, .int 0])), (lo, .inr (3, [.int 0, .ref (z 0), .int 0])), (ou, .inl (co, 1, .inr (.inl (vp_updL of_ 0 0))))] H := hP
  have hD : va_D A [(mo, .inr (19, [.int 0, .int 0, .int 0, .int 0, .int 0, .int 0, .int 0, .ref ti, .ref si, .ref lo, .ref lh, .ref lk, .ref sp, .ref st, .ref pa, .ref br, .ref sg, .int 0, .int 0, .int 0, .int 0, .int 0, .int 0, .long 0, .long 0, .long 0, .long 0, .int 0])), (lo, .inr (3, [.int 0, .ref (z 0), .int 0])), (ou, .inl (co, 1, .inr (.inl (vp_updL of_ 0 0))))] := hD
  have hK : va_K (dC, dI) vwCl [(cS, .object RX8), (co, .long)] s := hK
  obtain rfl : 0 = r1 := hw
  refine lv_istore (lv' := [(6, .int 0), (0, .ref b), (1, .ref x), (2, .ref mo), (3, .ref ou), (4, .ref od_), (5, .int 0)]) hx hb dL_law_427 hl (by decide) rfl (fun ls hl => ?_)
  refine lv_aload_n hx hb dL_law_429 rfl (lv_at hl 3 rfl) ?_
  refine lv_aload_n hx hb dL_law_430 rfl (lv_at hl 1 rfl) ?_
  refine lv_iload hx hb dL_law_431 (lv_at hl 6 rfl) ?_
  refine lv_iconst (v := 1) hx hb dL_law_433 (by decide) ?_
  refine lv_iadd hx hb dL_law_434 ?_
  refine kc_i (y := 1) (by decide +kernel) ?_
  refine va_sld hx hb hX hbl hbA hS (pk_in 1 4 (by decide) rfl) dL_law_435 ?_
  refine kc_i (y := rw) (hs1 : xs 1 = rw) ?_
  refine lv_i2c (v := 115) hx hb dL_law_436 hch ?_
  refine lv_aload_n hx hb dL_law_437 rfl (lv_at hl 1 rfl) ?_
  refine lv_iload hx hb dL_law_438 (lv_at hl 6 rfl) ?_
  refine lv_iconst (v := 2) hx hb dL_law_440 (by decide) ?_
  refine lv_iadd hx hb dL_law_441 ?_
  refine kc_i (y := 2) (by decide +kernel) ?_
  refine va_sld hx hb hX hbl hbA hS (pk_in 2 4 (by decide) rfl) dL_law_442 ?_
  refine kc_i (y := 8) (hs2 : xs 2 = 8) ?_
  refine lv_aload_n hx hb dL_law_443 rfl (lv_at hl 1 rfl) ?_
  refine lv_iload hx hb dL_law_444 (lv_at hl 6 rfl) ?_
  refine lv_iconst (v := 3) hx hb dL_law_446 (by decide) ?_
  refine lv_iadd hx hb dL_law_447 ?_
  refine kc_i (y := 3) (by decide +kernel) ?_
  refine va_sld hx hb hX hbl hbA hS (pk_in 3 4 (by decide) rfl) dL_law_448 ?_
  refine kc_i (y := p2) (hs3 : xs 3 = p2) ?_
  have hPc := hP.sub (ws' := [(mo, .inr (19, [.int 0, .int 0, .int 0, .int 0, .int 0, .int 0, .int 0, .ref ti, .ref si, .ref lo, .ref lh, .ref lk, .ref sp, .ref st, .ref pa, .ref br, .ref sg, .int 0, .int 0, .int 0, .int 0, .int 0, .int 0, .long 0, .long 0, .long 0, .long 0, .int 0])), (lo, .inr (3, [.int 0, .ref (z 0), .int 0]))]) [0, 1] rfl
  have hDc := hD.sub (ws' := [(mo, .inr (19, [.int 0, .int 0, .int 0, .int 0, .int 0, .int 0, .int 0, .ref ti, .ref si, .ref lo, .ref lh, .ref lk, .ref sp, .ref st, .ref pa, .ref br, .ref sg, .int 0, .int 0, .int 0, .int 0, .int 0, .int 0, .long 0, .long 0, .long 0, .long 0, .int 0])), (lo, .inr (3, [.int 0, .ref (z 0), .int 0]))]) [0, 1] (by decide) rfl
  have hKc := hK.sub (tys' := []) [] rfl
  have hFc := va_free (wc := [(mo, .inr (19, [.int 0, .int 0, .int 0, .int 0, .int 0, .int 0, .int 0, .ref ti, .ref si, .ref lo, .ref lh, .ref lk, .ref sp, .ref st, .ref pa, .ref br, .ref sg, .int 0, .int 0, .int 0, .int 0, .int 0, .int 0, .long 0, .long 0, .long 0, .long 0, .int 0])), (lo, .inr (3, [.int 0, .ref (z 0), .int 0]))]) hD hS hA [0, 1] rfl
  refine va_calli (va_runV (As := [.int 115, .int 8, .int p2]) (rest := []) ⟨hx, hb, hml, hown, hts⟩ (k_m_order_s8 l dC dI z zK zV p2 mo ti si lo lh lk sp st pa br sg 0 H.size (hg0)) (cwV 3 hts hL_X15_order_113 rfl rfl rfl (by decide +kernel) ⟨Nat.le_of_ble_eq_true rfl, Nat.le_of_ble_eq_true rfl⟩) ⟨kP_blind, va_recv hKc hPc (ci := 19) (q0 := 0) rfl rfl, kP_go hPc hKc hDc hFc hM hS⟩ rfl rfl hl.1 rfl (lv_room (Nat.le_of_ble_eq_true rfl)) dL_law_449 ⟨Nat.le_of_ble_eq_true rfl, Nat.le_of_ble_eq_true rfl⟩) hS (fun q _ h => hFc q h) hFc (fun r2 u t H1 locs ht hvm hw hB hz1 hk1 hS => ?_)
  obtain ⟨hP, hD, hK⟩ := kJ (wr := [(ou, .inl (co, 1, .inr (.inl (vp_updL of_ 0 0))))]) (w1 := [(mo, .inr (19, [.int 0, .int 0, .int 0, .int 0, .int 0, .int 0, .int 0, .ref ti, .ref si, .ref lo, .ref lh, .ref lk, .ref sp, .ref st, .ref pa, .ref br, .ref sg, .int 0, .int 0, .int 0, .int 0, .int 0, .int 0, .long 0, .long 0, .long 0, .long 0, .int 0]))]) (t1 := []) hP hD hK [0, 1] [2] rfl rfl (by decide) (by decide) hk1 hFc ht hvm hB
  generalize H1 = H at hP hS ⊢
  have hP : va_P (dC, dI) vwCl [(ou, .inl (co, 1, .inr (.inl (vp_updL of_ 0 0)))), (mo, .inr (19, [.int 0, .int 0, .int 0, .int 0, .int 0, .int 0, .int 0, .ref ti, .ref si, .ref lo, .ref lh, .ref lk, .ref sp, .ref st, .ref pa, .ref br, .ref sg, .int 0, .int 0, .int 0, .int 0, .int 0, .int 0, .long 0, .long 0, .long 0, .long 0, .int 0]))] H := hP
  have hD : va_D A [(ou, .inl (co, 1, .inr (.inl (vp_updL of_ 0 0)))), (mo, .inr (19, [.int 0, .int 0, .int 0, .int 0, .int 0, .int 0, .int 0, .ref ti, .ref si, .ref lo, .ref lh, .ref lk, .ref sp, .ref st, .ref pa, .ref br, .ref sg, .int 0, .int 0, .int 0, .int 0, .int 0, .int 0, .long 0, .long 0, .long 0, .long 0, .int 0]))] := hD
  have hK : va_K (dC, dI) vwCl [(cS, .object RX8), (co, .long)] s := hK
  obtain rfl : 0 = r2 := hw
  refine lv_istore (lv' := [(7, .int 0), (6, .int 0), (0, .ref b), (1, .ref x), (2, .ref mo), (3, .ref ou), (4, .ref od_), (5, .int 0)]) hx hb dL_law_452 hl (by decide) rfl (fun ls hl => ?_)
  refine lv_aload_n hx hb dL_law_454 rfl (lv_at hl 4 rfl) ?_
  have hPc := hP.sub (ws' := [(mo, .inr (19, [.int 0, .int 0, .int 0, .int 0, .int 0, .int 0, .int 0, .ref ti, .ref si, .ref lo, .ref lh, .ref lk, .ref sp, .ref st, .ref pa, .ref br, .ref sg, .int 0, .int 0, .int 0, .int 0, .int 0, .int 0, .long 0, .long 0, .long 0, .long 0, .int 0]))]) [1] rfl
  have hDc := hD.sub (ws' := [(mo, .inr (19, [.int 0, .int 0, .int 0, .int 0, .int 0, .int 0, .int 0, .ref ti, .ref si, .ref lo, .ref lh, .ref lk, .ref sp, .ref st, .ref pa, .ref br, .ref sg, .int 0, .int 0, .int 0, .int 0, .int 0, .int 0, .long 0, .long 0, .long 0, .long 0, .int 0]))]) [1] (by decide) rfl
  have hKc := hK.sub (tys' := []) [] rfl
  have hFc := va_free (wc := [(mo, .inr (19, [.int 0, .int 0, .int 0, .int 0, .int 0, .int 0, .int 0, .ref ti, .ref si, .ref lo, .ref lh, .ref lk, .ref sp, .ref st, .ref pa, .ref br, .ref sg, .int 0, .int 0, .int 0, .int 0, .int 0, .int 0, .long 0, .long 0, .long 0, .long 0, .int 0]))]) hD hS hA [1] rfl
  refine va_calli (va_runV (As := []) (rest := []) ⟨hx, hb, hml, hown, hts⟩ (k_m_thrown l dC dI z zK zV mo ti si lo lh lk sp st pa br sg 0 0 0 0 0 0 0 0 0 0 0 0 0 0 0 0 0 0 H.size) (cwV 0 hts hL_X15_thrown_100 rfl rfl rfl (by decide +kernel) ⟨Nat.le_of_ble_eq_true rfl, Nat.le_of_ble_eq_true rfl⟩) ⟨kP_blind, va_recv hKc hPc (ci := 19) (q0 := 0) rfl rfl, kP_go hPc hKc hDc hFc hM hS⟩ rfl rfl hl.1 rfl (lv_room (Nat.le_of_ble_eq_true rfl)) dL_law_455 ⟨Nat.le_of_ble_eq_true rfl, Nat.le_of_ble_eq_true rfl⟩) hS (fun q _ h => hFc q h) hFc (fun r3 u t H1 locs ht hvm hw hB hz1 hk1 hS => ?_)
  obtain ⟨hP, hD, hK⟩ := kJ (wr := [(ou, .inl (co, 1, .inr (.inl (vp_updL of_ 0 0))))]) (w1 := [(mo, .inr (19, [.int 0, .int 0, .int 0, .int 0, .int 0, .int 0, .int 0, .ref ti, .ref si, .ref lo, .ref lh, .ref lk, .ref sp, .ref st, .ref pa, .ref br, .ref sg, .int 0, .int 0, .int 0, .int 0, .int 0, .int 0, .long 0, .long 0, .long 0, .long 0, .int 0]))]) (t1 := []) hP hD hK [1] [0] rfl rfl (by decide) (by decide) hk1 hFc ht hvm hB
  generalize H1 = H at hP hS ⊢
  have hP : va_P (dC, dI) vwCl [(ou, .inl (co, 1, .inr (.inl (vp_updL of_ 0 0)))), (mo, .inr (19, [.int 0, .int 0, .int 0, .int 0, .int 0, .int 0, .int 0, .ref ti, .ref si, .ref lo, .ref lh, .ref lk, .ref sp, .ref st, .ref pa, .ref br, .ref sg, .int 0, .int 0, .int 0, .int 0, .int 0, .int 0, .long 0, .long 0, .long 0, .long 0, .int 0]))] H := hP
  have hD : va_D A [(ou, .inl (co, 1, .inr (.inl (vp_updL of_ 0 0)))), (mo, .inr (19, [.int 0, .int 0, .int 0, .int 0, .int 0, .int 0, .int 0, .ref ti, .ref si, .ref lo, .ref lh, .ref lk, .ref sp, .ref st, .ref pa, .ref br, .ref sg, .int 0, .int 0, .int 0, .int 0, .int 0, .int 0, .long 0, .long 0, .long 0, .long 0, .int 0]))] := hD
  have hK : va_K (dC, dI) vwCl [(cS, .object RX8), (co, .long)] s := hK
  obtain rfl : 0 = r3 := hw
  refine lv_iload hx hb dL_law_458 (lv_at hl 1 rfl) ?_
  refine lv_icmp_eq (tgt := 465) hx hb dL_law_460 (by decide) (fun _ => ?_) (fun c_ => absurd (by decide +kernel) c_)
  refine lv_iload hx hb dL_law_465 (lv_at hl 1 rfl) ?_
  refine lv_if_ne (tgt := 482) hx hb dL_law_467 (by decide) (fun c_ => absurd (by decide +kernel) c_) (fun _ => ?_)
  refine lv_aload_n hx hb dL_law_470 rfl (lv_at hl 5 rfl) ?_
  refine lv_iconst (v := 0) hx hb dL_law_471 (by decide) ?_
  refine va_lald hx hb hK hP 0 1 rfl rfl (pk_in 0 1 (by decide) rfl) dL_law_472 ?_
  refine kc_v (y := .long 0) rfl ?_
  refine lv_iload hx hb dL_law_473 (lv_at hl 0 rfl) ?_
  refine lv_i2l (v := 0) hx hb dL_law_475 (by decide +kernel) ?_
  refine W.lcmp hx hb dL_law_476 ?_
  refine kc_i (y := 0) (by decide +kernel) ?_
  refine lv_if_eq (tgt := 482) hx hb dL_law_477 (by decide) (fun _ => ?_) (fun c_ => absurd (by decide +kernel) c_)
  refine lv_goto (tgt := 1684) hx hb dL_law_482 (by decide) ?_
  exact la_tail (dC := dC) (dI := dI) hst C0 hM hA hAl H locs hS ls (lv_sub hl [2, 7] rfl) (by omega) (by omega)
set_option maxHeartbeats 8000000 in
set_option maxRecDepth 100000 in
theorem la_order_m {p : Program} {l : Launch} {e : Env} {s : State} {m : MethodId} {below : List Frame} {meth : Method} {c : Code} {dC : Nat → ClassId} {dI : Nat → Nat → Nat} {z zK zV : Nat → Nat} {b : Nat} {xs : Nat → Int32} {A : Nat → Prop} (hst : l.stackTraces = false) (C0 : lw_At p s m meth c b 4 xs) (hM : am z zK zV A s s.heap) (hA : ∀ q : Nat, s.heap.size ≤ q → A q) (hAl : ∀ q : Nat, A q → s.heap.size ≤ q) (sh : Nat) (rg : Nat) (mf : Nat) (mm : Nat) (mz : Nat) (ma : Nat) (sa : Nat) (dk : Nat) (w0 : Nat) (w1 : Nat) (ol : Nat) (hd : Nat) (lg : Nat) (pl : Nat) (pr : Nat) (x : Nat) (tl : Nat) (tw : Nat) (p1 : Int32) (mo : Nat) (ti : Nat) (si : Nat) (lo : Nat) (lh : Nat) (lk : Nat) (sp : Nat) (st : Nat) (pa : Nat) (br : Nat) (sg : Nat) (ou : Nat) (co : ClassId) (of_ : Nat → Int64) (od_ : Nat) (rw : Int32) (hg0 : (0 : Int32) ≤ p1 ∧ p1 ≤ 8) (hs1 : xs 1 = rw) (hs2 : xs 2 = p1) (hs3 : xs 3 = 0) (hch : (rw.toUInt32 % 65536).toInt32 = 109) (H : Heap) (locs : List Loc) (hK : va_K (dC, dI) vwCl [(co, .long)] s) (hP : va_P (dC, dI) vwCl [(x, .inr (15, [.ref sh, .ref tl, .ref tw, .int 0])), (tl, .inr (3, [.int 0, .ref (z 0), .int 0])), (sh, .inr (13, [.ref rg, .ref dk, .ref hd, .ref lg, .ref pl, .ref pr, .int 0, .int 0, .int 0, .int 0, .int 0, .int 0, .int 0, .int 0, .int 0, .int 0, .int 0])), (rg, .inr (11, [.ref mf, .ref mm, .ref mz, .ref ma, .ref sa, .int 0])), (dk, .inr (4, [.ref w0, .ref w1, .ref ol, .int 0, .int 0, .int 0, .int 0])), (ol, .inr (3, [.int 0, .ref (z 0), .int 0])), (mo, .inr (19, [.int 0, .int 0, .int 0, .int 0, .int 0, .int 0, .int 0, .ref ti, .ref si, .ref lo, .ref lh, .ref lk, .ref sp, .ref st, .ref pa, .ref br, .ref sg, .int 0, .int 0, .int 0, .int 0, .int 0, .int 0, .long 0, .long 0, .long 0, .long 0, .int 0])), (lo, .inr (3, [.int 0, .ref (z 0), .int 0])), (ou, .inl (co, 1, .inr (.inl of_)))] H) (hD : va_D A [(x, .inr (15, [.ref sh, .ref tl, .ref tw, .int 0])), (tl, .inr (3, [.int 0, .ref (z 0), .int 0])), (sh, .inr (13, [.ref rg, .ref dk, .ref hd, .ref lg, .ref pl, .ref pr, .int 0, .int 0, .int 0, .int 0, .int 0, .int 0, .int 0, .int 0, .int 0, .int 0, .int 0])), (rg, .inr (11, [.ref mf, .ref mm, .ref mz, .ref ma, .ref sa, .int 0])), (dk, .inr (4, [.ref w0, .ref w1, .ref ol, .int 0, .int 0, .int 0, .int 0])), (ol, .inr (3, [.int 0, .ref (z 0), .int 0])), (mo, .inr (19, [.int 0, .int 0, .int 0, .int 0, .int 0, .int 0, .int 0, .ref ti, .ref si, .ref lo, .ref lh, .ref lk, .ref sp, .ref st, .ref pa, .ref br, .ref sg, .int 0, .int 0, .int 0, .int 0, .int 0, .int 0, .long 0, .long 0, .long 0, .long 0, .int 0])), (lo, .inr (3, [.int 0, .ref (z 0), .int 0])), (ou, .inl (co, 1, .inr (.inl of_)))]) (hS : va_S A s.heap H locs) (ls : Array Slot) (hl : lv_has ls 10 [(0, .ref b), (1, .ref x), (2, .ref mo), (3, .ref ou), (4, .ref od_), (5, .int 0)]) : W p l e room_1 s m #[Value.ref b] below meth c H locs 100 1400 (lw_Z below #[Value.ref b] s) (F0 m 403 ls []) := by
  obtain ⟨hx, hb, hr, hml, hown, hts, hX, hbl, hlocks, hgv⟩ := id C0
  have hbA : ¬ A b := fun h => absurd (hAl b h) (Nat.not_le.mpr hbl)
  refine lv_aload_n hx hb dL_law_403 rfl (lv_at hl 1 rfl) ?_
  refine lv_aload_n hx hb dL_law_404 rfl (lv_at hl 0 rfl) ?_
  refine lv_iload hx hb dL_law_405 (lv_at hl 5 rfl) ?_
  refine lv_iconst (v := 1) hx hb dL_law_407 (by decide) ?_
  refine lv_iadd hx hb dL_law_408 ?_
  refine kc_i (y := 1) (by decide +kernel) ?_
  refine va_sld hx hb hX hbl hbA hS (pk_in 1 4 (by decide) rfl) dL_law_409 ?_
  refine kc_i (y := rw) (hs1 : xs 1 = rw) ?_
  refine lv_i2c (v := 109) hx hb dL_law_410 hch ?_
  refine lv_aload_n hx hb dL_law_411 rfl (lv_at hl 0 rfl) ?_
  refine lv_iload hx hb dL_law_412 (lv_at hl 5 rfl) ?_
  refine lv_iconst (v := 2) hx hb dL_law_414 (by decide) ?_
  refine lv_iadd hx hb dL_law_415 ?_
  refine kc_i (y := 2) (by decide +kernel) ?_
  refine va_sld hx hb hX hbl hbA hS (pk_in 2 4 (by decide) rfl) dL_law_416 ?_
  refine kc_i (y := p1) (hs2 : xs 2 = p1) ?_
  refine lv_aload_n hx hb dL_law_417 rfl (lv_at hl 0 rfl) ?_
  refine lv_iload hx hb dL_law_418 (lv_at hl 5 rfl) ?_
  refine lv_iconst (v := 3) hx hb dL_law_420 (by decide) ?_
  refine lv_iadd hx hb dL_law_421 ?_
  refine kc_i (y := 3) (by decide +kernel) ?_
  refine va_sld hx hb hX hbl hbA hS (pk_in 3 4 (by decide) rfl) dL_law_422 ?_
  refine kc_i (y := 0) (hs3 : xs 3 = 0) ?_
  refine lv_aload_n hx hb dL_law_423 rfl (lv_at hl 3 rfl) ?_
  have hPc := hP.sub (ws' := [(x, .inr (15, [.ref sh, .ref tl, .ref tw, .int 0])), (tl, .inr (3, [.int 0, .ref (z 0), .int 0])), (sh, .inr (13, [.ref rg, .ref dk, .ref hd, .ref lg, .ref pl, .ref pr, .int 0, .int 0, .int 0, .int 0, .int 0, .int 0, .int 0, .int 0, .int 0, .int 0, .int 0])), (dk, .inr (4, [.ref w0, .ref w1, .ref ol, .int 0, .int 0, .int 0, .int 0])), (ol, .inr (3, [.int 0, .ref (z 0), .int 0])), (rg, .inr (11, [.ref mf, .ref mm, .ref mz, .ref ma, .ref sa, .int 0])), (ou, .inl (co, 1, .inr (.inl of_)))]) [0, 1, 2, 4, 5, 3, 8] rfl
  have hDc := hD.sub (ws' := [(x, .inr (15, [.ref sh, .ref tl, .ref tw, .int 0])), (tl, .inr (3, [.int 0, .ref (z 0), .int 0])), (sh, .inr (13, [.ref rg, .ref dk, .ref hd, .ref lg, .ref pl, .ref pr, .int 0, .int 0, .int 0, .int 0, .int 0, .int 0, .int 0, .int 0, .int 0, .int 0, .int 0])), (dk, .inr (4, [.ref w0, .ref w1, .ref ol, .int 0, .int 0, .int 0, .int 0])), (ol, .inr (3, [.int 0, .ref (z 0), .int 0])), (rg, .inr (11, [.ref mf, .ref mm, .ref mz, .ref ma, .ref sa, .int 0])), (ou, .inl (co, 1, .inr (.inl of_)))]) [0, 1, 2, 4, 5, 3, 8] (by decide) rfl
  have hKc := hK.sub (tys' := [(co, .long)]) [0] rfl
  have hFc := va_free (wc := [(x, .inr (15, [.ref sh, .ref tl, .ref tw, .int 0])), (tl, .inr (3, [.int 0, .ref (z 0), .int 0])), (sh, .inr (13, [.ref rg, .ref dk, .ref hd, .ref lg, .ref pl, .ref pr, .int 0, .int 0, .int 0, .int 0, .int 0, .int 0, .int 0, .int 0, .int 0, .int 0, .int 0])), (dk, .inr (4, [.ref w0, .ref w1, .ref ol, .int 0, .int 0, .int 0, .int 0])), (ol, .inr (3, [.int 0, .ref (z 0), .int 0])), (rg, .inr (11, [.ref mf, .ref mm, .ref mz, .ref ma, .ref sa, .int 0])), (ou, .inl (co, 1, .inr (.inl of_)))]) hD hS hA [0, 1, 2, 4, 5, 3, 8] rfl
  refine va_calli (vx_runSW (As := [.ref x, .int 109, .int p1, .int 0, .ref ou]) (rest := []) ⟨hx, hb, hml, hown, hts⟩ (k_l_order_m l dC dI z zK zV sh rg mf mm mz ma sa dk w0 w1 ol hd lg pl pr x tl tw p1 ou co of_ H.size (hg0)) (vx_cwSW 5 hts hL_L_order_110 rfl rfl rfl (by decide +kernel) ⟨Nat.le_of_ble_eq_true rfl, Nat.le_of_ble_eq_true rfl⟩) ⟨kP_blind, kP_go hPc hKc hDc hFc hM hS⟩ rfl rfl hl.1 rfl (lv_room (Nat.le_of_ble_eq_true rfl)) dL_law_424 ⟨Nat.le_of_ble_eq_true rfl, Nat.le_of_ble_eq_true rfl⟩) hS (fun q _ h => hFc q h) hFc (fun r1 u t H1 locs ht hvm hw hB hz1 hk1 hS => ?_)
  obtain ⟨hP, hD, hK⟩ := kJ (wr := [(mo, .inr (19, [.int 0, .int 0, .int 0, .int 0, .int 0, .int 0, .int 0, .ref ti, .ref si, .ref lo, .ref lh, .ref lk, .ref sp, .ref st, .ref pa, .ref br, .ref sg, .int 0, .int 0, .int 0, .int 0, .int 0, .int 0, .long 0, .long 0, .long 0, .long 0, .int 0])), (lo, .inr (3, [.int 0, .ref (z 0), .int 0]))]) (w1 := [(ou, .inl (co, 1, .inr (.inl (vp_updL of_ 0 0))))]) (t1 := []) hP hD hK [0, 1, 2, 4, 5, 3, 8] [6, 7] rfl rfl (by decide) (by decide) hk1 hFc ht hvm hB
  generalize H1 = H at hP hS ⊢
  have hP : va_P (dC, dI) vwCl [(mo, .inr (19, [.int 0, .int 0, .int 0, .int 0, .int 0, .int 0, .int 0, .ref ti, .ref si, .ref lo, .ref lh, .ref lk, .ref sp, .ref st, .ref pa, .ref br, .ref sg, .int 0, .int 0, .int 0, .int 0, .int 0, .int 0, .long 0, .long 0, .long 0, .long 0, .int 0])), (lo, .inr (3, [.int 0, .ref (z 0), .int 0])), (ou, .inl (co, 1, .inr (.inl (vp_updL of_ 0 0))))] H := hP
  have hD : va_D A [(mo, .inr (19, [.int 0, .int 0, .int 0, .int 0, .int 0, .int 0, .int 0, .ref ti, .ref si, .ref lo, .ref lh, .ref lk, .ref sp, .ref st, .ref pa, .ref br, .ref sg, .int 0, .int 0, .int 0, .int 0, .int 0, .int 0, .long 0, .long 0, .long 0, .long 0, .int 0])), (lo, .inr (3, [.int 0, .ref (z 0), .int 0])), (ou, .inl (co, 1, .inr (.inl (vp_updL of_ 0 0))))] := hD
  have hK : va_K (dC, dI) vwCl [(co, .long)] s := hK
  obtain rfl : 0 = r1 := hw
  refine lv_istore (lv' := [(6, .int 0), (0, .ref b), (1, .ref x), (2, .ref mo), (3, .ref ou), (4, .ref od_), (5, .int 0)]) hx hb dL_law_427 hl (by decide) rfl (fun ls hl => ?_)
  refine lv_aload_n hx hb dL_law_429 rfl (lv_at hl 3 rfl) ?_
  refine lv_aload_n hx hb dL_law_430 rfl (lv_at hl 1 rfl) ?_
  refine lv_iload hx hb dL_law_431 (lv_at hl 6 rfl) ?_
  refine lv_iconst (v := 1) hx hb dL_law_433 (by decide) ?_
  refine lv_iadd hx hb dL_law_434 ?_
  refine kc_i (y := 1) (by decide +kernel) ?_
  refine va_sld hx hb hX hbl hbA hS (pk_in 1 4 (by decide) rfl) dL_law_435 ?_
  refine kc_i (y := rw) (hs1 : xs 1 = rw) ?_
  refine lv_i2c (v := 109) hx hb dL_law_436 hch ?_
  refine lv_aload_n hx hb dL_law_437 rfl (lv_at hl 1 rfl) ?_
  refine lv_iload hx hb dL_law_438 (lv_at hl 6 rfl) ?_
  refine lv_iconst (v := 2) hx hb dL_law_440 (by decide) ?_
  refine lv_iadd hx hb dL_law_441 ?_
  refine kc_i (y := 2) (by decide +kernel) ?_
  refine va_sld hx hb hX hbl hbA hS (pk_in 2 4 (by decide) rfl) dL_law_442 ?_
  refine kc_i (y := p1) (hs2 : xs 2 = p1) ?_
  refine lv_aload_n hx hb dL_law_443 rfl (lv_at hl 1 rfl) ?_
  refine lv_iload hx hb dL_law_444 (lv_at hl 6 rfl) ?_
  refine lv_iconst (v := 3) hx hb dL_law_446 (by decide) ?_
  refine lv_iadd hx hb dL_law_447 ?_
  refine kc_i (y := 3) (by decide +kernel) ?_
  refine va_sld hx hb hX hbl hbA hS (pk_in 3 4 (by decide) rfl) dL_law_448 ?_
  refine kc_i (y := 0) (hs3 : xs 3 = 0) ?_
  have hPc := hP.sub (ws' := [(mo, .inr (19, [.int 0, .int 0, .int 0, .int 0, .int 0, .int 0, .int 0, .ref ti, .ref si, .ref lo, .ref lh, .ref lk, .ref sp, .ref st, .ref pa, .ref br, .ref sg, .int 0, .int 0, .int 0, .int 0, .int 0, .int 0, .long 0, .long 0, .long 0, .long 0, .int 0])), (lo, .inr (3, [.int 0, .ref (z 0), .int 0]))]) [0, 1] rfl
  have hDc := hD.sub (ws' := [(mo, .inr (19, [.int 0, .int 0, .int 0, .int 0, .int 0, .int 0, .int 0, .ref ti, .ref si, .ref lo, .ref lh, .ref lk, .ref sp, .ref st, .ref pa, .ref br, .ref sg, .int 0, .int 0, .int 0, .int 0, .int 0, .int 0, .long 0, .long 0, .long 0, .long 0, .int 0])), (lo, .inr (3, [.int 0, .ref (z 0), .int 0]))]) [0, 1] (by decide) rfl
  have hKc := hK.sub (tys' := []) [] rfl
  have hFc := va_free (wc := [(mo, .inr (19, [.int 0, .int 0, .int 0, .int 0, .int 0, .int 0, .int 0, .ref ti, .ref si, .ref lo, .ref lh, .ref lk, .ref sp, .ref st, .ref pa, .ref br, .ref sg, .int 0, .int 0, .int 0, .int 0, .int 0, .int 0, .long 0, .long 0, .long 0, .long 0, .int 0])), (lo, .inr (3, [.int 0, .ref (z 0), .int 0]))]) hD hS hA [0, 1] rfl
  refine va_calli (va_runV (As := [.int 109, .int p1, .int 0]) (rest := []) ⟨hx, hb, hml, hown, hts⟩ (k_m_order_m l dC dI z zK zV p1 mo ti si lo lh lk sp st pa br sg 0 H.size (hg0)) (cwV 3 hts hL_X15_order_113 rfl rfl rfl (by decide +kernel) ⟨Nat.le_of_ble_eq_true rfl, Nat.le_of_ble_eq_true rfl⟩) ⟨kP_blind, va_recv hKc hPc (ci := 19) (q0 := 0) rfl rfl, kP_go hPc hKc hDc hFc hM hS⟩ rfl rfl hl.1 rfl (lv_room (Nat.le_of_ble_eq_true rfl)) dL_law_449 ⟨Nat.le_of_ble_eq_true rfl, Nat.le_of_ble_eq_true rfl⟩) hS (fun q _ h => hFc q h) hFc (fun r2 u t H1 locs ht hvm hw hB hz1 hk1 hS => ?_)
  obtain ⟨hP, hD, hK⟩ := kJ (wr := [(ou, .inl (co, 1, .inr (.inl (vp_updL of_ 0 0))))]) (w1 := [(mo, .inr (19, [.int 0, .int 0, .int 0, .int 0, .int 0, .int 0, .int 0, .ref ti, .ref si, .ref lo, .ref lh, .ref lk, .ref sp, .ref st, .ref pa, .ref br, .ref sg, .int 0, .int 0, .int 0, .int 0, .int 0, .int 0, .long 0, .long 0, .long 0, .long 0, .int 0]))]) (t1 := []) hP hD hK [0, 1] [2] rfl rfl (by decide) (by decide) hk1 hFc ht hvm hB
  generalize H1 = H at hP hS ⊢
  have hP : va_P (dC, dI) vwCl [(ou, .inl (co, 1, .inr (.inl (vp_updL of_ 0 0)))), (mo, .inr (19, [.int 0, .int 0, .int 0, .int 0, .int 0, .int 0, .int 0, .ref ti, .ref si, .ref lo, .ref lh, .ref lk, .ref sp, .ref st, .ref pa, .ref br, .ref sg, .int 0, .int 0, .int 0, .int 0, .int 0, .int 0, .long 0, .long 0, .long 0, .long 0, .int 0]))] H := hP
  have hD : va_D A [(ou, .inl (co, 1, .inr (.inl (vp_updL of_ 0 0)))), (mo, .inr (19, [.int 0, .int 0, .int 0, .int 0, .int 0, .int 0, .int 0, .ref ti, .ref si, .ref lo, .ref lh, .ref lk, .ref sp, .ref st, .ref pa, .ref br, .ref sg, .int 0, .int 0, .int 0, .int 0, .int 0, .int 0, .long 0, .long 0, .long 0, .long 0, .int 0]))] := hD
  have hK : va_K (dC, dI) vwCl [(co, .long)] s := hK
  obtain rfl : 0 = r2 := hw
  refine lv_istore (lv' := [(7, .int 0), (6, .int 0), (0, .ref b), (1, .ref x), (2, .ref mo), (3, .ref ou), (4, .ref od_), (5, .int 0)]) hx hb dL_law_452 hl (by decide) rfl (fun ls hl => ?_)
  refine lv_aload_n hx hb dL_law_454 rfl (lv_at hl 4 rfl) ?_
  have hPc := hP.sub (ws' := [(mo, .inr (19, [.int 0, .int 0, .int 0, .int 0, .int 0, .int 0, .int 0, .ref ti, .ref si, .ref lo, .ref lh, .ref lk, .ref sp, .ref st, .ref pa, .ref br, .ref sg, .int 0, .int 0, .int 0, .int 0, .int 0, .int 0, .long 0, .long 0, .long 0, .long 0, .int 0]))]) [1] rfl
  have hDc := hD.sub (ws' := [(mo, .inr (19, [.int 0, .int 0, .int 0, .int 0, .int 0, .int 0, .int 0, .ref ti, .ref si, .ref lo, .ref lh, .ref lk, .ref sp, .ref st, .ref pa, .ref br, .ref sg, .int 0, .int 0, .int 0, .int 0, .int 0, .int 0, .long 0, .long 0, .long 0, .long 0, .int 0]))]) [1] (by decide) rfl
  have hKc := hK.sub (tys' := []) [] rfl
  have hFc := va_free (wc := [(mo, .inr (19, [.int 0, .int 0, .int 0, .int 0, .int 0, .int 0, .int 0, .ref ti, .ref si, .ref lo, .ref lh, .ref lk, .ref sp, .ref st, .ref pa, .ref br, .ref sg, .int 0, .int 0, .int 0, .int 0, .int 0, .int 0, .long 0, .long 0, .long 0, .long 0, .int 0]))]) hD hS hA [1] rfl
  refine va_calli (va_runV (As := []) (rest := []) ⟨hx, hb, hml, hown, hts⟩ (k_m_thrown l dC dI z zK zV mo ti si lo lh lk sp st pa br sg 0 0 0 0 0 0 0 0 0 0 0 0 0 0 0 0 0 0 H.size) (cwV 0 hts hL_X15_thrown_100 rfl rfl rfl (by decide +kernel) ⟨Nat.le_of_ble_eq_true rfl, Nat.le_of_ble_eq_true rfl⟩) ⟨kP_blind, va_recv hKc hPc (ci := 19) (q0 := 0) rfl rfl, kP_go hPc hKc hDc hFc hM hS⟩ rfl rfl hl.1 rfl (lv_room (Nat.le_of_ble_eq_true rfl)) dL_law_455 ⟨Nat.le_of_ble_eq_true rfl, Nat.le_of_ble_eq_true rfl⟩) hS (fun q _ h => hFc q h) hFc (fun r3 u t H1 locs ht hvm hw hB hz1 hk1 hS => ?_)
  obtain ⟨hP, hD, hK⟩ := kJ (wr := [(ou, .inl (co, 1, .inr (.inl (vp_updL of_ 0 0))))]) (w1 := [(mo, .inr (19, [.int 0, .int 0, .int 0, .int 0, .int 0, .int 0, .int 0, .ref ti, .ref si, .ref lo, .ref lh, .ref lk, .ref sp, .ref st, .ref pa, .ref br, .ref sg, .int 0, .int 0, .int 0, .int 0, .int 0, .int 0, .long 0, .long 0, .long 0, .long 0, .int 0]))]) (t1 := []) hP hD hK [1] [0] rfl rfl (by decide) (by decide) hk1 hFc ht hvm hB
  generalize H1 = H at hP hS ⊢
  have hP : va_P (dC, dI) vwCl [(ou, .inl (co, 1, .inr (.inl (vp_updL of_ 0 0)))), (mo, .inr (19, [.int 0, .int 0, .int 0, .int 0, .int 0, .int 0, .int 0, .ref ti, .ref si, .ref lo, .ref lh, .ref lk, .ref sp, .ref st, .ref pa, .ref br, .ref sg, .int 0, .int 0, .int 0, .int 0, .int 0, .int 0, .long 0, .long 0, .long 0, .long 0, .int 0]))] H := hP
  have hD : va_D A [(ou, .inl (co, 1, .inr (.inl (vp_updL of_ 0 0)))), (mo, .inr (19, [.int 0, .int 0, .int 0, .int 0, .int 0, .int 0, .int 0, .ref ti, .ref si, .ref lo, .ref lh, .ref lk, .ref sp, .ref st, .ref pa, .ref br, .ref sg, .int 0, .int 0, .int 0, .int 0, .int 0, .int 0, .long 0, .long 0, .long 0, .long 0, .int 0]))] := hD
  have hK : va_K (dC, dI) vwCl [(co, .long)] s := hK
  obtain rfl : 0 = r3 := hw
  refine lv_iload hx hb dL_law_458 (lv_at hl 1 rfl) ?_
  refine lv_icmp_eq (tgt := 465) hx hb dL_law_460 (by decide) (fun _ => ?_) (fun c_ => absurd (by decide +kernel) c_)
  refine lv_iload hx hb dL_law_465 (lv_at hl 1 rfl) ?_
  refine lv_if_ne (tgt := 482) hx hb dL_law_467 (by decide) (fun c_ => absurd (by decide +kernel) c_) (fun _ => ?_)
  refine lv_aload_n hx hb dL_law_470 rfl (lv_at hl 5 rfl) ?_
  refine lv_iconst (v := 0) hx hb dL_law_471 (by decide) ?_
  refine va_lald hx hb hK hP 0 0 rfl rfl (pk_in 0 1 (by decide) rfl) dL_law_472 ?_
  refine kc_v (y := .long 0) rfl ?_
  refine lv_iload hx hb dL_law_473 (lv_at hl 0 rfl) ?_
  refine lv_i2l (v := 0) hx hb dL_law_475 (by decide +kernel) ?_
  refine W.lcmp hx hb dL_law_476 ?_
  refine kc_i (y := 0) (by decide +kernel) ?_
  refine lv_if_eq (tgt := 482) hx hb dL_law_477 (by decide) (fun _ => ?_) (fun c_ => absurd (by decide +kernel) c_)
  refine lv_goto (tgt := 1684) hx hb dL_law_482 (by decide) ?_
  exact la_tail (dC := dC) (dI := dI) hst C0 hM hA hAl H locs hS ls (lv_sub hl [2, 7] rfl) (by omega) (by omega)

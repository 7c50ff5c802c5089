/-! ===== the cases of the law ===== -/
section J2
variable {G : xG} {d : Nat} {Q : xR → xH → Prop} {b : Nat} {S T : Nat → Nat → Int32} {fo : Nat → Int64} {hS : Nat → Option xC} {y : Option Nat}
theorem law_feed {i m q L : Nat} {xs : Nat → Int32} (hq : gV G 100 = q) (hs : gV G 101 = L ∧ ∀ j, nI (gV G (1000 + j)) = xs j) (hL : L ≤ 3072) (hi : i + 6 ≤ L) (hb : gB G ≤ b) (hd : 100 ≤ d) (rel : REL S T) (nxt : ∀ S' T' fo' y' l5 l6, REL S' T' → V G mL_law d m (6 * m) Q 2780 [some (.ref q), some (.ref (b + 0)), some (.ref (b + 68 + 0)), some (.ref (b + 68 + 35)), some (.int (nI i)), l5, l6] [] (jH G b S' T' fo' hS y')) : V G mL_law d (m + 1) (6 * m + 6) Q 236 [some (.ref q), some (.ref (b + 0)), some (.ref (b + 68 + 0)), some (.ref (b + 68 + 35)), some (.int (nI i)), none, none] [] (jH G b S T fo hS y) := by
  obtain ⟨v, S1, kC, kM⟩ := pr_feed rel (xs (i + 1)) (xs (i + 2)) (xs (i + 3)) (xs (i + 4)) (xs (i + 5))
  refine V_aload_n (pc := 236) (i := 1) dL_law_236 rfl rfl ?_
  refine V_aload_n (pc := 237) (i := 0) dL_law_237 rfl rfl ?_
  refine V_iload (pc := 238) dL_law_238 rfl ?_
  refine V_iconst (pc := 240) (v := 1) dL_law_240 (by decide) ?_
  refine V_iadd (pc := 241) dL_law_241 ?_
  refine J_ld (pc := 242) (j := i + 1) dL_law_242 hq hs (nI_add i 1) (by omega) hL ?_
  refine V_aload_n (pc := 243) (i := 0) dL_law_243 rfl rfl ?_
  refine V_iload (pc := 244) dL_law_244 rfl ?_
  refine V_iconst (pc := 246) (v := 2) dL_law_246 (by decide) ?_
  refine V_iadd (pc := 247) dL_law_247 ?_
  refine J_ld (pc := 248) (j := i + 2) dL_law_248 hq hs (nI_add i 2) (by omega) hL ?_
  refine V_aload_n (pc := 249) (i := 0) dL_law_249 rfl rfl ?_
  refine V_iload (pc := 250) dL_law_250 rfl ?_
  refine V_iconst (pc := 252) (v := 3) dL_law_252 (by decide) ?_
  refine V_iadd (pc := 253) dL_law_253 ?_
  refine J_ld (pc := 254) (j := i + 3) dL_law_254 hq hs (nI_add i 3) (by omega) hL ?_
  refine V_aload_n (pc := 255) (i := 0) dL_law_255 rfl rfl ?_
  refine V_iload (pc := 256) dL_law_256 rfl ?_
  refine V_iconst (pc := 258) (v := 4) dL_law_258 (by decide) ?_
  refine V_iadd (pc := 259) dL_law_259 ?_
  refine J_ld (pc := 260) (j := i + 4) dL_law_260 hq hs (nI_add i 4) (by omega) hL ?_
  refine V_aload_n (pc := 261) (i := 0) dL_law_261 rfl rfl ?_
  refine V_iload (pc := 262) dL_law_262 rfl ?_
  refine V_iconst (pc := 264) (v := 5) dL_law_264 (by decide) ?_
  refine V_iadd (pc := 265) dL_law_265 ?_
  refine J_ld (pc := 266) (j := i + 5) dL_law_266 hq hs (nI_add i 5) (by omega) hL ?_
  refine J_C (pc := 267) dL_law_267 cL_128 (fun h0 => kC G b 80 h0 hb (by omega)) rfl (Nat.le_of_ble_eq_true rfl) rfl (by omega) (Nat.le_of_ble_eq_true rfl) ?_
  refine V_aload_n (pc := 270) (i := 2) dL_law_270 rfl rfl ?_
  refine V_aload_n (pc := 271) (i := 0) dL_law_271 rfl rfl ?_
  refine V_iload (pc := 272) dL_law_272 rfl ?_
  refine V_iconst (pc := 274) (v := 1) dL_law_274 (by decide) ?_
  refine V_iadd (pc := 275) dL_law_275 ?_
  refine J_ld (pc := 276) (j := i + 1) dL_law_276 hq hs (nI_add i 1) (by omega) hL ?_
  refine V_aload_n (pc := 277) (i := 0) dL_law_277 rfl rfl ?_
  refine V_iload (pc := 278) dL_law_278 rfl ?_
  refine V_iconst (pc := 280) (v := 2) dL_law_280 (by decide) ?_
  refine V_iadd (pc := 281) dL_law_281 ?_
  refine J_ld (pc := 282) (j := i + 2) dL_law_282 hq hs (nI_add i 2) (by omega) hL ?_
  refine V_aload_n (pc := 283) (i := 0) dL_law_283 rfl rfl ?_
  refine V_iload (pc := 284) dL_law_284 rfl ?_
  refine V_iconst (pc := 286) (v := 3) dL_law_286 (by decide) ?_
  refine V_iadd (pc := 287) dL_law_287 ?_
  refine J_ld (pc := 288) (j := i + 3) dL_law_288 hq hs (nI_add i 3) (by omega) hL ?_
  refine V_aload_n (pc := 289) (i := 0) dL_law_289 rfl rfl ?_
  refine V_iload (pc := 290) dL_law_290 rfl ?_
  refine V_iconst (pc := 292) (v := 4) dL_law_292 (by decide) ?_
  refine V_iadd (pc := 293) dL_law_293 ?_
  refine J_ld (pc := 294) (j := i + 4) dL_law_294 hq hs (nI_add i 4) (by omega) hL ?_
  refine V_aload_n (pc := 295) (i := 0) dL_law_295 rfl rfl ?_
  refine V_iload (pc := 296) dL_law_296 rfl ?_
  refine V_iconst (pc := 298) (v := 5) dL_law_298 (by decide) ?_
  refine V_iadd (pc := 299) dL_law_299 ?_
  refine J_ld (pc := 300) (j := i + 5) dL_law_300 hq hs (nI_add i 5) (by omega) hL ?_
  refine J_M (pc := 301) dL_law_301 cL_132 (fun h0 => kM G (b + 68) 80 h0 (by omega) (by omega)) rfl (Nat.le_of_ble_eq_true rfl) rfl (by omega) (Nat.le_of_ble_eq_true rfl) (fun v1 T1 hp => ?_)
  obtain ⟨e1, e2, e3⟩ := hp
  subst e1
  refine V_icmp_eq (pc := 304) 2780 dL_law_304 rfl (fun _ => ?_) (fun q => absurd rfl q)
  exact V_bud (by omega) (by omega) (nxt _ _ _ _ _ _ e3)
theorem law_shore {i m q L : Nat} {xs : Nat → Int32} (hq : gV G 100 = q) (hs : gV G 101 = L ∧ ∀ j, nI (gV G (1000 + j)) = xs j) (hL : L ≤ 3072) (hi : i + 6 ≤ L) (hb : gB G ≤ b) (hd : 100 ≤ d) (rel : REL S T) (nxt : ∀ S' T' fo' y' l5 l6, REL S' T' → V G mL_law d m (6 * m) Q 2780 [some (.ref q), some (.ref (b + 0)), some (.ref (b + 68 + 0)), some (.ref (b + 68 + 35)), some (.int (nI i)), l5, l6] [] (jH G b S' T' fo' hS y')) : V G mL_law d (m + 1) (6 * m + 6) Q 309 [some (.ref q), some (.ref (b + 0)), some (.ref (b + 68 + 0)), some (.ref (b + 68 + 35)), some (.int (nI i)), none, none] [] (jH G b S T fo hS y) := by
  rcases pr_shore rel (xs (i + 1)) with ⟨v, S1, kC, kM⟩ | ⟨kC, kM⟩
  · refine V_aload_n (pc := 309) (i := 1) dL_law_309 rfl rfl ?_
    refine V_aload_n (pc := 310) (i := 0) dL_law_310 rfl rfl ?_
    refine V_iload (pc := 311) dL_law_311 rfl ?_
    refine V_iconst (pc := 313) (v := 1) dL_law_313 (by decide) ?_
    refine V_iadd (pc := 314) dL_law_314 ?_
    refine J_ld (pc := 315) (j := i + 1) dL_law_315 hq hs (nI_add i 1) (by omega) hL ?_
    refine V_aload_n (pc := 316) (i := 3) dL_law_316 rfl rfl ?_
    refine J_S (pc := 317) dL_law_317 cL_133 (L_shore_ok (d := 90) (fun h0 => kC G b 80 h0 hb (by omega)) hb (by omega)) rfl (Nat.le_of_ble_eq_true rfl) rfl (by omega) (Nat.le_of_ble_eq_true rfl) ?_
    refine V_istore (pc := 320) dL_law_320 (by decide) rfl ?_
    refine V_aload_n (pc := 322) (i := 2) dL_law_322 rfl rfl ?_
    refine V_aload_n (pc := 323) (i := 0) dL_law_323 rfl rfl ?_
    refine V_iload (pc := 324) dL_law_324 rfl ?_
    refine V_iconst (pc := 326) (v := 1) dL_law_326 (by decide) ?_
    refine V_iadd (pc := 327) dL_law_327 ?_
    refine J_ld (pc := 328) (j := i + 1) dL_law_328 hq hs (nI_add i 1) (by omega) hL ?_
    refine J_M (pc := 329) dL_law_329 cL_138 (fun h0 => kM G (b + 68) 80 h0 (by omega) (by omega)) rfl (Nat.le_of_ble_eq_true rfl) rfl (by omega) (Nat.le_of_ble_eq_true rfl) (fun v1 T1 hp => ?_)
    obtain ⟨e1, e2, e3⟩ := hp
    subst e1
    refine V_istore (pc := 332) dL_law_332 (by decide) rfl ?_
    refine V_aload_n (pc := 334) (i := 2) dL_law_334 rfl rfl ?_
    refine J_M (pc := 335) dL_law_335 cL_139 (J_thrown e2) rfl (Nat.le_of_ble_eq_true rfl) rfl (by omega) (Nat.le_of_ble_eq_true rfl) (fun v2 T2 hp => ?_)
    obtain ⟨r1, r2⟩ := hp
    subst r1; subst r2
    refine V_iload (pc := 338) dL_law_338 rfl ?_
    refine V_icmp_eq (pc := 340) 345 dL_law_340 rfl (fun _ => ?_) (fun q => absurd rfl q)
    refine V_iload (pc := 345) dL_law_345 rfl ?_
    refine V_if_ne (pc := 347) 362 dL_law_347 rfl (fun q => absurd rfl q) (fun _ => ?_)
    refine V_aload_n (pc := 350) (i := 3) dL_law_350 rfl rfl ?_
    refine V_iconst (pc := 351) (v := 0) dL_law_351 (by decide) ?_
    refine J_lald (pc := 352) dL_law_352 updL0 ?_
    refine V_iload (pc := 353) dL_law_353 rfl ?_
    refine V_i2l (pc := 355) dL_law_355 rfl ?_
    refine V_lcmp (pc := 356) dL_law_356 ?_
    rw [cmp_0]
    refine V_if_eq (pc := 357) 362 dL_law_357 rfl (fun _ => ?_) (fun q => absurd rfl q)
    refine V_goto (pc := 362) 2780 dL_law_362 rfl ?_
    exact V_bud (by omega) (by omega) (nxt _ _ _ _ _ _ e3)
  · refine V_aload_n (pc := 309) (i := 1) dL_law_309 rfl rfl ?_
    refine V_aload_n (pc := 310) (i := 0) dL_law_310 rfl rfl ?_
    refine V_iload (pc := 311) dL_law_311 rfl ?_
    refine V_iconst (pc := 313) (v := 1) dL_law_313 (by decide) ?_
    refine V_iadd (pc := 314) dL_law_314 ?_
    refine J_ld (pc := 315) (j := i + 1) dL_law_315 hq hs (nI_add i 1) (by omega) hL ?_
    refine V_aload_n (pc := 316) (i := 3) dL_law_316 rfl rfl ?_
    refine J_Sth (pc := 317) (bc := m) (bs := 6 * m) dL_law_317 cL_133 (L_shore_IAE (d := 90) (fun h0 => kC G b 80 h0 hb (by omega)) hb (by omega)) rfl (Nat.le_of_ble_eq_true rfl) rfl (by omega) (Nat.le_of_ble_eq_true rfl) (fun y1 => ?_)
    refine V_istore (pc := 320) dL_law_320 (by decide) rfl ?_
    refine V_aload_n (pc := 322) (i := 2) dL_law_322 rfl rfl ?_
    refine V_aload_n (pc := 323) (i := 0) dL_law_323 rfl rfl ?_
    refine V_iload (pc := 324) dL_law_324 rfl ?_
    refine V_iconst (pc := 326) (v := 1) dL_law_326 (by decide) ?_
    refine V_iadd (pc := 327) dL_law_327 ?_
    refine J_ld (pc := 328) (j := i + 1) dL_law_328 hq hs (nI_add i 1) (by omega) hL ?_
    refine J_M (pc := 329) dL_law_329 cL_138 (fun h0 => kM G (b + 68) 80 h0 (by omega) (by omega)) rfl (Nat.le_of_ble_eq_true rfl) rfl (by omega) (Nat.le_of_ble_eq_true rfl) (fun v1 T1 hp => ?_)
    obtain ⟨e1, e2, e3⟩ := hp
    subst e1
    refine V_istore (pc := 332) dL_law_332 (by decide) rfl ?_
    refine V_aload_n (pc := 334) (i := 2) dL_law_334 rfl rfl ?_
    refine J_M (pc := 335) dL_law_335 cL_139 (J_thrown e2) rfl (Nat.le_of_ble_eq_true rfl) rfl (by omega) (Nat.le_of_ble_eq_true rfl) (fun v2 T2 hp => ?_)
    obtain ⟨r1, r2⟩ := hp
    subst r1; subst r2
    refine V_iload (pc := 338) dL_law_338 rfl ?_
    refine V_icmp_eq (pc := 340) 345 dL_law_340 rfl (fun _ => ?_) (fun q => absurd rfl q)
    refine V_iload (pc := 345) dL_law_345 rfl ?_
    refine V_if_ne (pc := 347) 362 dL_law_347 rfl (fun _ => ?_) (fun q => absurd q (by decide))
    refine V_goto (pc := 362) 2780 dL_law_362 rfl ?_
    exact V_bud (by omega) (by omega) (nxt _ _ _ _ _ _ e3)
theorem law_fault {i m q L : Nat} {xs : Nat → Int32} (hq : gV G 100 = q) (hs : gV G 101 = L ∧ ∀ j, nI (gV G (1000 + j)) = xs j) (hL : L ≤ 3072) (hi : i + 6 ≤ L) (hb : gB G ≤ b) (hd : 100 ≤ d) (rel : REL S T) (nxt : ∀ S' T' fo' y' l5 l6, REL S' T' → V G mL_law d m (6 * m) Q 2780 [some (.ref q), some (.ref (b + 0)), some (.ref (b + 68 + 0)), some (.ref (b + 68 + 35)), some (.int (nI i)), l5, l6] [] (jH G b S' T' fo' hS y')) : V G mL_law d (m + 1) (6 * m + 6) Q 365 [some (.ref q), some (.ref (b + 0)), some (.ref (b + 68 + 0)), some (.ref (b + 68 + 35)), some (.int (nI i)), none, none] [] (jH G b S T fo hS y) := by
  obtain ⟨v, S1, kC, kM⟩ := pr_fault rel
  refine V_aload_n (pc := 365) (i := 1) dL_law_365 rfl rfl ?_
  refine J_C (pc := 366) dL_law_366 cL_143 (fun h0 => kC G b 80 h0 hb (by omega)) rfl (Nat.le_of_ble_eq_true rfl) rfl (by omega) (Nat.le_of_ble_eq_true rfl) ?_
  refine V_aload_n (pc := 369) (i := 2) dL_law_369 rfl rfl ?_
  refine J_M (pc := 370) dL_law_370 cL_146 (fun h0 => kM G (b + 68) 80 h0 (by omega) (by omega)) rfl (Nat.le_of_ble_eq_true rfl) rfl (by omega) (Nat.le_of_ble_eq_true rfl) (fun v1 T1 hp => ?_)
  obtain ⟨e1, e2, e3⟩ := hp
  subst e1
  refine V_icmp_eq (pc := 373) 2780 dL_law_373 rfl (fun _ => ?_) (fun q => absurd rfl q)
  exact V_bud (by omega) (by omega) (nxt _ _ _ _ _ _ e3)
theorem law_count {i m q L : Nat} {xs : Nat → Int32} (hq : gV G 100 = q) (hs : gV G 101 = L ∧ ∀ j, nI (gV G (1000 + j)) = xs j) (hL : L ≤ 3072) (hi : i + 6 ≤ L) (hb : gB G ≤ b) (hd : 100 ≤ d) (rel : REL S T) (nxt : ∀ S' T' fo' y' l5 l6, REL S' T' → V G mL_law d m (6 * m) Q 2780 [some (.ref q), some (.ref (b + 0)), some (.ref (b + 68 + 0)), some (.ref (b + 68 + 35)), some (.int (nI i)), l5, l6] [] (jH G b S' T' fo' hS y')) : V G mL_law d (m + 1) (6 * m + 6) Q 378 [some (.ref q), some (.ref (b + 0)), some (.ref (b + 68 + 0)), some (.ref (b + 68 + 35)), some (.int (nI i)), none, none] [] (jH G b S T fo hS y) := by
  rcases pr_count rel (xs (i + 1)) with ⟨v, S1, kC, kM⟩ | ⟨kC, kM⟩
  · refine V_aload_n (pc := 378) (i := 1) dL_law_378 rfl rfl ?_
    refine V_aload_n (pc := 379) (i := 0) dL_law_379 rfl rfl ?_
    refine V_iload (pc := 380) dL_law_380 rfl ?_
    refine V_iconst (pc := 382) (v := 1) dL_law_382 (by decide) ?_
    refine V_iadd (pc := 383) dL_law_383 ?_
    refine J_ld (pc := 384) (j := i + 1) dL_law_384 hq hs (nI_add i 1) (by omega) hL ?_
    refine V_aload_n (pc := 385) (i := 3) dL_law_385 rfl rfl ?_
    refine J_S (pc := 386) dL_law_386 cL_147 (L_count_ok (d := 90) (fun h0 => kC G b 80 h0 hb (by omega)) hb (by omega)) rfl (Nat.le_of_ble_eq_true rfl) rfl (by omega) (Nat.le_of_ble_eq_true rfl) ?_
    refine V_istore (pc := 389) dL_law_389 (by decide) rfl ?_
    refine V_aload_n (pc := 391) (i := 2) dL_law_391 rfl rfl ?_
    refine V_aload_n (pc := 392) (i := 0) dL_law_392 rfl rfl ?_
    refine V_iload (pc := 393) dL_law_393 rfl ?_
    refine V_iconst (pc := 395) (v := 1) dL_law_395 (by decide) ?_
    refine V_iadd (pc := 396) dL_law_396 ?_
    refine J_ld (pc := 397) (j := i + 1) dL_law_397 hq hs (nI_add i 1) (by omega) hL ?_
    refine J_M (pc := 398) dL_law_398 cL_149 (fun h0 => kM G (b + 68) 80 h0 (by omega) (by omega)) rfl (Nat.le_of_ble_eq_true rfl) rfl (by omega) (Nat.le_of_ble_eq_true rfl) (fun v1 T1 hp => ?_)
    obtain ⟨e1, e2, e3⟩ := hp
    subst e1
    refine V_istore (pc := 401) dL_law_401 (by decide) rfl ?_
    refine V_aload_n (pc := 403) (i := 2) dL_law_403 rfl rfl ?_
    refine J_M (pc := 404) dL_law_404 cL_139 (J_thrown e2) rfl (Nat.le_of_ble_eq_true rfl) rfl (by omega) (Nat.le_of_ble_eq_true rfl) (fun v2 T2 hp => ?_)
    obtain ⟨r1, r2⟩ := hp
    subst r1; subst r2
    refine V_iload (pc := 407) dL_law_407 rfl ?_
    refine V_icmp_eq (pc := 409) 414 dL_law_409 rfl (fun _ => ?_) (fun q => absurd rfl q)
    refine V_iload (pc := 414) dL_law_414 rfl ?_
    refine V_if_ne (pc := 416) 431 dL_law_416 rfl (fun q => absurd rfl q) (fun _ => ?_)
    refine V_aload_n (pc := 419) (i := 3) dL_law_419 rfl rfl ?_
    refine V_iconst (pc := 420) (v := 0) dL_law_420 (by decide) ?_
    refine J_lald (pc := 421) dL_law_421 updL0 ?_
    refine V_iload (pc := 422) dL_law_422 rfl ?_
    refine V_i2l (pc := 424) dL_law_424 rfl ?_
    refine V_lcmp (pc := 425) dL_law_425 ?_
    rw [cmp_0]
    refine V_if_eq (pc := 426) 431 dL_law_426 rfl (fun _ => ?_) (fun q => absurd rfl q)
    refine V_goto (pc := 431) 2780 dL_law_431 rfl ?_
    exact V_bud (by omega) (by omega) (nxt _ _ _ _ _ _ e3)
  · refine V_aload_n (pc := 378) (i := 1) dL_law_378 rfl rfl ?_
    refine V_aload_n (pc := 379) (i := 0) dL_law_379 rfl rfl ?_
    refine V_iload (pc := 380) dL_law_380 rfl ?_
    refine V_iconst (pc := 382) (v := 1) dL_law_382 (by decide) ?_
    refine V_iadd (pc := 383) dL_law_383 ?_
    refine J_ld (pc := 384) (j := i + 1) dL_law_384 hq hs (nI_add i 1) (by omega) hL ?_
    refine V_aload_n (pc := 385) (i := 3) dL_law_385 rfl rfl ?_
    refine J_Sth (pc := 386) (bc := m) (bs := 6 * m) dL_law_386 cL_147 (L_count_NSE (d := 90) (fun h0 => kC G b 80 h0 hb (by omega)) hb (by omega)) rfl (Nat.le_of_ble_eq_true rfl) rfl (by omega) (Nat.le_of_ble_eq_true rfl) (fun y1 => ?_)
    refine V_istore (pc := 389) dL_law_389 (by decide) rfl ?_
    refine V_aload_n (pc := 391) (i := 2) dL_law_391 rfl rfl ?_
    refine V_aload_n (pc := 392) (i := 0) dL_law_392 rfl rfl ?_
    refine V_iload (pc := 393) dL_law_393 rfl ?_
    refine V_iconst (pc := 395) (v := 1) dL_law_395 (by decide) ?_
    refine V_iadd (pc := 396) dL_law_396 ?_
    refine J_ld (pc := 397) (j := i + 1) dL_law_397 hq hs (nI_add i 1) (by omega) hL ?_
    refine J_M (pc := 398) dL_law_398 cL_149 (fun h0 => kM G (b + 68) 80 h0 (by omega) (by omega)) rfl (Nat.le_of_ble_eq_true rfl) rfl (by omega) (Nat.le_of_ble_eq_true rfl) (fun v1 T1 hp => ?_)
    obtain ⟨e1, e2, e3⟩ := hp
    subst e1
    refine V_istore (pc := 401) dL_law_401 (by decide) rfl ?_
    refine V_aload_n (pc := 403) (i := 2) dL_law_403 rfl rfl ?_
    refine J_M (pc := 404) dL_law_404 cL_139 (J_thrown e2) rfl (Nat.le_of_ble_eq_true rfl) rfl (by omega) (Nat.le_of_ble_eq_true rfl) (fun v2 T2 hp => ?_)
    obtain ⟨r1, r2⟩ := hp
    subst r1; subst r2
    refine V_iload (pc := 407) dL_law_407 rfl ?_
    refine V_icmp_eq (pc := 409) 414 dL_law_409 rfl (fun _ => ?_) (fun q => absurd rfl q)
    refine V_iload (pc := 414) dL_law_414 rfl ?_
    refine V_if_ne (pc := 416) 431 dL_law_416 rfl (fun _ => ?_) (fun q => absurd q (by decide))
    refine V_goto (pc := 431) 2780 dL_law_431 rfl ?_
    exact V_bud (by omega) (by omega) (nxt _ _ _ _ _ _ e3)
theorem law_worth {i m q L : Nat} {xs : Nat → Int32} (hq : gV G 100 = q) (hs : gV G 101 = L ∧ ∀ j, nI (gV G (1000 + j)) = xs j) (hL : L ≤ 3072) (hi : i + 6 ≤ L) (hb : gB G ≤ b) (hd : 100 ≤ d) (rel : REL S T) (nxt : ∀ S' T' fo' y' l5 l6, REL S' T' → V G mL_law d m (6 * m) Q 2780 [some (.ref q), some (.ref (b + 0)), some (.ref (b + 68 + 0)), some (.ref (b + 68 + 35)), some (.int (nI i)), l5, l6] [] (jH G b S' T' fo' hS y')) : V G mL_law d (m + 1) (6 * m + 6) Q 434 [some (.ref q), some (.ref (b + 0)), some (.ref (b + 68 + 0)), some (.ref (b + 68 + 35)), some (.int (nI i)), none, none] [] (jH G b S T fo hS y) := by
  rcases pr_worth rel (xs (i + 1)) with ⟨v, S1, kC, kM⟩ | ⟨kC, kM⟩
  · refine V_aload_n (pc := 434) (i := 1) dL_law_434 rfl rfl ?_
    refine V_aload_n (pc := 435) (i := 0) dL_law_435 rfl rfl ?_
    refine V_iload (pc := 436) dL_law_436 rfl ?_
    refine V_iconst (pc := 438) (v := 1) dL_law_438 (by decide) ?_
    refine V_iadd (pc := 439) dL_law_439 ?_
    refine J_ld (pc := 440) (j := i + 1) dL_law_440 hq hs (nI_add i 1) (by omega) hL ?_
    refine V_aload_n (pc := 441) (i := 3) dL_law_441 rfl rfl ?_
    refine J_S (pc := 442) dL_law_442 cL_150 (L_worth_ok (d := 90) (fun h0 => kC G b 80 h0 hb (by omega)) hb (by omega)) rfl (Nat.le_of_ble_eq_true rfl) rfl (by omega) (Nat.le_of_ble_eq_true rfl) ?_
    refine V_istore (pc := 445) dL_law_445 (by decide) rfl ?_
    refine V_aload_n (pc := 447) (i := 2) dL_law_447 rfl rfl ?_
    refine V_aload_n (pc := 448) (i := 0) dL_law_448 rfl rfl ?_
    refine V_iload (pc := 449) dL_law_449 rfl ?_
    refine V_iconst (pc := 451) (v := 1) dL_law_451 (by decide) ?_
    refine V_iadd (pc := 452) dL_law_452 ?_
    refine J_ld (pc := 453) (j := i + 1) dL_law_453 hq hs (nI_add i 1) (by omega) hL ?_
    refine J_M (pc := 454) dL_law_454 cL_152 (fun h0 => kM G (b + 68) 80 h0 (by omega) (by omega)) rfl (Nat.le_of_ble_eq_true rfl) rfl (by omega) (Nat.le_of_ble_eq_true rfl) (fun v1 T1 hp => ?_)
    obtain ⟨e1, e2, e3⟩ := hp
    subst e1
    refine V_istore (pc := 457) dL_law_457 (by decide) rfl ?_
    refine V_aload_n (pc := 459) (i := 2) dL_law_459 rfl rfl ?_
    refine J_M (pc := 460) dL_law_460 cL_139 (J_thrown e2) rfl (Nat.le_of_ble_eq_true rfl) rfl (by omega) (Nat.le_of_ble_eq_true rfl) (fun v2 T2 hp => ?_)
    obtain ⟨r1, r2⟩ := hp
    subst r1; subst r2
    refine V_iload (pc := 463) dL_law_463 rfl ?_
    refine V_icmp_eq (pc := 465) 470 dL_law_465 rfl (fun _ => ?_) (fun q => absurd rfl q)
    refine V_iload (pc := 470) dL_law_470 rfl ?_
    refine V_if_ne (pc := 472) 487 dL_law_472 rfl (fun q => absurd rfl q) (fun _ => ?_)
    refine V_aload_n (pc := 475) (i := 3) dL_law_475 rfl rfl ?_
    refine V_iconst (pc := 476) (v := 0) dL_law_476 (by decide) ?_
    refine J_lald (pc := 477) dL_law_477 updL0 ?_
    refine V_iload (pc := 478) dL_law_478 rfl ?_
    refine V_i2l (pc := 480) dL_law_480 rfl ?_
    refine V_lcmp (pc := 481) dL_law_481 ?_
    rw [cmp_0]
    refine V_if_eq (pc := 482) 487 dL_law_482 rfl (fun _ => ?_) (fun q => absurd rfl q)
    refine V_goto (pc := 487) 2780 dL_law_487 rfl ?_
    exact V_bud (by omega) (by omega) (nxt _ _ _ _ _ _ e3)
  · refine V_aload_n (pc := 434) (i := 1) dL_law_434 rfl rfl ?_
    refine V_aload_n (pc := 435) (i := 0) dL_law_435 rfl rfl ?_
    refine V_iload (pc := 436) dL_law_436 rfl ?_
    refine V_iconst (pc := 438) (v := 1) dL_law_438 (by decide) ?_
    refine V_iadd (pc := 439) dL_law_439 ?_
    refine J_ld (pc := 440) (j := i + 1) dL_law_440 hq hs (nI_add i 1) (by omega) hL ?_
    refine V_aload_n (pc := 441) (i := 3) dL_law_441 rfl rfl ?_
    refine J_Sth (pc := 442) (bc := m) (bs := 6 * m) dL_law_442 cL_150 (L_worth_NSE (d := 90) (fun h0 => kC G b 80 h0 hb (by omega)) hb (by omega)) rfl (Nat.le_of_ble_eq_true rfl) rfl (by omega) (Nat.le_of_ble_eq_true rfl) (fun y1 => ?_)
    refine V_istore (pc := 445) dL_law_445 (by decide) rfl ?_
    refine V_aload_n (pc := 447) (i := 2) dL_law_447 rfl rfl ?_
    refine V_aload_n (pc := 448) (i := 0) dL_law_448 rfl rfl ?_
    refine V_iload (pc := 449) dL_law_449 rfl ?_
    refine V_iconst (pc := 451) (v := 1) dL_law_451 (by decide) ?_
    refine V_iadd (pc := 452) dL_law_452 ?_
    refine J_ld (pc := 453) (j := i + 1) dL_law_453 hq hs (nI_add i 1) (by omega) hL ?_
    refine J_M (pc := 454) dL_law_454 cL_152 (fun h0 => kM G (b + 68) 80 h0 (by omega) (by omega)) rfl (Nat.le_of_ble_eq_true rfl) rfl (by omega) (Nat.le_of_ble_eq_true rfl) (fun v1 T1 hp => ?_)
    obtain ⟨e1, e2, e3⟩ := hp
    subst e1
    refine V_istore (pc := 457) dL_law_457 (by decide) rfl ?_
    refine V_aload_n (pc := 459) (i := 2) dL_law_459 rfl rfl ?_
    refine J_M (pc := 460) dL_law_460 cL_139 (J_thrown e2) rfl (Nat.le_of_ble_eq_true rfl) rfl (by omega) (Nat.le_of_ble_eq_true rfl) (fun v2 T2 hp => ?_)
    obtain ⟨r1, r2⟩ := hp
    subst r1; subst r2
    refine V_iload (pc := 463) dL_law_463 rfl ?_
    refine V_icmp_eq (pc := 465) 470 dL_law_465 rfl (fun _ => ?_) (fun q => absurd rfl q)
    refine V_iload (pc := 470) dL_law_470 rfl ?_
    refine V_if_ne (pc := 472) 487 dL_law_472 rfl (fun _ => ?_) (fun q => absurd q (by decide))
    refine V_goto (pc := 487) 2780 dL_law_487 rfl ?_
    exact V_bud (by omega) (by omega) (nxt _ _ _ _ _ _ e3)
theorem law_conditional {i m q L : Nat} {xs : Nat → Int32} (hq : gV G 100 = q) (hs : gV G 101 = L ∧ ∀ j, nI (gV G (1000 + j)) = xs j) (hL : L ≤ 3072) (hi : i + 6 ≤ L) (hb : gB G ≤ b) (hd : 100 ≤ d) (rel : REL S T) (nxt : ∀ S' T' fo' y' l5 l6, REL S' T' → V G mL_law d m (6 * m) Q 2780 [some (.ref q), some (.ref (b + 0)), some (.ref (b + 68 + 0)), some (.ref (b + 68 + 35)), some (.int (nI i)), l5, l6] [] (jH G b S' T' fo' hS y')) : V G mL_law d (m + 1) (6 * m + 6) Q 490 [some (.ref q), some (.ref (b + 0)), some (.ref (b + 68 + 0)), some (.ref (b + 68 + 35)), some (.int (nI i)), none, none] [] (jH G b S T fo hS y) := by
  rcases pr_conditional rel (xs (i + 1)) (xs (i + 2)) with ⟨v, S1, kC, kM⟩ | ⟨kC, kM⟩
  · refine V_aload_n (pc := 490) (i := 1) dL_law_490 rfl rfl ?_
    refine V_aload_n (pc := 491) (i := 0) dL_law_491 rfl rfl ?_
    refine V_iload (pc := 492) dL_law_492 rfl ?_
    refine V_iconst (pc := 494) (v := 1) dL_law_494 (by decide) ?_
    refine V_iadd (pc := 495) dL_law_495 ?_
    refine J_ld (pc := 496) (j := i + 1) dL_law_496 hq hs (nI_add i 1) (by omega) hL ?_
    refine V_aload_n (pc := 497) (i := 0) dL_law_497 rfl rfl ?_
    refine V_iload (pc := 498) dL_law_498 rfl ?_
    refine V_iconst (pc := 500) (v := 2) dL_law_500 (by decide) ?_
    refine V_iadd (pc := 501) dL_law_501 ?_
    refine J_ld (pc := 502) (j := i + 2) dL_law_502 hq hs (nI_add i 2) (by omega) hL ?_
    refine V_aload_n (pc := 503) (i := 3) dL_law_503 rfl rfl ?_
    refine J_S (pc := 504) dL_law_504 cL_153 (L_conditional_ok (d := 90) (fun h0 => kC G b 80 h0 hb (by omega)) hb (by omega)) rfl (Nat.le_of_ble_eq_true rfl) rfl (by omega) (Nat.le_of_ble_eq_true rfl) ?_
    refine V_istore (pc := 507) dL_law_507 (by decide) rfl ?_
    refine V_aload_n (pc := 509) (i := 2) dL_law_509 rfl rfl ?_
    refine V_aload_n (pc := 510) (i := 0) dL_law_510 rfl rfl ?_
    refine V_iload (pc := 511) dL_law_511 rfl ?_
    refine V_iconst (pc := 513) (v := 1) dL_law_513 (by decide) ?_
    refine V_iadd (pc := 514) dL_law_514 ?_
    refine J_ld (pc := 515) (j := i + 1) dL_law_515 hq hs (nI_add i 1) (by omega) hL ?_
    refine V_aload_n (pc := 516) (i := 0) dL_law_516 rfl rfl ?_
    refine V_iload (pc := 517) dL_law_517 rfl ?_
    refine V_iconst (pc := 519) (v := 2) dL_law_519 (by decide) ?_
    refine V_iadd (pc := 520) dL_law_520 ?_
    refine J_ld (pc := 521) (j := i + 2) dL_law_521 hq hs (nI_add i 2) (by omega) hL ?_
    refine J_M (pc := 522) dL_law_522 cL_156 (fun h0 => kM G (b + 68) 80 h0 (by omega) (by omega)) rfl (Nat.le_of_ble_eq_true rfl) rfl (by omega) (Nat.le_of_ble_eq_true rfl) (fun v1 T1 hp => ?_)
    obtain ⟨e1, e2, e3⟩ := hp
    subst e1
    refine V_istore (pc := 525) dL_law_525 (by decide) rfl ?_
    refine V_aload_n (pc := 527) (i := 2) dL_law_527 rfl rfl ?_
    refine J_M (pc := 528) dL_law_528 cL_139 (J_thrown e2) rfl (Nat.le_of_ble_eq_true rfl) rfl (by omega) (Nat.le_of_ble_eq_true rfl) (fun v2 T2 hp => ?_)
    obtain ⟨r1, r2⟩ := hp
    subst r1; subst r2
    refine V_iload (pc := 531) dL_law_531 rfl ?_
    refine V_icmp_eq (pc := 533) 538 dL_law_533 rfl (fun _ => ?_) (fun q => absurd rfl q)
    refine V_iload (pc := 538) dL_law_538 rfl ?_
    refine V_if_ne (pc := 540) 555 dL_law_540 rfl (fun q => absurd rfl q) (fun _ => ?_)
    refine V_aload_n (pc := 543) (i := 3) dL_law_543 rfl rfl ?_
    refine V_iconst (pc := 544) (v := 0) dL_law_544 (by decide) ?_
    refine J_lald (pc := 545) dL_law_545 updL0 ?_
    refine V_iload (pc := 546) dL_law_546 rfl ?_
    refine V_i2l (pc := 548) dL_law_548 rfl ?_
    refine V_lcmp (pc := 549) dL_law_549 ?_
    rw [cmp_0]
    refine V_if_eq (pc := 550) 555 dL_law_550 rfl (fun _ => ?_) (fun q => absurd rfl q)
    refine V_goto (pc := 555) 2780 dL_law_555 rfl ?_
    exact V_bud (by omega) (by omega) (nxt _ _ _ _ _ _ e3)
  · refine V_aload_n (pc := 490) (i := 1) dL_law_490 rfl rfl ?_
    refine V_aload_n (pc := 491) (i := 0) dL_law_491 rfl rfl ?_
    refine V_iload (pc := 492) dL_law_492 rfl ?_
    refine V_iconst (pc := 494) (v := 1) dL_law_494 (by decide) ?_
    refine V_iadd (pc := 495) dL_law_495 ?_
    refine J_ld (pc := 496) (j := i + 1) dL_law_496 hq hs (nI_add i 1) (by omega) hL ?_
    refine V_aload_n (pc := 497) (i := 0) dL_law_497 rfl rfl ?_
    refine V_iload (pc := 498) dL_law_498 rfl ?_
    refine V_iconst (pc := 500) (v := 2) dL_law_500 (by decide) ?_
    refine V_iadd (pc := 501) dL_law_501 ?_
    refine J_ld (pc := 502) (j := i + 2) dL_law_502 hq hs (nI_add i 2) (by omega) hL ?_
    refine V_aload_n (pc := 503) (i := 3) dL_law_503 rfl rfl ?_
    refine J_Sth (pc := 504) (bc := m) (bs := 6 * m) dL_law_504 cL_153 (L_conditional_NSE (d := 90) (fun h0 => kC G b 80 h0 hb (by omega)) hb (by omega)) rfl (Nat.le_of_ble_eq_true rfl) rfl (by omega) (Nat.le_of_ble_eq_true rfl) (fun y1 => ?_)
    refine V_istore (pc := 507) dL_law_507 (by decide) rfl ?_
    refine V_aload_n (pc := 509) (i := 2) dL_law_509 rfl rfl ?_
    refine V_aload_n (pc := 510) (i := 0) dL_law_510 rfl rfl ?_
    refine V_iload (pc := 511) dL_law_511 rfl ?_
    refine V_iconst (pc := 513) (v := 1) dL_law_513 (by decide) ?_
    refine V_iadd (pc := 514) dL_law_514 ?_
    refine J_ld (pc := 515) (j := i + 1) dL_law_515 hq hs (nI_add i 1) (by omega) hL ?_
    refine V_aload_n (pc := 516) (i := 0) dL_law_516 rfl rfl ?_
    refine V_iload (pc := 517) dL_law_517 rfl ?_
    refine V_iconst (pc := 519) (v := 2) dL_law_519 (by decide) ?_
    refine V_iadd (pc := 520) dL_law_520 ?_
    refine J_ld (pc := 521) (j := i + 2) dL_law_521 hq hs (nI_add i 2) (by omega) hL ?_
    refine J_M (pc := 522) dL_law_522 cL_156 (fun h0 => kM G (b + 68) 80 h0 (by omega) (by omega)) rfl (Nat.le_of_ble_eq_true rfl) rfl (by omega) (Nat.le_of_ble_eq_true rfl) (fun v1 T1 hp => ?_)
    obtain ⟨e1, e2, e3⟩ := hp
    subst e1
    refine V_istore (pc := 525) dL_law_525 (by decide) rfl ?_
    refine V_aload_n (pc := 527) (i := 2) dL_law_527 rfl rfl ?_
    refine J_M (pc := 528) dL_law_528 cL_139 (J_thrown e2) rfl (Nat.le_of_ble_eq_true rfl) rfl (by omega) (Nat.le_of_ble_eq_true rfl) (fun v2 T2 hp => ?_)
    obtain ⟨r1, r2⟩ := hp
    subst r1; subst r2
    refine V_iload (pc := 531) dL_law_531 rfl ?_
    refine V_icmp_eq (pc := 533) 538 dL_law_533 rfl (fun _ => ?_) (fun q => absurd rfl q)
    refine V_iload (pc := 538) dL_law_538 rfl ?_
    refine V_if_ne (pc := 540) 555 dL_law_540 rfl (fun _ => ?_) (fun q => absurd q (by decide))
    refine V_goto (pc := 555) 2780 dL_law_555 rfl ?_
    exact V_bud (by omega) (by omega) (nxt _ _ _ _ _ _ e3)
theorem law_person {i m q L : Nat} {xs : Nat → Int32} (hq : gV G 100 = q) (hs : gV G 101 = L ∧ ∀ j, nI (gV G (1000 + j)) = xs j) (hL : L ≤ 3072) (hi : i + 6 ≤ L) (hb : gB G ≤ b) (hd : 100 ≤ d) (rel : REL S T) (nxt : ∀ S' T' fo' y' l5 l6, REL S' T' → V G mL_law d m (6 * m) Q 2780 [some (.ref q), some (.ref (b + 0)), some (.ref (b + 68 + 0)), some (.ref (b + 68 + 35)), some (.int (nI i)), l5, l6] [] (jH G b S' T' fo' hS y')) : V G mL_law d (m + 1) (6 * m + 6) Q 558 [some (.ref q), some (.ref (b + 0)), some (.ref (b + 68 + 0)), some (.ref (b + 68 + 35)), some (.int (nI i)), none, none] [] (jH G b S T fo hS y) := by
  rcases pr_person rel (xs (i + 1)) (xs (i + 2)) with ⟨v, S1, kC, kM⟩ | ⟨kC, kM⟩
  · refine V_aload_n (pc := 558) (i := 1) dL_law_558 rfl rfl ?_
    refine V_aload_n (pc := 559) (i := 0) dL_law_559 rfl rfl ?_
    refine V_iload (pc := 560) dL_law_560 rfl ?_
    refine V_iconst (pc := 562) (v := 1) dL_law_562 (by decide) ?_
    refine V_iadd (pc := 563) dL_law_563 ?_
    refine J_ld (pc := 564) (j := i + 1) dL_law_564 hq hs (nI_add i 1) (by omega) hL ?_
    refine V_aload_n (pc := 565) (i := 0) dL_law_565 rfl rfl ?_
    refine V_iload (pc := 566) dL_law_566 rfl ?_
    refine V_iconst (pc := 568) (v := 2) dL_law_568 (by decide) ?_
    refine V_iadd (pc := 569) dL_law_569 ?_
    refine J_ld (pc := 570) (j := i + 2) dL_law_570 hq hs (nI_add i 2) (by omega) hL ?_
    refine V_aload_n (pc := 571) (i := 3) dL_law_571 rfl rfl ?_
    refine J_S (pc := 572) dL_law_572 cL_157 (L_person_ok (d := 90) (fun h0 => kC G b 80 h0 hb (by omega)) hb (by omega)) rfl (Nat.le_of_ble_eq_true rfl) rfl (by omega) (Nat.le_of_ble_eq_true rfl) ?_
    refine V_istore (pc := 575) dL_law_575 (by decide) rfl ?_
    refine V_aload_n (pc := 577) (i := 2) dL_law_577 rfl rfl ?_
    refine V_aload_n (pc := 578) (i := 0) dL_law_578 rfl rfl ?_
    refine V_iload (pc := 579) dL_law_579 rfl ?_
    refine V_iconst (pc := 581) (v := 1) dL_law_581 (by decide) ?_
    refine V_iadd (pc := 582) dL_law_582 ?_
    refine J_ld (pc := 583) (j := i + 1) dL_law_583 hq hs (nI_add i 1) (by omega) hL ?_
    refine V_aload_n (pc := 584) (i := 0) dL_law_584 rfl rfl ?_
    refine V_iload (pc := 585) dL_law_585 rfl ?_
    refine V_iconst (pc := 587) (v := 2) dL_law_587 (by decide) ?_
    refine V_iadd (pc := 588) dL_law_588 ?_
    refine J_ld (pc := 589) (j := i + 2) dL_law_589 hq hs (nI_add i 2) (by omega) hL ?_
    refine J_M (pc := 590) dL_law_590 cL_159 (fun h0 => kM G (b + 68) 80 h0 (by omega) (by omega)) rfl (Nat.le_of_ble_eq_true rfl) rfl (by omega) (Nat.le_of_ble_eq_true rfl) (fun v1 T1 hp => ?_)
    obtain ⟨e1, e2, e3⟩ := hp
    subst e1
    refine V_istore (pc := 593) dL_law_593 (by decide) rfl ?_
    refine V_aload_n (pc := 595) (i := 2) dL_law_595 rfl rfl ?_
    refine J_M (pc := 596) dL_law_596 cL_139 (J_thrown e2) rfl (Nat.le_of_ble_eq_true rfl) rfl (by omega) (Nat.le_of_ble_eq_true rfl) (fun v2 T2 hp => ?_)
    obtain ⟨r1, r2⟩ := hp
    subst r1; subst r2
    refine V_iload (pc := 599) dL_law_599 rfl ?_
    refine V_icmp_eq (pc := 601) 606 dL_law_601 rfl (fun _ => ?_) (fun q => absurd rfl q)
    refine V_iload (pc := 606) dL_law_606 rfl ?_
    refine V_if_ne (pc := 608) 623 dL_law_608 rfl (fun q => absurd rfl q) (fun _ => ?_)
    refine V_aload_n (pc := 611) (i := 3) dL_law_611 rfl rfl ?_
    refine V_iconst (pc := 612) (v := 0) dL_law_612 (by decide) ?_
    refine J_lald (pc := 613) dL_law_613 updL0 ?_
    refine V_iload (pc := 614) dL_law_614 rfl ?_
    refine V_i2l (pc := 616) dL_law_616 rfl ?_
    refine V_lcmp (pc := 617) dL_law_617 ?_
    rw [cmp_0]
    refine V_if_eq (pc := 618) 623 dL_law_618 rfl (fun _ => ?_) (fun q => absurd rfl q)
    refine V_goto (pc := 623) 2780 dL_law_623 rfl ?_
    exact V_bud (by omega) (by omega) (nxt _ _ _ _ _ _ e3)
  · refine V_aload_n (pc := 558) (i := 1) dL_law_558 rfl rfl ?_
    refine V_aload_n (pc := 559) (i := 0) dL_law_559 rfl rfl ?_
    refine V_iload (pc := 560) dL_law_560 rfl ?_
    refine V_iconst (pc := 562) (v := 1) dL_law_562 (by decide) ?_
    refine V_iadd (pc := 563) dL_law_563 ?_
    refine J_ld (pc := 564) (j := i + 1) dL_law_564 hq hs (nI_add i 1) (by omega) hL ?_
    refine V_aload_n (pc := 565) (i := 0) dL_law_565 rfl rfl ?_
    refine V_iload (pc := 566) dL_law_566 rfl ?_
    refine V_iconst (pc := 568) (v := 2) dL_law_568 (by decide) ?_
    refine V_iadd (pc := 569) dL_law_569 ?_
    refine J_ld (pc := 570) (j := i + 2) dL_law_570 hq hs (nI_add i 2) (by omega) hL ?_
    refine V_aload_n (pc := 571) (i := 3) dL_law_571 rfl rfl ?_
    refine J_Sth (pc := 572) (bc := m) (bs := 6 * m) dL_law_572 cL_157 (L_person_NSE (d := 90) (fun h0 => kC G b 80 h0 hb (by omega)) hb (by omega)) rfl (Nat.le_of_ble_eq_true rfl) rfl (by omega) (Nat.le_of_ble_eq_true rfl) (fun y1 => ?_)
    refine V_istore (pc := 575) dL_law_575 (by decide) rfl ?_
    refine V_aload_n (pc := 577) (i := 2) dL_law_577 rfl rfl ?_
    refine V_aload_n (pc := 578) (i := 0) dL_law_578 rfl rfl ?_
    refine V_iload (pc := 579) dL_law_579 rfl ?_
    refine V_iconst (pc := 581) (v := 1) dL_law_581 (by decide) ?_
    refine V_iadd (pc := 582) dL_law_582 ?_
    refine J_ld (pc := 583) (j := i + 1) dL_law_583 hq hs (nI_add i 1) (by omega) hL ?_
    refine V_aload_n (pc := 584) (i := 0) dL_law_584 rfl rfl ?_
    refine V_iload (pc := 585) dL_law_585 rfl ?_
    refine V_iconst (pc := 587) (v := 2) dL_law_587 (by decide) ?_
    refine V_iadd (pc := 588) dL_law_588 ?_
    refine J_ld (pc := 589) (j := i + 2) dL_law_589 hq hs (nI_add i 2) (by omega) hL ?_
    refine J_M (pc := 590) dL_law_590 cL_159 (fun h0 => kM G (b + 68) 80 h0 (by omega) (by omega)) rfl (Nat.le_of_ble_eq_true rfl) rfl (by omega) (Nat.le_of_ble_eq_true rfl) (fun v1 T1 hp => ?_)
    obtain ⟨e1, e2, e3⟩ := hp
    subst e1
    refine V_istore (pc := 593) dL_law_593 (by decide) rfl ?_
    refine V_aload_n (pc := 595) (i := 2) dL_law_595 rfl rfl ?_
    refine J_M (pc := 596) dL_law_596 cL_139 (J_thrown e2) rfl (Nat.le_of_ble_eq_true rfl) rfl (by omega) (Nat.le_of_ble_eq_true rfl) (fun v2 T2 hp => ?_)
    obtain ⟨r1, r2⟩ := hp
    subst r1; subst r2
    refine V_iload (pc := 599) dL_law_599 rfl ?_
    refine V_icmp_eq (pc := 601) 606 dL_law_601 rfl (fun _ => ?_) (fun q => absurd rfl q)
    refine V_iload (pc := 606) dL_law_606 rfl ?_
    refine V_if_ne (pc := 608) 623 dL_law_608 rfl (fun _ => ?_) (fun q => absurd q (by decide))
    refine V_goto (pc := 623) 2780 dL_law_623 rfl ?_
    exact V_bud (by omega) (by omega) (nxt _ _ _ _ _ _ e3)
theorem law_sundays {i m q L : Nat} {xs : Nat → Int32} (hq : gV G 100 = q) (hs : gV G 101 = L ∧ ∀ j, nI (gV G (1000 + j)) = xs j) (hL : L ≤ 3072) (hi : i + 6 ≤ L) (hb : gB G ≤ b) (hd : 100 ≤ d) (rel : REL S T) (nxt : ∀ S' T' fo' y' l5 l6, REL S' T' → V G mL_law d m (6 * m) Q 2780 [some (.ref q), some (.ref (b + 0)), some (.ref (b + 68 + 0)), some (.ref (b + 68 + 35)), some (.int (nI i)), l5, l6] [] (jH G b S' T' fo' hS y')) : V G mL_law d (m + 1) (6 * m + 6) Q 626 [some (.ref q), some (.ref (b + 0)), some (.ref (b + 68 + 0)), some (.ref (b + 68 + 35)), some (.int (nI i)), none, none] [] (jH G b S T fo hS y) := by
  obtain ⟨v, S1, kC, kM⟩ := pr_sundays rel (xs (i + 1))
  refine V_aload_n (pc := 626) (i := 1) dL_law_626 rfl rfl ?_
  refine V_aload_n (pc := 627) (i := 0) dL_law_627 rfl rfl ?_
  refine V_iload (pc := 628) dL_law_628 rfl ?_
  refine V_iconst (pc := 630) (v := 1) dL_law_630 (by decide) ?_
  refine V_iadd (pc := 631) dL_law_631 ?_
  refine J_ld (pc := 632) (j := i + 1) dL_law_632 hq hs (nI_add i 1) (by omega) hL ?_
  refine J_C (pc := 633) dL_law_633 cL_160 (fun h0 => kC G b 80 h0 hb (by omega)) rfl (Nat.le_of_ble_eq_true rfl) rfl (by omega) (Nat.le_of_ble_eq_true rfl) ?_
  refine V_aload_n (pc := 636) (i := 2) dL_law_636 rfl rfl ?_
  refine V_aload_n (pc := 637) (i := 0) dL_law_637 rfl rfl ?_
  refine V_iload (pc := 638) dL_law_638 rfl ?_
  refine V_iconst (pc := 640) (v := 1) dL_law_640 (by decide) ?_
  refine V_iadd (pc := 641) dL_law_641 ?_
  refine J_ld (pc := 642) (j := i + 1) dL_law_642 hq hs (nI_add i 1) (by omega) hL ?_
  refine J_M (pc := 643) dL_law_643 cL_163 (fun h0 => kM G (b + 68) 80 h0 (by omega) (by omega)) rfl (Nat.le_of_ble_eq_true rfl) rfl (by omega) (Nat.le_of_ble_eq_true rfl) (fun v1 T1 hp => ?_)
  obtain ⟨e1, e2, e3⟩ := hp
  subst e1
  refine V_icmp_eq (pc := 646) 2780 dL_law_646 rfl (fun _ => ?_) (fun q => absurd rfl q)
  exact V_bud (by omega) (by omega) (nxt _ _ _ _ _ _ e3)
theorem law_has {i m q L : Nat} {xs : Nat → Int32} (hq : gV G 100 = q) (hs : gV G 101 = L ∧ ∀ j, nI (gV G (1000 + j)) = xs j) (hL : L ≤ 3072) (hi : i + 6 ≤ L) (hb : gB G ≤ b) (hd : 100 ≤ d) (rel : REL S T) (nxt : ∀ S' T' fo' y' l5 l6, REL S' T' → V G mL_law d m (6 * m) Q 2780 [some (.ref q), some (.ref (b + 0)), some (.ref (b + 68 + 0)), some (.ref (b + 68 + 35)), some (.int (nI i)), l5, l6] [] (jH G b S' T' fo' hS y')) : V G mL_law d (m + 1) (6 * m + 6) Q 651 [some (.ref q), some (.ref (b + 0)), some (.ref (b + 68 + 0)), some (.ref (b + 68 + 35)), some (.int (nI i)), none, none] [] (jH G b S T fo hS y) := by
  by_cases cz : xs (i + 3) = 0
  · rcases pr_has rel (xs (i + 1)) (xs (i + 2)) (v := 0) (Or.inl rfl) with ⟨v, S1, kC, kM⟩ | ⟨kC, kM⟩
    · refine V_aload_n (pc := 651) (i := 1) dL_law_651 rfl rfl ?_
      refine V_aload_n (pc := 652) (i := 0) dL_law_652 rfl rfl ?_
      refine V_iload (pc := 653) dL_law_653 rfl ?_
      refine V_iconst (pc := 655) (v := 1) dL_law_655 (by decide) ?_
      refine V_iadd (pc := 656) dL_law_656 ?_
      refine J_ld (pc := 657) (j := i + 1) dL_law_657 hq hs (nI_add i 1) (by omega) hL ?_
      refine V_aload_n (pc := 658) (i := 0) dL_law_658 rfl rfl ?_
      refine V_iload (pc := 659) dL_law_659 rfl ?_
      refine V_iconst (pc := 661) (v := 2) dL_law_661 (by decide) ?_
      refine V_iadd (pc := 662) dL_law_662 ?_
      refine J_ld (pc := 663) (j := i + 2) dL_law_663 hq hs (nI_add i 2) (by omega) hL ?_
      refine V_aload_n (pc := 664) (i := 0) dL_law_664 rfl rfl ?_
      refine V_iload (pc := 665) dL_law_665 rfl ?_
      refine V_iconst (pc := 667) (v := 3) dL_law_667 (by decide) ?_
      refine V_iadd (pc := 668) dL_law_668 ?_
      refine J_ld (pc := 669) (j := i + 3) dL_law_669 hq hs (nI_add i 3) (by omega) hL ?_
      refine V_if_eq (pc := 670) 677 dL_law_670 rfl (fun _ => ?_) (fun q => absurd cz q)
      refine V_iconst (pc := 677) (v := 0) dL_law_677 (by decide) ?_
      refine V_aload_n (pc := 678) (i := 3) dL_law_678 rfl rfl ?_
      refine J_S (pc := 679) dL_law_679 cL_164 (L_has_ok (d := 90) (fun h0 => kC G b 80 h0 hb (by omega)) hb (by omega)) rfl (Nat.le_of_ble_eq_true rfl) rfl (by omega) (Nat.le_of_ble_eq_true rfl) ?_
      refine V_istore (pc := 682) dL_law_682 (by decide) rfl ?_
      refine V_aload_n (pc := 684) (i := 2) dL_law_684 rfl rfl ?_
      refine V_aload_n (pc := 685) (i := 0) dL_law_685 rfl rfl ?_
      refine V_iload (pc := 686) dL_law_686 rfl ?_
      refine V_iconst (pc := 688) (v := 1) dL_law_688 (by decide) ?_
      refine V_iadd (pc := 689) dL_law_689 ?_
      refine J_ld (pc := 690) (j := i + 1) dL_law_690 hq hs (nI_add i 1) (by omega) hL ?_
      refine V_aload_n (pc := 691) (i := 0) dL_law_691 rfl rfl ?_
      refine V_iload (pc := 692) dL_law_692 rfl ?_
      refine V_iconst (pc := 694) (v := 2) dL_law_694 (by decide) ?_
      refine V_iadd (pc := 695) dL_law_695 ?_
      refine J_ld (pc := 696) (j := i + 2) dL_law_696 hq hs (nI_add i 2) (by omega) hL ?_
      refine V_aload_n (pc := 697) (i := 0) dL_law_697 rfl rfl ?_
      refine V_iload (pc := 698) dL_law_698 rfl ?_
      refine V_iconst (pc := 700) (v := 3) dL_law_700 (by decide) ?_
      refine V_iadd (pc := 701) dL_law_701 ?_
      refine J_ld (pc := 702) (j := i + 3) dL_law_702 hq hs (nI_add i 3) (by omega) hL ?_
      refine V_if_eq (pc := 703) 710 dL_law_703 rfl (fun _ => ?_) (fun q => absurd cz q)
      refine V_iconst (pc := 710) (v := 0) dL_law_710 (by decide) ?_
      refine J_M (pc := 711) dL_law_711 cL_167 (fun h0 => kM G (b + 68) 80 h0 (by omega) (by omega)) rfl (Nat.le_of_ble_eq_true rfl) rfl (by omega) (Nat.le_of_ble_eq_true rfl) (fun v1 T1 hp => ?_)
      obtain ⟨e1, e2, e3⟩ := hp
      subst e1
      refine V_istore (pc := 714) dL_law_714 (by decide) rfl ?_
      refine V_aload_n (pc := 716) (i := 2) dL_law_716 rfl rfl ?_
      refine J_M (pc := 717) dL_law_717 cL_139 (J_thrown e2) rfl (Nat.le_of_ble_eq_true rfl) rfl (by omega) (Nat.le_of_ble_eq_true rfl) (fun v2 T2 hp => ?_)
      obtain ⟨r1, r2⟩ := hp
      subst r1; subst r2
      refine V_iload (pc := 720) dL_law_720 rfl ?_
      refine V_icmp_eq (pc := 722) 727 dL_law_722 rfl (fun _ => ?_) (fun q => absurd rfl q)
      refine V_iload (pc := 727) dL_law_727 rfl ?_
      refine V_if_ne (pc := 729) 744 dL_law_729 rfl (fun q => absurd rfl q) (fun _ => ?_)
      refine V_aload_n (pc := 732) (i := 3) dL_law_732 rfl rfl ?_
      refine V_iconst (pc := 733) (v := 0) dL_law_733 (by decide) ?_
      refine J_lald (pc := 734) dL_law_734 updL0 ?_
      refine V_iload (pc := 735) dL_law_735 rfl ?_
      refine V_i2l (pc := 737) dL_law_737 rfl ?_
      refine V_lcmp (pc := 738) dL_law_738 ?_
      rw [cmp_0]
      refine V_if_eq (pc := 739) 744 dL_law_739 rfl (fun _ => ?_) (fun q => absurd rfl q)
      refine V_goto (pc := 744) 2780 dL_law_744 rfl ?_
      exact V_bud (by omega) (by omega) (nxt _ _ _ _ _ _ e3)
    · refine V_aload_n (pc := 651) (i := 1) dL_law_651 rfl rfl ?_
      refine V_aload_n (pc := 652) (i := 0) dL_law_652 rfl rfl ?_
      refine V_iload (pc := 653) dL_law_653 rfl ?_
      refine V_iconst (pc := 655) (v := 1) dL_law_655 (by decide) ?_
      refine V_iadd (pc := 656) dL_law_656 ?_
      refine J_ld (pc := 657) (j := i + 1) dL_law_657 hq hs (nI_add i 1) (by omega) hL ?_
      refine V_aload_n (pc := 658) (i := 0) dL_law_658 rfl rfl ?_
      refine V_iload (pc := 659) dL_law_659 rfl ?_
      refine V_iconst (pc := 661) (v := 2) dL_law_661 (by decide) ?_
      refine V_iadd (pc := 662) dL_law_662 ?_
      refine J_ld (pc := 663) (j := i + 2) dL_law_663 hq hs (nI_add i 2) (by omega) hL ?_
      refine V_aload_n (pc := 664) (i := 0) dL_law_664 rfl rfl ?_
      refine V_iload (pc := 665) dL_law_665 rfl ?_
      refine V_iconst (pc := 667) (v := 3) dL_law_667 (by decide) ?_
      refine V_iadd (pc := 668) dL_law_668 ?_
      refine J_ld (pc := 669) (j := i + 3) dL_law_669 hq hs (nI_add i 3) (by omega) hL ?_
      refine V_if_eq (pc := 670) 677 dL_law_670 rfl (fun _ => ?_) (fun q => absurd cz q)
      refine V_iconst (pc := 677) (v := 0) dL_law_677 (by decide) ?_
      refine V_aload_n (pc := 678) (i := 3) dL_law_678 rfl rfl ?_
      refine J_Sth (pc := 679) (bc := m) (bs := 6 * m) dL_law_679 cL_164 (L_has_NSE (d := 90) (fun h0 => kC G b 80 h0 hb (by omega)) hb (by omega)) rfl (Nat.le_of_ble_eq_true rfl) rfl (by omega) (Nat.le_of_ble_eq_true rfl) (fun y1 => ?_)
      refine V_istore (pc := 682) dL_law_682 (by decide) rfl ?_
      refine V_aload_n (pc := 684) (i := 2) dL_law_684 rfl rfl ?_
      refine V_aload_n (pc := 685) (i := 0) dL_law_685 rfl rfl ?_
      refine V_iload (pc := 686) dL_law_686 rfl ?_
      refine V_iconst (pc := 688) (v := 1) dL_law_688 (by decide) ?_
      refine V_iadd (pc := 689) dL_law_689 ?_
      refine J_ld (pc := 690) (j := i + 1) dL_law_690 hq hs (nI_add i 1) (by omega) hL ?_
      refine V_aload_n (pc := 691) (i := 0) dL_law_691 rfl rfl ?_
      refine V_iload (pc := 692) dL_law_692 rfl ?_
      refine V_iconst (pc := 694) (v := 2) dL_law_694 (by decide) ?_
      refine V_iadd (pc := 695) dL_law_695 ?_
      refine J_ld (pc := 696) (j := i + 2) dL_law_696 hq hs (nI_add i 2) (by omega) hL ?_
      refine V_aload_n (pc := 697) (i := 0) dL_law_697 rfl rfl ?_
      refine V_iload (pc := 698) dL_law_698 rfl ?_
      refine V_iconst (pc := 700) (v := 3) dL_law_700 (by decide) ?_
      refine V_iadd (pc := 701) dL_law_701 ?_
      refine J_ld (pc := 702) (j := i + 3) dL_law_702 hq hs (nI_add i 3) (by omega) hL ?_
      refine V_if_eq (pc := 703) 710 dL_law_703 rfl (fun _ => ?_) (fun q => absurd cz q)
      refine V_iconst (pc := 710) (v := 0) dL_law_710 (by decide) ?_
      refine J_M (pc := 711) dL_law_711 cL_167 (fun h0 => kM G (b + 68) 80 h0 (by omega) (by omega)) rfl (Nat.le_of_ble_eq_true rfl) rfl (by omega) (Nat.le_of_ble_eq_true rfl) (fun v1 T1 hp => ?_)
      obtain ⟨e1, e2, e3⟩ := hp
      subst e1
      refine V_istore (pc := 714) dL_law_714 (by decide) rfl ?_
      refine V_aload_n (pc := 716) (i := 2) dL_law_716 rfl rfl ?_
      refine J_M (pc := 717) dL_law_717 cL_139 (J_thrown e2) rfl (Nat.le_of_ble_eq_true rfl) rfl (by omega) (Nat.le_of_ble_eq_true rfl) (fun v2 T2 hp => ?_)
      obtain ⟨r1, r2⟩ := hp
      subst r1; subst r2
      refine V_iload (pc := 720) dL_law_720 rfl ?_
      refine V_icmp_eq (pc := 722) 727 dL_law_722 rfl (fun _ => ?_) (fun q => absurd rfl q)
      refine V_iload (pc := 727) dL_law_727 rfl ?_
      refine V_if_ne (pc := 729) 744 dL_law_729 rfl (fun _ => ?_) (fun q => absurd q (by decide))
      refine V_goto (pc := 744) 2780 dL_law_744 rfl ?_
      exact V_bud (by omega) (by omega) (nxt _ _ _ _ _ _ e3)
  · rcases pr_has rel (xs (i + 1)) (xs (i + 2)) (v := 1) (Or.inr rfl) with ⟨v, S1, kC, kM⟩ | ⟨kC, kM⟩
    · refine V_aload_n (pc := 651) (i := 1) dL_law_651 rfl rfl ?_
      refine V_aload_n (pc := 652) (i := 0) dL_law_652 rfl rfl ?_
      refine V_iload (pc := 653) dL_law_653 rfl ?_
      refine V_iconst (pc := 655) (v := 1) dL_law_655 (by decide) ?_
      refine V_iadd (pc := 656) dL_law_656 ?_
      refine J_ld (pc := 657) (j := i + 1) dL_law_657 hq hs (nI_add i 1) (by omega) hL ?_
      refine V_aload_n (pc := 658) (i := 0) dL_law_658 rfl rfl ?_
      refine V_iload (pc := 659) dL_law_659 rfl ?_
      refine V_iconst (pc := 661) (v := 2) dL_law_661 (by decide) ?_
      refine V_iadd (pc := 662) dL_law_662 ?_
      refine J_ld (pc := 663) (j := i + 2) dL_law_663 hq hs (nI_add i 2) (by omega) hL ?_
      refine V_aload_n (pc := 664) (i := 0) dL_law_664 rfl rfl ?_
      refine V_iload (pc := 665) dL_law_665 rfl ?_
      refine V_iconst (pc := 667) (v := 3) dL_law_667 (by decide) ?_
      refine V_iadd (pc := 668) dL_law_668 ?_
      refine J_ld (pc := 669) (j := i + 3) dL_law_669 hq hs (nI_add i 3) (by omega) hL ?_
      refine V_if_eq (pc := 670) 677 dL_law_670 rfl (fun q => absurd q cz) (fun _ => ?_)
      refine V_iconst (pc := 673) (v := 1) dL_law_673 (by decide) ?_
      refine V_goto (pc := 674) 678 dL_law_674 rfl ?_
      refine V_aload_n (pc := 678) (i := 3) dL_law_678 rfl rfl ?_
      refine J_S (pc := 679) dL_law_679 cL_164 (L_has_ok (d := 90) (fun h0 => kC G b 80 h0 hb (by omega)) hb (by omega)) rfl (Nat.le_of_ble_eq_true rfl) rfl (by omega) (Nat.le_of_ble_eq_true rfl) ?_
      refine V_istore (pc := 682) dL_law_682 (by decide) rfl ?_
      refine V_aload_n (pc := 684) (i := 2) dL_law_684 rfl rfl ?_
      refine V_aload_n (pc := 685) (i := 0) dL_law_685 rfl rfl ?_
      refine V_iload (pc := 686) dL_law_686 rfl ?_
      refine V_iconst (pc := 688) (v := 1) dL_law_688 (by decide) ?_
      refine V_iadd (pc := 689) dL_law_689 ?_
      refine J_ld (pc := 690) (j := i + 1) dL_law_690 hq hs (nI_add i 1) (by omega) hL ?_
      refine V_aload_n (pc := 691) (i := 0) dL_law_691 rfl rfl ?_
      refine V_iload (pc := 692) dL_law_692 rfl ?_
      refine V_iconst (pc := 694) (v := 2) dL_law_694 (by decide) ?_
      refine V_iadd (pc := 695) dL_law_695 ?_
      refine J_ld (pc := 696) (j := i + 2) dL_law_696 hq hs (nI_add i 2) (by omega) hL ?_
      refine V_aload_n (pc := 697) (i := 0) dL_law_697 rfl rfl ?_
      refine V_iload (pc := 698) dL_law_698 rfl ?_
      refine V_iconst (pc := 700) (v := 3) dL_law_700 (by decide) ?_
      refine V_iadd (pc := 701) dL_law_701 ?_
      refine J_ld (pc := 702) (j := i + 3) dL_law_702 hq hs (nI_add i 3) (by omega) hL ?_
      refine V_if_eq (pc := 703) 710 dL_law_703 rfl (fun q => absurd q cz) (fun _ => ?_)
      refine V_iconst (pc := 706) (v := 1) dL_law_706 (by decide) ?_
      refine V_goto (pc := 707) 711 dL_law_707 rfl ?_
      refine J_M (pc := 711) dL_law_711 cL_167 (fun h0 => kM G (b + 68) 80 h0 (by omega) (by omega)) rfl (Nat.le_of_ble_eq_true rfl) rfl (by omega) (Nat.le_of_ble_eq_true rfl) (fun v1 T1 hp => ?_)
      obtain ⟨e1, e2, e3⟩ := hp
      subst e1
      refine V_istore (pc := 714) dL_law_714 (by decide) rfl ?_
      refine V_aload_n (pc := 716) (i := 2) dL_law_716 rfl rfl ?_
      refine J_M (pc := 717) dL_law_717 cL_139 (J_thrown e2) rfl (Nat.le_of_ble_eq_true rfl) rfl (by omega) (Nat.le_of_ble_eq_true rfl) (fun v2 T2 hp => ?_)
      obtain ⟨r1, r2⟩ := hp
      subst r1; subst r2
      refine V_iload (pc := 720) dL_law_720 rfl ?_
      refine V_icmp_eq (pc := 722) 727 dL_law_722 rfl (fun _ => ?_) (fun q => absurd rfl q)
      refine V_iload (pc := 727) dL_law_727 rfl ?_
      refine V_if_ne (pc := 729) 744 dL_law_729 rfl (fun q => absurd rfl q) (fun _ => ?_)
      refine V_aload_n (pc := 732) (i := 3) dL_law_732 rfl rfl ?_
      refine V_iconst (pc := 733) (v := 0) dL_law_733 (by decide) ?_
      refine J_lald (pc := 734) dL_law_734 updL0 ?_
      refine V_iload (pc := 735) dL_law_735 rfl ?_
      refine V_i2l (pc := 737) dL_law_737 rfl ?_
      refine V_lcmp (pc := 738) dL_law_738 ?_
      rw [cmp_0]
      refine V_if_eq (pc := 739) 744 dL_law_739 rfl (fun _ => ?_) (fun q => absurd rfl q)
      refine V_goto (pc := 744) 2780 dL_law_744 rfl ?_
      exact V_bud (by omega) (by omega) (nxt _ _ _ _ _ _ e3)
    · refine V_aload_n (pc := 651) (i := 1) dL_law_651 rfl rfl ?_
      refine V_aload_n (pc := 652) (i := 0) dL_law_652 rfl rfl ?_
      refine V_iload (pc := 653) dL_law_653 rfl ?_
      refine V_iconst (pc := 655) (v := 1) dL_law_655 (by decide) ?_
      refine V_iadd (pc := 656) dL_law_656 ?_
      refine J_ld (pc := 657) (j := i + 1) dL_law_657 hq hs (nI_add i 1) (by omega) hL ?_
      refine V_aload_n (pc := 658) (i := 0) dL_law_658 rfl rfl ?_
      refine V_iload (pc := 659) dL_law_659 rfl ?_
      refine V_iconst (pc := 661) (v := 2) dL_law_661 (by decide) ?_
      refine V_iadd (pc := 662) dL_law_662 ?_
      refine J_ld (pc := 663) (j := i + 2) dL_law_663 hq hs (nI_add i 2) (by omega) hL ?_
      refine V_aload_n (pc := 664) (i := 0) dL_law_664 rfl rfl ?_
      refine V_iload (pc := 665) dL_law_665 rfl ?_
      refine V_iconst (pc := 667) (v := 3) dL_law_667 (by decide) ?_
      refine V_iadd (pc := 668) dL_law_668 ?_
      refine J_ld (pc := 669) (j := i + 3) dL_law_669 hq hs (nI_add i 3) (by omega) hL ?_
      refine V_if_eq (pc := 670) 677 dL_law_670 rfl (fun q => absurd q cz) (fun _ => ?_)
      refine V_iconst (pc := 673) (v := 1) dL_law_673 (by decide) ?_
      refine V_goto (pc := 674) 678 dL_law_674 rfl ?_
      refine V_aload_n (pc := 678) (i := 3) dL_law_678 rfl rfl ?_
      refine J_Sth (pc := 679) (bc := m) (bs := 6 * m) dL_law_679 cL_164 (L_has_NSE (d := 90) (fun h0 => kC G b 80 h0 hb (by omega)) hb (by omega)) rfl (Nat.le_of_ble_eq_true rfl) rfl (by omega) (Nat.le_of_ble_eq_true rfl) (fun y1 => ?_)
      refine V_istore (pc := 682) dL_law_682 (by decide) rfl ?_
      refine V_aload_n (pc := 684) (i := 2) dL_law_684 rfl rfl ?_
      refine V_aload_n (pc := 685) (i := 0) dL_law_685 rfl rfl ?_
      refine V_iload (pc := 686) dL_law_686 rfl ?_
      refine V_iconst (pc := 688) (v := 1) dL_law_688 (by decide) ?_
      refine V_iadd (pc := 689) dL_law_689 ?_
      refine J_ld (pc := 690) (j := i + 1) dL_law_690 hq hs (nI_add i 1) (by omega) hL ?_
      refine V_aload_n (pc := 691) (i := 0) dL_law_691 rfl rfl ?_
      refine V_iload (pc := 692) dL_law_692 rfl ?_
      refine V_iconst (pc := 694) (v := 2) dL_law_694 (by decide) ?_
      refine V_iadd (pc := 695) dL_law_695 ?_
      refine J_ld (pc := 696) (j := i + 2) dL_law_696 hq hs (nI_add i 2) (by omega) hL ?_
      refine V_aload_n (pc := 697) (i := 0) dL_law_697 rfl rfl ?_
      refine V_iload (pc := 698) dL_law_698 rfl ?_
      refine V_iconst (pc := 700) (v := 3) dL_law_700 (by decide) ?_
      refine V_iadd (pc := 701) dL_law_701 ?_
      refine J_ld (pc := 702) (j := i + 3) dL_law_702 hq hs (nI_add i 3) (by omega) hL ?_
      refine V_if_eq (pc := 703) 710 dL_law_703 rfl (fun q => absurd q cz) (fun _ => ?_)
      refine V_iconst (pc := 706) (v := 1) dL_law_706 (by decide) ?_
      refine V_goto (pc := 707) 711 dL_law_707 rfl ?_
      refine J_M (pc := 711) dL_law_711 cL_167 (fun h0 => kM G (b + 68) 80 h0 (by omega) (by omega)) rfl (Nat.le_of_ble_eq_true rfl) rfl (by omega) (Nat.le_of_ble_eq_true rfl) (fun v1 T1 hp => ?_)
      obtain ⟨e1, e2, e3⟩ := hp
      subst e1
      refine V_istore (pc := 714) dL_law_714 (by decide) rfl ?_
      refine V_aload_n (pc := 716) (i := 2) dL_law_716 rfl rfl ?_
      refine J_M (pc := 717) dL_law_717 cL_139 (J_thrown e2) rfl (Nat.le_of_ble_eq_true rfl) rfl (by omega) (Nat.le_of_ble_eq_true rfl) (fun v2 T2 hp => ?_)
      obtain ⟨r1, r2⟩ := hp
      subst r1; subst r2
      refine V_iload (pc := 720) dL_law_720 rfl ?_
      refine V_icmp_eq (pc := 722) 727 dL_law_722 rfl (fun _ => ?_) (fun q => absurd rfl q)
      refine V_iload (pc := 727) dL_law_727 rfl ?_
      refine V_if_ne (pc := 729) 744 dL_law_729 rfl (fun _ => ?_) (fun q => absurd q (by decide))
      refine V_goto (pc := 744) 2780 dL_law_744 rfl ?_
      exact V_bud (by omega) (by omega) (nxt _ _ _ _ _ _ e3)
theorem law_miss {i m q L : Nat} {xs : Nat → Int32} (hq : gV G 100 = q) (hs : gV G 101 = L ∧ ∀ j, nI (gV G (1000 + j)) = xs j) (hL : L ≤ 3072) (hi : i + 6 ≤ L) (hb : gB G ≤ b) (hd : 100 ≤ d) (rel : REL S T) (nxt : ∀ S' T' fo' y' l5 l6, REL S' T' → V G mL_law d m (6 * m) Q 2780 [some (.ref q), some (.ref (b + 0)), some (.ref (b + 68 + 0)), some (.ref (b + 68 + 35)), some (.int (nI i)), l5, l6] [] (jH G b S' T' fo' hS y')) : V G mL_law d (m + 1) (6 * m + 6) Q 747 [some (.ref q), some (.ref (b + 0)), some (.ref (b + 68 + 0)), some (.ref (b + 68 + 35)), some (.int (nI i)), none, none] [] (jH G b S T fo hS y) := by
  rcases pr_miss rel (xs (i + 1)) (xs (i + 2)) with ⟨v, S1, kC, kM⟩ | ⟨kC, kM⟩
  · refine V_aload_n (pc := 747) (i := 1) dL_law_747 rfl rfl ?_
    refine V_aload_n (pc := 748) (i := 0) dL_law_748 rfl rfl ?_
    refine V_iload (pc := 749) dL_law_749 rfl ?_
    refine V_iconst (pc := 751) (v := 1) dL_law_751 (by decide) ?_
    refine V_iadd (pc := 752) dL_law_752 ?_
    refine J_ld (pc := 753) (j := i + 1) dL_law_753 hq hs (nI_add i 1) (by omega) hL ?_
    refine V_aload_n (pc := 754) (i := 0) dL_law_754 rfl rfl ?_
    refine V_iload (pc := 755) dL_law_755 rfl ?_
    refine V_iconst (pc := 757) (v := 2) dL_law_757 (by decide) ?_
    refine V_iadd (pc := 758) dL_law_758 ?_
    refine J_ld (pc := 759) (j := i + 2) dL_law_759 hq hs (nI_add i 2) (by omega) hL ?_
    refine V_aload_n (pc := 760) (i := 3) dL_law_760 rfl rfl ?_
    refine J_S (pc := 761) dL_law_761 cL_168 (L_miss_ok (d := 90) (fun h0 => kC G b 80 h0 hb (by omega)) hb (by omega)) rfl (Nat.le_of_ble_eq_true rfl) rfl (by omega) (Nat.le_of_ble_eq_true rfl) ?_
    refine V_istore (pc := 764) dL_law_764 (by decide) rfl ?_
    refine V_aload_n (pc := 766) (i := 2) dL_law_766 rfl rfl ?_
    refine V_aload_n (pc := 767) (i := 0) dL_law_767 rfl rfl ?_
    refine V_iload (pc := 768) dL_law_768 rfl ?_
    refine V_iconst (pc := 770) (v := 1) dL_law_770 (by decide) ?_
    refine V_iadd (pc := 771) dL_law_771 ?_
    refine J_ld (pc := 772) (j := i + 1) dL_law_772 hq hs (nI_add i 1) (by omega) hL ?_
    refine V_aload_n (pc := 773) (i := 0) dL_law_773 rfl rfl ?_
    refine V_iload (pc := 774) dL_law_774 rfl ?_
    refine V_iconst (pc := 776) (v := 2) dL_law_776 (by decide) ?_
    refine V_iadd (pc := 777) dL_law_777 ?_
    refine J_ld (pc := 778) (j := i + 2) dL_law_778 hq hs (nI_add i 2) (by omega) hL ?_
    refine J_M (pc := 779) dL_law_779 cL_170 (fun h0 => kM G (b + 68) 80 h0 (by omega) (by omega)) rfl (Nat.le_of_ble_eq_true rfl) rfl (by omega) (Nat.le_of_ble_eq_true rfl) (fun v1 T1 hp => ?_)
    obtain ⟨e1, e2, e3⟩ := hp
    subst e1
    refine V_istore (pc := 782) dL_law_782 (by decide) rfl ?_
    refine V_aload_n (pc := 784) (i := 2) dL_law_784 rfl rfl ?_
    refine J_M (pc := 785) dL_law_785 cL_139 (J_thrown e2) rfl (Nat.le_of_ble_eq_true rfl) rfl (by omega) (Nat.le_of_ble_eq_true rfl) (fun v2 T2 hp => ?_)
    obtain ⟨r1, r2⟩ := hp
    subst r1; subst r2
    refine V_iload (pc := 788) dL_law_788 rfl ?_
    refine V_icmp_eq (pc := 790) 795 dL_law_790 rfl (fun _ => ?_) (fun q => absurd rfl q)
    refine V_iload (pc := 795) dL_law_795 rfl ?_
    refine V_if_ne (pc := 797) 812 dL_law_797 rfl (fun q => absurd rfl q) (fun _ => ?_)
    refine V_aload_n (pc := 800) (i := 3) dL_law_800 rfl rfl ?_
    refine V_iconst (pc := 801) (v := 0) dL_law_801 (by decide) ?_
    refine J_lald (pc := 802) dL_law_802 updL0 ?_
    refine V_iload (pc := 803) dL_law_803 rfl ?_
    refine V_i2l (pc := 805) dL_law_805 rfl ?_
    refine V_lcmp (pc := 806) dL_law_806 ?_
    rw [cmp_0]
    refine V_if_eq (pc := 807) 812 dL_law_807 rfl (fun _ => ?_) (fun q => absurd rfl q)
    refine V_goto (pc := 812) 2780 dL_law_812 rfl ?_
    exact V_bud (by omega) (by omega) (nxt _ _ _ _ _ _ e3)
  · refine V_aload_n (pc := 747) (i := 1) dL_law_747 rfl rfl ?_
    refine V_aload_n (pc := 748) (i := 0) dL_law_748 rfl rfl ?_
    refine V_iload (pc := 749) dL_law_749 rfl ?_
    refine V_iconst (pc := 751) (v := 1) dL_law_751 (by decide) ?_
    refine V_iadd (pc := 752) dL_law_752 ?_
    refine J_ld (pc := 753) (j := i + 1) dL_law_753 hq hs (nI_add i 1) (by omega) hL ?_
    refine V_aload_n (pc := 754) (i := 0) dL_law_754 rfl rfl ?_
    refine V_iload (pc := 755) dL_law_755 rfl ?_
    refine V_iconst (pc := 757) (v := 2) dL_law_757 (by decide) ?_
    refine V_iadd (pc := 758) dL_law_758 ?_
    refine J_ld (pc := 759) (j := i + 2) dL_law_759 hq hs (nI_add i 2) (by omega) hL ?_
    refine V_aload_n (pc := 760) (i := 3) dL_law_760 rfl rfl ?_
    refine J_Sth (pc := 761) (bc := m) (bs := 6 * m) dL_law_761 cL_168 (L_miss_NSE (d := 90) (fun h0 => kC G b 80 h0 hb (by omega)) hb (by omega)) rfl (Nat.le_of_ble_eq_true rfl) rfl (by omega) (Nat.le_of_ble_eq_true rfl) (fun y1 => ?_)
    refine V_istore (pc := 764) dL_law_764 (by decide) rfl ?_
    refine V_aload_n (pc := 766) (i := 2) dL_law_766 rfl rfl ?_
    refine V_aload_n (pc := 767) (i := 0) dL_law_767 rfl rfl ?_
    refine V_iload (pc := 768) dL_law_768 rfl ?_
    refine V_iconst (pc := 770) (v := 1) dL_law_770 (by decide) ?_
    refine V_iadd (pc := 771) dL_law_771 ?_
    refine J_ld (pc := 772) (j := i + 1) dL_law_772 hq hs (nI_add i 1) (by omega) hL ?_
    refine V_aload_n (pc := 773) (i := 0) dL_law_773 rfl rfl ?_
    refine V_iload (pc := 774) dL_law_774 rfl ?_
    refine V_iconst (pc := 776) (v := 2) dL_law_776 (by decide) ?_
    refine V_iadd (pc := 777) dL_law_777 ?_
    refine J_ld (pc := 778) (j := i + 2) dL_law_778 hq hs (nI_add i 2) (by omega) hL ?_
    refine J_M (pc := 779) dL_law_779 cL_170 (fun h0 => kM G (b + 68) 80 h0 (by omega) (by omega)) rfl (Nat.le_of_ble_eq_true rfl) rfl (by omega) (Nat.le_of_ble_eq_true rfl) (fun v1 T1 hp => ?_)
    obtain ⟨e1, e2, e3⟩ := hp
    subst e1
    refine V_istore (pc := 782) dL_law_782 (by decide) rfl ?_
    refine V_aload_n (pc := 784) (i := 2) dL_law_784 rfl rfl ?_
    refine J_M (pc := 785) dL_law_785 cL_139 (J_thrown e2) rfl (Nat.le_of_ble_eq_true rfl) rfl (by omega) (Nat.le_of_ble_eq_true rfl) (fun v2 T2 hp => ?_)
    obtain ⟨r1, r2⟩ := hp
    subst r1; subst r2
    refine V_iload (pc := 788) dL_law_788 rfl ?_
    refine V_icmp_eq (pc := 790) 795 dL_law_790 rfl (fun _ => ?_) (fun q => absurd rfl q)
    refine V_iload (pc := 795) dL_law_795 rfl ?_
    refine V_if_ne (pc := 797) 812 dL_law_797 rfl (fun _ => ?_) (fun q => absurd q (by decide))
    refine V_goto (pc := 812) 2780 dL_law_812 rfl ?_
    exact V_bud (by omega) (by omega) (nxt _ _ _ _ _ _ e3)
theorem law_deny {i m q L : Nat} {xs : Nat → Int32} (hq : gV G 100 = q) (hs : gV G 101 = L ∧ ∀ j, nI (gV G (1000 + j)) = xs j) (hL : L ≤ 3072) (hi : i + 6 ≤ L) (hb : gB G ≤ b) (hd : 100 ≤ d) (rel : REL S T) (nxt : ∀ S' T' fo' y' l5 l6, REL S' T' → V G mL_law d m (6 * m) Q 2780 [some (.ref q), some (.ref (b + 0)), some (.ref (b + 68 + 0)), some (.ref (b + 68 + 35)), some (.int (nI i)), l5, l6] [] (jH G b S' T' fo' hS y')) : V G mL_law d (m + 1) (6 * m + 6) Q 815 [some (.ref q), some (.ref (b + 0)), some (.ref (b + 68 + 0)), some (.ref (b + 68 + 35)), some (.int (nI i)), none, none] [] (jH G b S T fo hS y) := by
  by_cases cz : xs (i + 2) = 0
  · rcases pr_deny rel (xs (i + 1)) (v := 0) (Or.inl rfl) with ⟨v, S1, kC, kM⟩ | ⟨kC, kM⟩
    · refine V_aload_n (pc := 815) (i := 1) dL_law_815 rfl rfl ?_
      refine V_aload_n (pc := 816) (i := 0) dL_law_816 rfl rfl ?_
      refine V_iload (pc := 817) dL_law_817 rfl ?_
      refine V_iconst (pc := 819) (v := 1) dL_law_819 (by decide) ?_
      refine V_iadd (pc := 820) dL_law_820 ?_
      refine J_ld (pc := 821) (j := i + 1) dL_law_821 hq hs (nI_add i 1) (by omega) hL ?_
      refine V_aload_n (pc := 822) (i := 0) dL_law_822 rfl rfl ?_
      refine V_iload (pc := 823) dL_law_823 rfl ?_
      refine V_iconst (pc := 825) (v := 2) dL_law_825 (by decide) ?_
      refine V_iadd (pc := 826) dL_law_826 ?_
      refine J_ld (pc := 827) (j := i + 2) dL_law_827 hq hs (nI_add i 2) (by omega) hL ?_
      refine V_if_eq (pc := 828) 835 dL_law_828 rfl (fun _ => ?_) (fun q => absurd cz q)
      refine V_iconst (pc := 835) (v := 0) dL_law_835 (by decide) ?_
      refine V_aload_n (pc := 836) (i := 3) dL_law_836 rfl rfl ?_
      refine J_S (pc := 837) dL_law_837 cL_171 (L_deny_ok (d := 90) (fun h0 => kC G b 80 h0 hb (by omega)) hb (by omega)) rfl (Nat.le_of_ble_eq_true rfl) rfl (by omega) (Nat.le_of_ble_eq_true rfl) ?_
      refine V_istore (pc := 840) dL_law_840 (by decide) rfl ?_
      refine V_aload_n (pc := 842) (i := 2) dL_law_842 rfl rfl ?_
      refine V_aload_n (pc := 843) (i := 0) dL_law_843 rfl rfl ?_
      refine V_iload (pc := 844) dL_law_844 rfl ?_
      refine V_iconst (pc := 846) (v := 1) dL_law_846 (by decide) ?_
      refine V_iadd (pc := 847) dL_law_847 ?_
      refine J_ld (pc := 848) (j := i + 1) dL_law_848 hq hs (nI_add i 1) (by omega) hL ?_
      refine V_aload_n (pc := 849) (i := 0) dL_law_849 rfl rfl ?_
      refine V_iload (pc := 850) dL_law_850 rfl ?_
      refine V_iconst (pc := 852) (v := 2) dL_law_852 (by decide) ?_
      refine V_iadd (pc := 853) dL_law_853 ?_
      refine J_ld (pc := 854) (j := i + 2) dL_law_854 hq hs (nI_add i 2) (by omega) hL ?_
      refine V_if_eq (pc := 855) 862 dL_law_855 rfl (fun _ => ?_) (fun q => absurd cz q)
      refine V_iconst (pc := 862) (v := 0) dL_law_862 (by decide) ?_
      refine J_M (pc := 863) dL_law_863 cL_174 (fun h0 => kM G (b + 68) 80 h0 (by omega) (by omega)) rfl (Nat.le_of_ble_eq_true rfl) rfl (by omega) (Nat.le_of_ble_eq_true rfl) (fun v1 T1 hp => ?_)
      obtain ⟨e1, e2, e3⟩ := hp
      subst e1
      refine V_istore (pc := 866) dL_law_866 (by decide) rfl ?_
      refine V_aload_n (pc := 868) (i := 2) dL_law_868 rfl rfl ?_
      refine J_M (pc := 869) dL_law_869 cL_139 (J_thrown e2) rfl (Nat.le_of_ble_eq_true rfl) rfl (by omega) (Nat.le_of_ble_eq_true rfl) (fun v2 T2 hp => ?_)
      obtain ⟨r1, r2⟩ := hp
      subst r1; subst r2
      refine V_iload (pc := 872) dL_law_872 rfl ?_
      refine V_icmp_eq (pc := 874) 879 dL_law_874 rfl (fun _ => ?_) (fun q => absurd rfl q)
      refine V_iload (pc := 879) dL_law_879 rfl ?_
      refine V_if_ne (pc := 881) 903 dL_law_881 rfl (fun q => absurd rfl q) (fun _ => ?_)
      refine V_aload_n (pc := 884) (i := 3) dL_law_884 rfl rfl ?_
      refine V_iconst (pc := 885) (v := 0) dL_law_885 (by decide) ?_
      refine J_lald (pc := 886) dL_law_886 updL0 ?_
      refine V_iload (pc := 887) dL_law_887 rfl ?_
      refine V_if_eq (pc := 889) 896 dL_law_889 rfl (fun cv => ?_) (fun cv => ?_)
      · rw [if_pos cv]
        refine V_lconst (pc := 896) (v := 0) dL_law_896 (by decide) ?_
        refine V_lcmp (pc := 897) dL_law_897 ?_
        rw [cmp_0]
        refine V_if_eq (pc := 898) 903 dL_law_898 rfl (fun _ => ?_) (fun q => absurd rfl q)
        refine V_goto (pc := 903) 2780 dL_law_903 rfl ?_
        exact V_bud (by omega) (by omega) (nxt _ _ _ _ _ _ e3)
      · rw [if_neg cv]
        refine V_lconst (pc := 892) (v := 1) dL_law_892 (by decide) ?_
        refine V_goto (pc := 893) 897 dL_law_893 rfl ?_
        refine V_lcmp (pc := 897) dL_law_897 ?_
        rw [cmp_0]
        refine V_if_eq (pc := 898) 903 dL_law_898 rfl (fun _ => ?_) (fun q => absurd rfl q)
        refine V_goto (pc := 903) 2780 dL_law_903 rfl ?_
        exact V_bud (by omega) (by omega) (nxt _ _ _ _ _ _ e3)
    · refine V_aload_n (pc := 815) (i := 1) dL_law_815 rfl rfl ?_
      refine V_aload_n (pc := 816) (i := 0) dL_law_816 rfl rfl ?_
      refine V_iload (pc := 817) dL_law_817 rfl ?_
      refine V_iconst (pc := 819) (v := 1) dL_law_819 (by decide) ?_
      refine V_iadd (pc := 820) dL_law_820 ?_
      refine J_ld (pc := 821) (j := i + 1) dL_law_821 hq hs (nI_add i 1) (by omega) hL ?_
      refine V_aload_n (pc := 822) (i := 0) dL_law_822 rfl rfl ?_
      refine V_iload (pc := 823) dL_law_823 rfl ?_
      refine V_iconst (pc := 825) (v := 2) dL_law_825 (by decide) ?_
      refine V_iadd (pc := 826) dL_law_826 ?_
      refine J_ld (pc := 827) (j := i + 2) dL_law_827 hq hs (nI_add i 2) (by omega) hL ?_
      refine V_if_eq (pc := 828) 835 dL_law_828 rfl (fun _ => ?_) (fun q => absurd cz q)
      refine V_iconst (pc := 835) (v := 0) dL_law_835 (by decide) ?_
      refine V_aload_n (pc := 836) (i := 3) dL_law_836 rfl rfl ?_
      refine J_Sth (pc := 837) (bc := m) (bs := 6 * m) dL_law_837 cL_171 (L_deny_NSE (d := 90) (fun h0 => kC G b 80 h0 hb (by omega)) hb (by omega)) rfl (Nat.le_of_ble_eq_true rfl) rfl (by omega) (Nat.le_of_ble_eq_true rfl) (fun y1 => ?_)
      refine V_istore (pc := 840) dL_law_840 (by decide) rfl ?_
      refine V_aload_n (pc := 842) (i := 2) dL_law_842 rfl rfl ?_
      refine V_aload_n (pc := 843) (i := 0) dL_law_843 rfl rfl ?_
      refine V_iload (pc := 844) dL_law_844 rfl ?_
      refine V_iconst (pc := 846) (v := 1) dL_law_846 (by decide) ?_
      refine V_iadd (pc := 847) dL_law_847 ?_
      refine J_ld (pc := 848) (j := i + 1) dL_law_848 hq hs (nI_add i 1) (by omega) hL ?_
      refine V_aload_n (pc := 849) (i := 0) dL_law_849 rfl rfl ?_
      refine V_iload (pc := 850) dL_law_850 rfl ?_
      refine V_iconst (pc := 852) (v := 2) dL_law_852 (by decide) ?_
      refine V_iadd (pc := 853) dL_law_853 ?_
      refine J_ld (pc := 854) (j := i + 2) dL_law_854 hq hs (nI_add i 2) (by omega) hL ?_
      refine V_if_eq (pc := 855) 862 dL_law_855 rfl (fun _ => ?_) (fun q => absurd cz q)
      refine V_iconst (pc := 862) (v := 0) dL_law_862 (by decide) ?_
      refine J_M (pc := 863) dL_law_863 cL_174 (fun h0 => kM G (b + 68) 80 h0 (by omega) (by omega)) rfl (Nat.le_of_ble_eq_true rfl) rfl (by omega) (Nat.le_of_ble_eq_true rfl) (fun v1 T1 hp => ?_)
      obtain ⟨e1, e2, e3⟩ := hp
      subst e1
      refine V_istore (pc := 866) dL_law_866 (by decide) rfl ?_
      refine V_aload_n (pc := 868) (i := 2) dL_law_868 rfl rfl ?_
      refine J_M (pc := 869) dL_law_869 cL_139 (J_thrown e2) rfl (Nat.le_of_ble_eq_true rfl) rfl (by omega) (Nat.le_of_ble_eq_true rfl) (fun v2 T2 hp => ?_)
      obtain ⟨r1, r2⟩ := hp
      subst r1; subst r2
      refine V_iload (pc := 872) dL_law_872 rfl ?_
      refine V_icmp_eq (pc := 874) 879 dL_law_874 rfl (fun _ => ?_) (fun q => absurd rfl q)
      refine V_iload (pc := 879) dL_law_879 rfl ?_
      refine V_if_ne (pc := 881) 903 dL_law_881 rfl (fun _ => ?_) (fun q => absurd q (by decide))
      refine V_goto (pc := 903) 2780 dL_law_903 rfl ?_
      exact V_bud (by omega) (by omega) (nxt _ _ _ _ _ _ e3)
  · rcases pr_deny rel (xs (i + 1)) (v := 1) (Or.inr rfl) with ⟨v, S1, kC, kM⟩ | ⟨kC, kM⟩
    · refine V_aload_n (pc := 815) (i := 1) dL_law_815 rfl rfl ?_
      refine V_aload_n (pc := 816) (i := 0) dL_law_816 rfl rfl ?_
      refine V_iload (pc := 817) dL_law_817 rfl ?_
      refine V_iconst (pc := 819) (v := 1) dL_law_819 (by decide) ?_
      refine V_iadd (pc := 820) dL_law_820 ?_
      refine J_ld (pc := 821) (j := i + 1) dL_law_821 hq hs (nI_add i 1) (by omega) hL ?_
      refine V_aload_n (pc := 822) (i := 0) dL_law_822 rfl rfl ?_
      refine V_iload (pc := 823) dL_law_823 rfl ?_
      refine V_iconst (pc := 825) (v := 2) dL_law_825 (by decide) ?_
      refine V_iadd (pc := 826) dL_law_826 ?_
      refine J_ld (pc := 827) (j := i + 2) dL_law_827 hq hs (nI_add i 2) (by omega) hL ?_
      refine V_if_eq (pc := 828) 835 dL_law_828 rfl (fun q => absurd q cz) (fun _ => ?_)
      refine V_iconst (pc := 831) (v := 1) dL_law_831 (by decide) ?_
      refine V_goto (pc := 832) 836 dL_law_832 rfl ?_
      refine V_aload_n (pc := 836) (i := 3) dL_law_836 rfl rfl ?_
      refine J_S (pc := 837) dL_law_837 cL_171 (L_deny_ok (d := 90) (fun h0 => kC G b 80 h0 hb (by omega)) hb (by omega)) rfl (Nat.le_of_ble_eq_true rfl) rfl (by omega) (Nat.le_of_ble_eq_true rfl) ?_
      refine V_istore (pc := 840) dL_law_840 (by decide) rfl ?_
      refine V_aload_n (pc := 842) (i := 2) dL_law_842 rfl rfl ?_
      refine V_aload_n (pc := 843) (i := 0) dL_law_843 rfl rfl ?_
      refine V_iload (pc := 844) dL_law_844 rfl ?_
      refine V_iconst (pc := 846) (v := 1) dL_law_846 (by decide) ?_
      refine V_iadd (pc := 847) dL_law_847 ?_
      refine J_ld (pc := 848) (j := i + 1) dL_law_848 hq hs (nI_add i 1) (by omega) hL ?_
      refine V_aload_n (pc := 849) (i := 0) dL_law_849 rfl rfl ?_
      refine V_iload (pc := 850) dL_law_850 rfl ?_
      refine V_iconst (pc := 852) (v := 2) dL_law_852 (by decide) ?_
      refine V_iadd (pc := 853) dL_law_853 ?_
      refine J_ld (pc := 854) (j := i + 2) dL_law_854 hq hs (nI_add i 2) (by omega) hL ?_
      refine V_if_eq (pc := 855) 862 dL_law_855 rfl (fun q => absurd q cz) (fun _ => ?_)
      refine V_iconst (pc := 858) (v := 1) dL_law_858 (by decide) ?_
      refine V_goto (pc := 859) 863 dL_law_859 rfl ?_
      refine J_M (pc := 863) dL_law_863 cL_174 (fun h0 => kM G (b + 68) 80 h0 (by omega) (by omega)) rfl (Nat.le_of_ble_eq_true rfl) rfl (by omega) (Nat.le_of_ble_eq_true rfl) (fun v1 T1 hp => ?_)
      obtain ⟨e1, e2, e3⟩ := hp
      subst e1
      refine V_istore (pc := 866) dL_law_866 (by decide) rfl ?_
      refine V_aload_n (pc := 868) (i := 2) dL_law_868 rfl rfl ?_
      refine J_M (pc := 869) dL_law_869 cL_139 (J_thrown e2) rfl (Nat.le_of_ble_eq_true rfl) rfl (by omega) (Nat.le_of_ble_eq_true rfl) (fun v2 T2 hp => ?_)
      obtain ⟨r1, r2⟩ := hp
      subst r1; subst r2
      refine V_iload (pc := 872) dL_law_872 rfl ?_
      refine V_icmp_eq (pc := 874) 879 dL_law_874 rfl (fun _ => ?_) (fun q => absurd rfl q)
      refine V_iload (pc := 879) dL_law_879 rfl ?_
      refine V_if_ne (pc := 881) 903 dL_law_881 rfl (fun q => absurd rfl q) (fun _ => ?_)
      refine V_aload_n (pc := 884) (i := 3) dL_law_884 rfl rfl ?_
      refine V_iconst (pc := 885) (v := 0) dL_law_885 (by decide) ?_
      refine J_lald (pc := 886) dL_law_886 updL0 ?_
      refine V_iload (pc := 887) dL_law_887 rfl ?_
      refine V_if_eq (pc := 889) 896 dL_law_889 rfl (fun cv => ?_) (fun cv => ?_)
      · rw [if_pos cv]
        refine V_lconst (pc := 896) (v := 0) dL_law_896 (by decide) ?_
        refine V_lcmp (pc := 897) dL_law_897 ?_
        rw [cmp_0]
        refine V_if_eq (pc := 898) 903 dL_law_898 rfl (fun _ => ?_) (fun q => absurd rfl q)
        refine V_goto (pc := 903) 2780 dL_law_903 rfl ?_
        exact V_bud (by omega) (by omega) (nxt _ _ _ _ _ _ e3)
      · rw [if_neg cv]
        refine V_lconst (pc := 892) (v := 1) dL_law_892 (by decide) ?_
        refine V_goto (pc := 893) 897 dL_law_893 rfl ?_
        refine V_lcmp (pc := 897) dL_law_897 ?_
        rw [cmp_0]
        refine V_if_eq (pc := 898) 903 dL_law_898 rfl (fun _ => ?_) (fun q => absurd rfl q)
        refine V_goto (pc := 903) 2780 dL_law_903 rfl ?_
        exact V_bud (by omega) (by omega) (nxt _ _ _ _ _ _ e3)
    · refine V_aload_n (pc := 815) (i := 1) dL_law_815 rfl rfl ?_
      refine V_aload_n (pc := 816) (i := 0) dL_law_816 rfl rfl ?_
      refine V_iload (pc := 817) dL_law_817 rfl ?_
      refine V_iconst (pc := 819) (v := 1) dL_law_819 (by decide) ?_
      refine V_iadd (pc := 820) dL_law_820 ?_
      refine J_ld (pc := 821) (j := i + 1) dL_law_821 hq hs (nI_add i 1) (by omega) hL ?_
      refine V_aload_n (pc := 822) (i := 0) dL_law_822 rfl rfl ?_
      refine V_iload (pc := 823) dL_law_823 rfl ?_
      refine V_iconst (pc := 825) (v := 2) dL_law_825 (by decide) ?_
      refine V_iadd (pc := 826) dL_law_826 ?_
      refine J_ld (pc := 827) (j := i + 2) dL_law_827 hq hs (nI_add i 2) (by omega) hL ?_
      refine V_if_eq (pc := 828) 835 dL_law_828 rfl (fun q => absurd q cz) (fun _ => ?_)
      refine V_iconst (pc := 831) (v := 1) dL_law_831 (by decide) ?_
      refine V_goto (pc := 832) 836 dL_law_832 rfl ?_
      refine V_aload_n (pc := 836) (i := 3) dL_law_836 rfl rfl ?_
      refine J_Sth (pc := 837) (bc := m) (bs := 6 * m) dL_law_837 cL_171 (L_deny_NSE (d := 90) (fun h0 => kC G b 80 h0 hb (by omega)) hb (by omega)) rfl (Nat.le_of_ble_eq_true rfl) rfl (by omega) (Nat.le_of_ble_eq_true rfl) (fun y1 => ?_)
      refine V_istore (pc := 840) dL_law_840 (by decide) rfl ?_
      refine V_aload_n (pc := 842) (i := 2) dL_law_842 rfl rfl ?_
      refine V_aload_n (pc := 843) (i := 0) dL_law_843 rfl rfl ?_
      refine V_iload (pc := 844) dL_law_844 rfl ?_
      refine V_iconst (pc := 846) (v := 1) dL_law_846 (by decide) ?_
      refine V_iadd (pc := 847) dL_law_847 ?_
      refine J_ld (pc := 848) (j := i + 1) dL_law_848 hq hs (nI_add i 1) (by omega) hL ?_
      refine V_aload_n (pc := 849) (i := 0) dL_law_849 rfl rfl ?_
      refine V_iload (pc := 850) dL_law_850 rfl ?_
      refine V_iconst (pc := 852) (v := 2) dL_law_852 (by decide) ?_
      refine V_iadd (pc := 853) dL_law_853 ?_
      refine J_ld (pc := 854) (j := i + 2) dL_law_854 hq hs (nI_add i 2) (by omega) hL ?_
      refine V_if_eq (pc := 855) 862 dL_law_855 rfl (fun q => absurd q cz) (fun _ => ?_)
      refine V_iconst (pc := 858) (v := 1) dL_law_858 (by decide) ?_
      refine V_goto (pc := 859) 863 dL_law_859 rfl ?_
      refine J_M (pc := 863) dL_law_863 cL_174 (fun h0 => kM G (b + 68) 80 h0 (by omega) (by omega)) rfl (Nat.le_of_ble_eq_true rfl) rfl (by omega) (Nat.le_of_ble_eq_true rfl) (fun v1 T1 hp => ?_)
      obtain ⟨e1, e2, e3⟩ := hp
      subst e1
      refine V_istore (pc := 866) dL_law_866 (by decide) rfl ?_
      refine V_aload_n (pc := 868) (i := 2) dL_law_868 rfl rfl ?_
      refine J_M (pc := 869) dL_law_869 cL_139 (J_thrown e2) rfl (Nat.le_of_ble_eq_true rfl) rfl (by omega) (Nat.le_of_ble_eq_true rfl) (fun v2 T2 hp => ?_)
      obtain ⟨r1, r2⟩ := hp
      subst r1; subst r2
      refine V_iload (pc := 872) dL_law_872 rfl ?_
      refine V_icmp_eq (pc := 874) 879 dL_law_874 rfl (fun _ => ?_) (fun q => absurd rfl q)
      refine V_iload (pc := 879) dL_law_879 rfl ?_
      refine V_if_ne (pc := 881) 903 dL_law_881 rfl (fun _ => ?_) (fun q => absurd q (by decide))
      refine V_goto (pc := 903) 2780 dL_law_903 rfl ?_
      exact V_bud (by omega) (by omega) (nxt _ _ _ _ _ _ e3)
theorem law_bridge {i m q L : Nat} {xs : Nat → Int32} (hq : gV G 100 = q) (hs : gV G 101 = L ∧ ∀ j, nI (gV G (1000 + j)) = xs j) (hL : L ≤ 3072) (hi : i + 6 ≤ L) (hb : gB G ≤ b) (hd : 100 ≤ d) (rel : REL S T) (nxt : ∀ S' T' fo' y' l5 l6, REL S' T' → V G mL_law d m (6 * m) Q 2780 [some (.ref q), some (.ref (b + 0)), some (.ref (b + 68 + 0)), some (.ref (b + 68 + 35)), some (.int (nI i)), l5, l6] [] (jH G b S' T' fo' hS y')) : V G mL_law d (m + 1) (6 * m + 6) Q 906 [some (.ref q), some (.ref (b + 0)), some (.ref (b + 68 + 0)), some (.ref (b + 68 + 35)), some (.int (nI i)), none, none] [] (jH G b S T fo hS y) := by
  obtain ⟨v, S1, kC, kM⟩ := pr_bridge rel (xs (i + 1))
  refine V_aload_n (pc := 906) (i := 1) dL_law_906 rfl rfl ?_
  refine V_aload_n (pc := 907) (i := 0) dL_law_907 rfl rfl ?_
  refine V_iload (pc := 908) dL_law_908 rfl ?_
  refine V_iconst (pc := 910) (v := 1) dL_law_910 (by decide) ?_
  refine V_iadd (pc := 911) dL_law_911 ?_
  refine J_ld (pc := 912) (j := i + 1) dL_law_912 hq hs (nI_add i 1) (by omega) hL ?_
  refine J_C (pc := 913) dL_law_913 cL_175 (fun h0 => kC G b 80 h0 hb (by omega)) rfl (Nat.le_of_ble_eq_true rfl) rfl (by omega) (Nat.le_of_ble_eq_true rfl) ?_
  refine V_aload_n (pc := 916) (i := 2) dL_law_916 rfl rfl ?_
  refine V_aload_n (pc := 917) (i := 0) dL_law_917 rfl rfl ?_
  refine V_iload (pc := 918) dL_law_918 rfl ?_
  refine V_iconst (pc := 920) (v := 1) dL_law_920 (by decide) ?_
  refine V_iadd (pc := 921) dL_law_921 ?_
  refine J_ld (pc := 922) (j := i + 1) dL_law_922 hq hs (nI_add i 1) (by omega) hL ?_
  refine J_M (pc := 923) dL_law_923 cL_178 (fun h0 => kM G (b + 68) 80 h0 (by omega) (by omega)) rfl (Nat.le_of_ble_eq_true rfl) rfl (by omega) (Nat.le_of_ble_eq_true rfl) (fun v1 T1 hp => ?_)
  obtain ⟨e1, e2, e3⟩ := hp
  subst e1
  refine V_icmp_eq (pc := 926) 2780 dL_law_926 rfl (fun _ => ?_) (fun q => absurd rfl q)
  exact V_bud (by omega) (by omega) (nxt _ _ _ _ _ _ e3)
theorem law_undo {i m q L : Nat} {xs : Nat → Int32} (hq : gV G 100 = q) (hs : gV G 101 = L ∧ ∀ j, nI (gV G (1000 + j)) = xs j) (hL : L ≤ 3072) (hi : i + 6 ≤ L) (hb : gB G ≤ b) (hd : 100 ≤ d) (rel : REL S T) (nxt : ∀ S' T' fo' y' l5 l6, REL S' T' → V G mL_law d m (6 * m) Q 2780 [some (.ref q), some (.ref (b + 0)), some (.ref (b + 68 + 0)), some (.ref (b + 68 + 35)), some (.int (nI i)), l5, l6] [] (jH G b S' T' fo' hS y')) : V G mL_law d (m + 1) (6 * m + 6) Q 931 [some (.ref q), some (.ref (b + 0)), some (.ref (b + 68 + 0)), some (.ref (b + 68 + 35)), some (.int (nI i)), none, none] [] (jH G b S T fo hS y) := by
  obtain ⟨v, S1, kC, kM⟩ := pr_undo rel
  refine V_aload_n (pc := 931) (i := 1) dL_law_931 rfl rfl ?_
  refine J_C (pc := 932) dL_law_932 cL_179 (fun h0 => kC G b 80 h0 hb (by omega)) rfl (Nat.le_of_ble_eq_true rfl) rfl (by omega) (Nat.le_of_ble_eq_true rfl) ?_
  refine V_aload_n (pc := 935) (i := 2) dL_law_935 rfl rfl ?_
  refine J_M (pc := 936) dL_law_936 cL_182 (fun h0 => kM G (b + 68) 80 h0 (by omega) (by omega)) rfl (Nat.le_of_ble_eq_true rfl) rfl (by omega) (Nat.le_of_ble_eq_true rfl) (fun v1 T1 hp => ?_)
  obtain ⟨e1, e2, e3⟩ := hp
  subst e1
  refine V_icmp_eq (pc := 939) 2780 dL_law_939 rfl (fun _ => ?_) (fun q => absurd rfl q)
  exact V_bud (by omega) (by omega) (nxt _ _ _ _ _ _ e3)
theorem law_crossing {i m q L : Nat} {xs : Nat → Int32} (hq : gV G 100 = q) (hs : gV G 101 = L ∧ ∀ j, nI (gV G (1000 + j)) = xs j) (hL : L ≤ 3072) (hi : i + 6 ≤ L) (hb : gB G ≤ b) (hd : 100 ≤ d) (rel : REL S T) (nxt : ∀ S' T' fo' y' l5 l6, REL S' T' → V G mL_law d m (6 * m) Q 2780 [some (.ref q), some (.ref (b + 0)), some (.ref (b + 68 + 0)), some (.ref (b + 68 + 35)), some (.int (nI i)), l5, l6] [] (jH G b S' T' fo' hS y')) : V G mL_law d (m + 1) (6 * m + 6) Q 944 [some (.ref q), some (.ref (b + 0)), some (.ref (b + 68 + 0)), some (.ref (b + 68 + 35)), some (.int (nI i)), none, none] [] (jH G b S T fo hS y) := by
  rcases pr_crossing rel (xs (i + 1)) with ⟨v, S1, kC, kM⟩ | ⟨kC, kM⟩
  · refine V_aload_n (pc := 944) (i := 1) dL_law_944 rfl rfl ?_
    refine V_aload_n (pc := 945) (i := 0) dL_law_945 rfl rfl ?_
    refine V_iload (pc := 946) dL_law_946 rfl ?_
    refine V_iconst (pc := 948) (v := 1) dL_law_948 (by decide) ?_
    refine V_iadd (pc := 949) dL_law_949 ?_
    refine J_ld (pc := 950) (j := i + 1) dL_law_950 hq hs (nI_add i 1) (by omega) hL ?_
    refine V_aload_n (pc := 951) (i := 3) dL_law_951 rfl rfl ?_
    refine J_S (pc := 952) dL_law_952 cL_183 (L_crossing_ok (d := 90) (fun h0 => kC G b 80 h0 hb (by omega)) hb (by omega)) rfl (Nat.le_of_ble_eq_true rfl) rfl (by omega) (Nat.le_of_ble_eq_true rfl) ?_
    refine V_istore (pc := 955) dL_law_955 (by decide) rfl ?_
    refine V_aload_n (pc := 957) (i := 2) dL_law_957 rfl rfl ?_
    refine V_aload_n (pc := 958) (i := 0) dL_law_958 rfl rfl ?_
    refine V_iload (pc := 959) dL_law_959 rfl ?_
    refine V_iconst (pc := 961) (v := 1) dL_law_961 (by decide) ?_
    refine V_iadd (pc := 962) dL_law_962 ?_
    refine J_ld (pc := 963) (j := i + 1) dL_law_963 hq hs (nI_add i 1) (by omega) hL ?_
    refine J_M (pc := 964) dL_law_964 cL_185 (fun h0 => kM G (b + 68) 80 h0 (by omega) (by omega)) rfl (Nat.le_of_ble_eq_true rfl) rfl (by omega) (Nat.le_of_ble_eq_true rfl) (fun v1 T1 hp => ?_)
    obtain ⟨e1, e2, e3⟩ := hp
    subst e1
    refine V_istore (pc := 967) dL_law_967 (by decide) rfl ?_
    refine V_aload_n (pc := 969) (i := 2) dL_law_969 rfl rfl ?_
    refine J_M (pc := 970) dL_law_970 cL_139 (J_thrown e2) rfl (Nat.le_of_ble_eq_true rfl) rfl (by omega) (Nat.le_of_ble_eq_true rfl) (fun v2 T2 hp => ?_)
    obtain ⟨r1, r2⟩ := hp
    subst r1; subst r2
    refine V_iload (pc := 973) dL_law_973 rfl ?_
    refine V_icmp_eq (pc := 975) 980 dL_law_975 rfl (fun _ => ?_) (fun q => absurd rfl q)
    refine V_iload (pc := 980) dL_law_980 rfl ?_
    refine V_if_ne (pc := 982) 997 dL_law_982 rfl (fun q => absurd rfl q) (fun _ => ?_)
    refine V_aload_n (pc := 985) (i := 3) dL_law_985 rfl rfl ?_
    refine V_iconst (pc := 986) (v := 0) dL_law_986 (by decide) ?_
    refine J_lald (pc := 987) dL_law_987 updL0 ?_
    refine V_iload (pc := 988) dL_law_988 rfl ?_
    refine V_i2l (pc := 990) dL_law_990 rfl ?_
    refine V_lcmp (pc := 991) dL_law_991 ?_
    rw [cmp_0]
    refine V_if_eq (pc := 992) 997 dL_law_992 rfl (fun _ => ?_) (fun q => absurd rfl q)
    refine V_goto (pc := 997) 2780 dL_law_997 rfl ?_
    exact V_bud (by omega) (by omega) (nxt _ _ _ _ _ _ e3)
  · refine V_aload_n (pc := 944) (i := 1) dL_law_944 rfl rfl ?_
    refine V_aload_n (pc := 945) (i := 0) dL_law_945 rfl rfl ?_
    refine V_iload (pc := 946) dL_law_946 rfl ?_
    refine V_iconst (pc := 948) (v := 1) dL_law_948 (by decide) ?_
    refine V_iadd (pc := 949) dL_law_949 ?_
    refine J_ld (pc := 950) (j := i + 1) dL_law_950 hq hs (nI_add i 1) (by omega) hL ?_
    refine V_aload_n (pc := 951) (i := 3) dL_law_951 rfl rfl ?_
    refine J_Sth (pc := 952) (bc := m) (bs := 6 * m) dL_law_952 cL_183 (L_crossing_IAE (d := 90) (fun h0 => kC G b 80 h0 hb (by omega)) hb (by omega)) rfl (Nat.le_of_ble_eq_true rfl) rfl (by omega) (Nat.le_of_ble_eq_true rfl) (fun y1 => ?_)
    refine V_istore (pc := 955) dL_law_955 (by decide) rfl ?_
    refine V_aload_n (pc := 957) (i := 2) dL_law_957 rfl rfl ?_
    refine V_aload_n (pc := 958) (i := 0) dL_law_958 rfl rfl ?_
    refine V_iload (pc := 959) dL_law_959 rfl ?_
    refine V_iconst (pc := 961) (v := 1) dL_law_961 (by decide) ?_
    refine V_iadd (pc := 962) dL_law_962 ?_
    refine J_ld (pc := 963) (j := i + 1) dL_law_963 hq hs (nI_add i 1) (by omega) hL ?_
    refine J_M (pc := 964) dL_law_964 cL_185 (fun h0 => kM G (b + 68) 80 h0 (by omega) (by omega)) rfl (Nat.le_of_ble_eq_true rfl) rfl (by omega) (Nat.le_of_ble_eq_true rfl) (fun v1 T1 hp => ?_)
    obtain ⟨e1, e2, e3⟩ := hp
    subst e1
    refine V_istore (pc := 967) dL_law_967 (by decide) rfl ?_
    refine V_aload_n (pc := 969) (i := 2) dL_law_969 rfl rfl ?_
    refine J_M (pc := 970) dL_law_970 cL_139 (J_thrown e2) rfl (Nat.le_of_ble_eq_true rfl) rfl (by omega) (Nat.le_of_ble_eq_true rfl) (fun v2 T2 hp => ?_)
    obtain ⟨r1, r2⟩ := hp
    subst r1; subst r2
    refine V_iload (pc := 973) dL_law_973 rfl ?_
    refine V_icmp_eq (pc := 975) 980 dL_law_975 rfl (fun _ => ?_) (fun q => absurd rfl q)
    refine V_iload (pc := 980) dL_law_980 rfl ?_
    refine V_if_ne (pc := 982) 997 dL_law_982 rfl (fun _ => ?_) (fun q => absurd q (by decide))
    refine V_goto (pc := 997) 2780 dL_law_997 rfl ?_
    exact V_bud (by omega) (by omega) (nxt _ _ _ _ _ _ e3)
theorem law_then {i m q L : Nat} {xs : Nat → Int32} (hq : gV G 100 = q) (hs : gV G 101 = L ∧ ∀ j, nI (gV G (1000 + j)) = xs j) (hL : L ≤ 3072) (hi : i + 6 ≤ L) (hb : gB G ≤ b) (hd : 100 ≤ d) (rel : REL S T) (nxt : ∀ S' T' fo' y' l5 l6, REL S' T' → V G mL_law d m (6 * m) Q 2780 [some (.ref q), some (.ref (b + 0)), some (.ref (b + 68 + 0)), some (.ref (b + 68 + 35)), some (.int (nI i)), l5, l6] [] (jH G b S' T' fo' hS y')) : V G mL_law d (m + 1) (6 * m + 6) Q 1000 [some (.ref q), some (.ref (b + 0)), some (.ref (b + 68 + 0)), some (.ref (b + 68 + 35)), some (.int (nI i)), none, none] [] (jH G b S T fo hS y) := by
  rcases pr_then rel (xs (i + 1)) (xs (i + 2)) (xs (i + 3)) with ⟨v, S1, kC, kM⟩ | ⟨kC, kM⟩ | ⟨kC, kM⟩
  · refine V_aload_n (pc := 1000) (i := 1) dL_law_1000 rfl rfl ?_
    refine V_aload_n (pc := 1001) (i := 0) dL_law_1001 rfl rfl ?_
    refine V_iload (pc := 1002) dL_law_1002 rfl ?_
    refine V_iconst (pc := 1004) (v := 1) dL_law_1004 (by decide) ?_
    refine V_iadd (pc := 1005) dL_law_1005 ?_
    refine J_ld (pc := 1006) (j := i + 1) dL_law_1006 hq hs (nI_add i 1) (by omega) hL ?_
    refine V_aload_n (pc := 1007) (i := 0) dL_law_1007 rfl rfl ?_
    refine V_iload (pc := 1008) dL_law_1008 rfl ?_
    refine V_iconst (pc := 1010) (v := 2) dL_law_1010 (by decide) ?_
    refine V_iadd (pc := 1011) dL_law_1011 ?_
    refine J_ld (pc := 1012) (j := i + 2) dL_law_1012 hq hs (nI_add i 2) (by omega) hL ?_
    refine V_aload_n (pc := 1013) (i := 0) dL_law_1013 rfl rfl ?_
    refine V_iload (pc := 1014) dL_law_1014 rfl ?_
    refine V_iconst (pc := 1016) (v := 3) dL_law_1016 (by decide) ?_
    refine V_iadd (pc := 1017) dL_law_1017 ?_
    refine J_ld (pc := 1018) (j := i + 3) dL_law_1018 hq hs (nI_add i 3) (by omega) hL ?_
    refine V_aload_n (pc := 1019) (i := 3) dL_law_1019 rfl rfl ?_
    refine J_S (pc := 1020) dL_law_1020 cL_186 (L_then_ok (d := 90) (fun h0 => kC G b 80 h0 hb (by omega)) hb (by omega)) rfl (Nat.le_of_ble_eq_true rfl) rfl (by omega) (Nat.le_of_ble_eq_true rfl) ?_
    refine V_istore (pc := 1023) dL_law_1023 (by decide) rfl ?_
    refine V_aload_n (pc := 1025) (i := 2) dL_law_1025 rfl rfl ?_
    refine V_aload_n (pc := 1026) (i := 0) dL_law_1026 rfl rfl ?_
    refine V_iload (pc := 1027) dL_law_1027 rfl ?_
    refine V_iconst (pc := 1029) (v := 1) dL_law_1029 (by decide) ?_
    refine V_iadd (pc := 1030) dL_law_1030 ?_
    refine J_ld (pc := 1031) (j := i + 1) dL_law_1031 hq hs (nI_add i 1) (by omega) hL ?_
    refine V_aload_n (pc := 1032) (i := 0) dL_law_1032 rfl rfl ?_
    refine V_iload (pc := 1033) dL_law_1033 rfl ?_
    refine V_iconst (pc := 1035) (v := 2) dL_law_1035 (by decide) ?_
    refine V_iadd (pc := 1036) dL_law_1036 ?_
    refine J_ld (pc := 1037) (j := i + 2) dL_law_1037 hq hs (nI_add i 2) (by omega) hL ?_
    refine V_aload_n (pc := 1038) (i := 0) dL_law_1038 rfl rfl ?_
    refine V_iload (pc := 1039) dL_law_1039 rfl ?_
    refine V_iconst (pc := 1041) (v := 3) dL_law_1041 (by decide) ?_
    refine V_iadd (pc := 1042) dL_law_1042 ?_
    refine J_ld (pc := 1043) (j := i + 3) dL_law_1043 hq hs (nI_add i 3) (by omega) hL ?_
    refine J_M (pc := 1044) dL_law_1044 cL_189 (fun h0 => kM G (b + 68) 80 h0 (by omega) (by omega)) rfl (Nat.le_of_ble_eq_true rfl) rfl (by omega) (Nat.le_of_ble_eq_true rfl) (fun v1 T1 hp => ?_)
    obtain ⟨e1, e2, e3⟩ := hp
    subst e1
    refine V_istore (pc := 1047) dL_law_1047 (by decide) rfl ?_
    refine V_aload_n (pc := 1049) (i := 2) dL_law_1049 rfl rfl ?_
    refine J_M (pc := 1050) dL_law_1050 cL_139 (J_thrown e2) rfl (Nat.le_of_ble_eq_true rfl) rfl (by omega) (Nat.le_of_ble_eq_true rfl) (fun v2 T2 hp => ?_)
    obtain ⟨r1, r2⟩ := hp
    subst r1; subst r2
    refine V_iload (pc := 1053) dL_law_1053 rfl ?_
    refine V_icmp_eq (pc := 1055) 1060 dL_law_1055 rfl (fun _ => ?_) (fun q => absurd rfl q)
    refine V_iload (pc := 1060) dL_law_1060 rfl ?_
    refine V_if_ne (pc := 1062) 1077 dL_law_1062 rfl (fun q => absurd rfl q) (fun _ => ?_)
    refine V_aload_n (pc := 1065) (i := 3) dL_law_1065 rfl rfl ?_
    refine V_iconst (pc := 1066) (v := 0) dL_law_1066 (by decide) ?_
    refine J_lald (pc := 1067) dL_law_1067 updL0 ?_
    refine V_iload (pc := 1068) dL_law_1068 rfl ?_
    refine V_i2l (pc := 1070) dL_law_1070 rfl ?_
    refine V_lcmp (pc := 1071) dL_law_1071 ?_
    rw [cmp_0]
    refine V_if_eq (pc := 1072) 1077 dL_law_1072 rfl (fun _ => ?_) (fun q => absurd rfl q)
    refine V_goto (pc := 1077) 2780 dL_law_1077 rfl ?_
    exact V_bud (by omega) (by omega) (nxt _ _ _ _ _ _ e3)
  · refine V_aload_n (pc := 1000) (i := 1) dL_law_1000 rfl rfl ?_
    refine V_aload_n (pc := 1001) (i := 0) dL_law_1001 rfl rfl ?_
    refine V_iload (pc := 1002) dL_law_1002 rfl ?_
    refine V_iconst (pc := 1004) (v := 1) dL_law_1004 (by decide) ?_
    refine V_iadd (pc := 1005) dL_law_1005 ?_
    refine J_ld (pc := 1006) (j := i + 1) dL_law_1006 hq hs (nI_add i 1) (by omega) hL ?_
    refine V_aload_n (pc := 1007) (i := 0) dL_law_1007 rfl rfl ?_
    refine V_iload (pc := 1008) dL_law_1008 rfl ?_
    refine V_iconst (pc := 1010) (v := 2) dL_law_1010 (by decide) ?_
    refine V_iadd (pc := 1011) dL_law_1011 ?_
    refine J_ld (pc := 1012) (j := i + 2) dL_law_1012 hq hs (nI_add i 2) (by omega) hL ?_
    refine V_aload_n (pc := 1013) (i := 0) dL_law_1013 rfl rfl ?_
    refine V_iload (pc := 1014) dL_law_1014 rfl ?_
    refine V_iconst (pc := 1016) (v := 3) dL_law_1016 (by decide) ?_
    refine V_iadd (pc := 1017) dL_law_1017 ?_
    refine J_ld (pc := 1018) (j := i + 3) dL_law_1018 hq hs (nI_add i 3) (by omega) hL ?_
    refine V_aload_n (pc := 1019) (i := 3) dL_law_1019 rfl rfl ?_
    refine J_Sth (pc := 1020) (bc := m) (bs := 6 * m) dL_law_1020 cL_186 (L_then_NSE (d := 90) (fun h0 => kC G b 80 h0 hb (by omega)) hb (by omega)) rfl (Nat.le_of_ble_eq_true rfl) rfl (by omega) (Nat.le_of_ble_eq_true rfl) (fun y1 => ?_)
    refine V_istore (pc := 1023) dL_law_1023 (by decide) rfl ?_
    refine V_aload_n (pc := 1025) (i := 2) dL_law_1025 rfl rfl ?_
    refine V_aload_n (pc := 1026) (i := 0) dL_law_1026 rfl rfl ?_
    refine V_iload (pc := 1027) dL_law_1027 rfl ?_
    refine V_iconst (pc := 1029) (v := 1) dL_law_1029 (by decide) ?_
    refine V_iadd (pc := 1030) dL_law_1030 ?_
    refine J_ld (pc := 1031) (j := i + 1) dL_law_1031 hq hs (nI_add i 1) (by omega) hL ?_
    refine V_aload_n (pc := 1032) (i := 0) dL_law_1032 rfl rfl ?_
    refine V_iload (pc := 1033) dL_law_1033 rfl ?_
    refine V_iconst (pc := 1035) (v := 2) dL_law_1035 (by decide) ?_
    refine V_iadd (pc := 1036) dL_law_1036 ?_
    refine J_ld (pc := 1037) (j := i + 2) dL_law_1037 hq hs (nI_add i 2) (by omega) hL ?_
    refine V_aload_n (pc := 1038) (i := 0) dL_law_1038 rfl rfl ?_
    refine V_iload (pc := 1039) dL_law_1039 rfl ?_
    refine V_iconst (pc := 1041) (v := 3) dL_law_1041 (by decide) ?_
    refine V_iadd (pc := 1042) dL_law_1042 ?_
    refine J_ld (pc := 1043) (j := i + 3) dL_law_1043 hq hs (nI_add i 3) (by omega) hL ?_
    refine J_M (pc := 1044) dL_law_1044 cL_189 (fun h0 => kM G (b + 68) 80 h0 (by omega) (by omega)) rfl (Nat.le_of_ble_eq_true rfl) rfl (by omega) (Nat.le_of_ble_eq_true rfl) (fun v1 T1 hp => ?_)
    obtain ⟨e1, e2, e3⟩ := hp
    subst e1
    refine V_istore (pc := 1047) dL_law_1047 (by decide) rfl ?_
    refine V_aload_n (pc := 1049) (i := 2) dL_law_1049 rfl rfl ?_
    refine J_M (pc := 1050) dL_law_1050 cL_139 (J_thrown e2) rfl (Nat.le_of_ble_eq_true rfl) rfl (by omega) (Nat.le_of_ble_eq_true rfl) (fun v2 T2 hp => ?_)
    obtain ⟨r1, r2⟩ := hp
    subst r1; subst r2
    refine V_iload (pc := 1053) dL_law_1053 rfl ?_
    refine V_icmp_eq (pc := 1055) 1060 dL_law_1055 rfl (fun _ => ?_) (fun q => absurd rfl q)
    refine V_iload (pc := 1060) dL_law_1060 rfl ?_
    refine V_if_ne (pc := 1062) 1077 dL_law_1062 rfl (fun _ => ?_) (fun q => absurd q (by decide))
    refine V_goto (pc := 1077) 2780 dL_law_1077 rfl ?_
    exact V_bud (by omega) (by omega) (nxt _ _ _ _ _ _ e3)
  · refine V_aload_n (pc := 1000) (i := 1) dL_law_1000 rfl rfl ?_
    refine V_aload_n (pc := 1001) (i := 0) dL_law_1001 rfl rfl ?_
    refine V_iload (pc := 1002) dL_law_1002 rfl ?_
    refine V_iconst (pc := 1004) (v := 1) dL_law_1004 (by decide) ?_
    refine V_iadd (pc := 1005) dL_law_1005 ?_
    refine J_ld (pc := 1006) (j := i + 1) dL_law_1006 hq hs (nI_add i 1) (by omega) hL ?_
    refine V_aload_n (pc := 1007) (i := 0) dL_law_1007 rfl rfl ?_
    refine V_iload (pc := 1008) dL_law_1008 rfl ?_
    refine V_iconst (pc := 1010) (v := 2) dL_law_1010 (by decide) ?_
    refine V_iadd (pc := 1011) dL_law_1011 ?_
    refine J_ld (pc := 1012) (j := i + 2) dL_law_1012 hq hs (nI_add i 2) (by omega) hL ?_
    refine V_aload_n (pc := 1013) (i := 0) dL_law_1013 rfl rfl ?_
    refine V_iload (pc := 1014) dL_law_1014 rfl ?_
    refine V_iconst (pc := 1016) (v := 3) dL_law_1016 (by decide) ?_
    refine V_iadd (pc := 1017) dL_law_1017 ?_
    refine J_ld (pc := 1018) (j := i + 3) dL_law_1018 hq hs (nI_add i 3) (by omega) hL ?_
    refine V_aload_n (pc := 1019) (i := 3) dL_law_1019 rfl rfl ?_
    refine J_Sth (pc := 1020) (bc := m) (bs := 6 * m) dL_law_1020 cL_186 (L_then_IAE (d := 90) (fun h0 => kC G b 80 h0 hb (by omega)) hb (by omega)) rfl (Nat.le_of_ble_eq_true rfl) rfl (by omega) (Nat.le_of_ble_eq_true rfl) (fun y1 => ?_)
    refine V_istore (pc := 1023) dL_law_1023 (by decide) rfl ?_
    refine V_aload_n (pc := 1025) (i := 2) dL_law_1025 rfl rfl ?_
    refine V_aload_n (pc := 1026) (i := 0) dL_law_1026 rfl rfl ?_
    refine V_iload (pc := 1027) dL_law_1027 rfl ?_
    refine V_iconst (pc := 1029) (v := 1) dL_law_1029 (by decide) ?_
    refine V_iadd (pc := 1030) dL_law_1030 ?_
    refine J_ld (pc := 1031) (j := i + 1) dL_law_1031 hq hs (nI_add i 1) (by omega) hL ?_
    refine V_aload_n (pc := 1032) (i := 0) dL_law_1032 rfl rfl ?_
    refine V_iload (pc := 1033) dL_law_1033 rfl ?_
    refine V_iconst (pc := 1035) (v := 2) dL_law_1035 (by decide) ?_
    refine V_iadd (pc := 1036) dL_law_1036 ?_
    refine J_ld (pc := 1037) (j := i + 2) dL_law_1037 hq hs (nI_add i 2) (by omega) hL ?_
    refine V_aload_n (pc := 1038) (i := 0) dL_law_1038 rfl rfl ?_
    refine V_iload (pc := 1039) dL_law_1039 rfl ?_
    refine V_iconst (pc := 1041) (v := 3) dL_law_1041 (by decide) ?_
    refine V_iadd (pc := 1042) dL_law_1042 ?_
    refine J_ld (pc := 1043) (j := i + 3) dL_law_1043 hq hs (nI_add i 3) (by omega) hL ?_
    refine J_M (pc := 1044) dL_law_1044 cL_189 (fun h0 => kM G (b + 68) 80 h0 (by omega) (by omega)) rfl (Nat.le_of_ble_eq_true rfl) rfl (by omega) (Nat.le_of_ble_eq_true rfl) (fun v1 T1 hp => ?_)
    obtain ⟨e1, e2, e3⟩ := hp
    subst e1
    refine V_istore (pc := 1047) dL_law_1047 (by decide) rfl ?_
    refine V_aload_n (pc := 1049) (i := 2) dL_law_1049 rfl rfl ?_
    refine J_M (pc := 1050) dL_law_1050 cL_139 (J_thrown e2) rfl (Nat.le_of_ble_eq_true rfl) rfl (by omega) (Nat.le_of_ble_eq_true rfl) (fun v2 T2 hp => ?_)
    obtain ⟨r1, r2⟩ := hp
    subst r1; subst r2
    refine V_iload (pc := 1053) dL_law_1053 rfl ?_
    refine V_icmp_eq (pc := 1055) 1060 dL_law_1055 rfl (fun _ => ?_) (fun q => absurd rfl q)
    refine V_iload (pc := 1060) dL_law_1060 rfl ?_
    refine V_if_ne (pc := 1062) 1077 dL_law_1062 rfl (fun _ => ?_) (fun q => absurd q (by decide))
    refine V_goto (pc := 1077) 2780 dL_law_1077 rfl ?_
    exact V_bud (by omega) (by omega) (nxt _ _ _ _ _ _ e3)
end J2

/-! THE LAW'S LOOP -/
abbrev kL_law : Mth := (yL_law, cL_law, 4, some .boolean)
def jL (g : Wo) (L : Nat) (xs : Nat → Int32) : Jd := (room_1, 60, 1634, (fun args s => args = #[Value.ref (g.2.2.1 200)] ∧ va_X (g.2.2.1 200) L xs s s.heap ∧ g.2.2.1 200 < s.heap.size ∧ ∀ q, inA g q → s.heap.size ≤ q), fun below args s => lw_Z below args s)
theorem CRL {g : Wo} {L : Nat} {xs : Nat → Int32} {y : Mth} {d : Nat} (hd : d ≤ 20) (hy : y.2.2.1 ≤ 45) : CR (jL g L xs).1 y d (jL g L xs).2.1 (jL g L xs).2.2.1 := by
  refine ⟨⟨?_, ?_⟩, Nat.le_of_ble_eq_true rfl, Nat.le_of_ble_eq_true rfl⟩
  · show d + 1 ≤ 2048
    omega
  · show 8 + (y.2.2.1 + 11) + 64 * d ≤ 84000
    omega
theorem v_scl {g : Wo} {L : Nat} {xs : Nat → Int32} {pc : Nat} {ls : List (Option Value)} {st : List Value} {M : Mem} {i : Int32} (hi : inb i L = true) (hd : decode kL_law.2.1 pc = .ok (.iaload, 1)) (n : V g kL_law (jL g L xs) (pc + 1) ls (.int (xs (ix i)) :: st) M) : V g kL_law (jL g L xs) pc ls (.int i :: .ref 200 :: st) M := by
  intro p e s m args below meth c H locs LS C h2 h3 h4 h5
  obtain ⟨q1, q2, q3, q4⟩ := id h2
  exact va_sld C.1 C.2.1 q2 q3 (fun z => absurd (q4 _ z) (Nat.not_le.mpr q3)) h3 (inb_in hi) hd (n p e s m args below meth c H locs LS C h2 h3 h4 h5)
theorem v_scn {g : Wo} {L : Nat} {xs : Nat → Int32} {pc : Nat} {ls : List (Option Value)} {st : List Value} {M : Mem} (hd : decode kL_law.2.1 pc = .ok (.arraylength, 1)) (n : V g kL_law (jL g L xs) (pc + 1) ls (.int (Int32.ofNat L) :: st) M) : V g kL_law (jL g L xs) pc ls (.ref 200 :: st) M := by
  intro p e s m args below meth c H locs LS C h2 h3 h4 h5
  obtain ⟨q1, q2, q3, q4⟩ := id h2
  exact va_slen C.1 C.2.1 q2 q3 (fun z => absurd (q4 _ z) (Nat.not_le.mpr q3)) h3 hd (n p e s m args below meth c H locs LS C h2 h3 h4 h5)
theorem v_lawret {g : Wo} {L : Nat} {xs : Nat → Int32} {pc : Nat} {ls : List (Option Value)} {M : Mem} (hd : decode kL_law.2.1 pc = .ok (.ireturn, 1)) : V g kL_law (jL g L xs) pc ls [.int 1] M := by
  intro p e s m args below meth c H locs LS C h2 h3 h4 h5
  obtain ⟨rfl, q2, q3, q4⟩ := id h2
  refine va_forget (fun q hq => q4 _ (h3.2.2 q hq)) ?_
  refine W.widen (k := 600000) (n := 7302250) (Nat.le_of_ble_eq_true rfl) (Nat.le_of_ble_eq_true rfl) ?_
  exact lw_ret C.1 C.2.1 C.2.2.1 C.2.2.2.2.2.2.1 hd
theorem lg_same (x : Int64) : lg_cmp x x = 0 := by
  unfold lg_cmp
  rw [if_neg (by intro h; exact absurd h (Int64.lt_irrefl)), if_pos rfl]
set_option maxRecDepth 100000 in
set_option maxHeartbeats 4000000 in
theorem law_0 {g : Wo} {L : Nat} {xs : Nat → Int32} {t : Nat} {x : Int32} {M : Mem} (ht : t < 512) (hI : Inv t M) (hi1 : inb (x + (1 : Int32)) L = true) (hi2 : inb (x + (2 : Int32)) L = true) (hi3 : inb (x + (3 : Int32)) L = true) (hi4 : inb (x + (4 : Int32)) L = true) (hi5 : inb (x + (5 : Int32)) L = true) (hn : ∀ M', Inv (t + 1) M' → V g kL_law (jL g L xs) 1725 [some (.ref 200), some (.ref 0), some (.ref 49), some (.int x)] [] M') : V g kL_law (jL g L xs) 240 [some (.ref 200), some (.ref 0), some (.ref 49), some (.int x)] [] M := by
  obtain ⟨v, w, e1, e2, e3, hI2⟩ := ok_field ht hI (xs (ix (x + (1 : Int32))))
  refine v_aload_n dL_law_240 rfl ?_
  refine v_aload_n dL_law_241 rfl ?_
  refine v_iload_n dL_law_242 rfl ?_
  refine v_iconst (v := 1) dL_law_243 rfl ?_
  refine v_iadd dL_law_244 ?_
  refine v_scl hi1 dL_law_245 ?_
  refine v_callV (as := [.int (xs (ix (x + (1 : Int32))))]) (st := []) (sX5_field e1) dL_law_246 mlL_13 (CRL (by decide) (by decide)) sh_0 rfl rfl rfl (Nat.le_of_ble_eq_true rfl) ?_
  refine v_aload_n dL_law_249 rfl ?_
  refine v_aload_n dL_law_250 rfl ?_
  refine v_iload_n dL_law_251 rfl ?_
  refine v_iconst (v := 1) dL_law_252 rfl ?_
  refine v_iadd dL_law_253 ?_
  refine v_scl hi1 dL_law_254 ?_
  refine v_callV (as := [.int (xs (ix (x + (1 : Int32))))]) (st := [.int v.1]) (sX6_field e2) dL_law_255 mlL_17 (CRL (by decide) (by decide)) sh_49 rfl rfl rfl (Nat.le_of_ble_eq_true rfl) ?_
  refine v_icmp_eq (tgt := 1725) dL_law_258 rfl (fun _ => ?_) (fun c => absurd e3 c)
  exact hn _ hI2
set_option maxRecDepth 100000 in
set_option maxHeartbeats 4000000 in
theorem law_1 {g : Wo} {L : Nat} {xs : Nat → Int32} {t : Nat} {x : Int32} {M : Mem} (ht : t < 512) (hI : Inv t M) (hi1 : inb (x + (1 : Int32)) L = true) (hi2 : inb (x + (2 : Int32)) L = true) (hi3 : inb (x + (3 : Int32)) L = true) (hi4 : inb (x + (4 : Int32)) L = true) (hi5 : inb (x + (5 : Int32)) L = true) (hn : ∀ M', Inv (t + 1) M' → V g kL_law (jL g L xs) 1725 [some (.ref 200), some (.ref 0), some (.ref 49), some (.int x)] [] M') : V g kL_law (jL g L xs) 263 [some (.ref 200), some (.ref 0), some (.ref 49), some (.int x)] [] M := by
  obtain ⟨v, w, e1, e2, e3, hI2⟩ := ok_of_ ht hI (xs (ix (x + (1 : Int32)))) (xs (ix (x + (2 : Int32))))
  refine v_aload_n dL_law_263 rfl ?_
  refine v_aload_n dL_law_264 rfl ?_
  refine v_iload_n dL_law_265 rfl ?_
  refine v_iconst (v := 1) dL_law_266 rfl ?_
  refine v_iadd dL_law_267 ?_
  refine v_scl hi1 dL_law_268 ?_
  refine v_aload_n dL_law_269 rfl ?_
  refine v_iload_n dL_law_270 rfl ?_
  refine v_iconst (v := 2) dL_law_271 rfl ?_
  refine v_iadd dL_law_272 ?_
  refine v_scl hi2 dL_law_273 ?_
  refine v_callV (as := [.int (xs (ix (x + (1 : Int32)))), .int (xs (ix (x + (2 : Int32))))]) (st := []) (sX5_of e1) dL_law_274 mlL_18 (CRL (by decide) (by decide)) sh_0 rfl rfl rfl (Nat.le_of_ble_eq_true rfl) ?_
  refine v_aload_n dL_law_277 rfl ?_
  refine v_aload_n dL_law_278 rfl ?_
  refine v_iload_n dL_law_279 rfl ?_
  refine v_iconst (v := 1) dL_law_280 rfl ?_
  refine v_iadd dL_law_281 ?_
  refine v_scl hi1 dL_law_282 ?_
  refine v_aload_n dL_law_283 rfl ?_
  refine v_iload_n dL_law_284 rfl ?_
  refine v_iconst (v := 2) dL_law_285 rfl ?_
  refine v_iadd dL_law_286 ?_
  refine v_scl hi2 dL_law_287 ?_
  refine v_callV (as := [.int (xs (ix (x + (1 : Int32)))), .int (xs (ix (x + (2 : Int32))))]) (st := [.int v.1]) (sX6_of e2) dL_law_288 mlL_22 (CRL (by decide) (by decide)) sh_49 rfl rfl rfl (Nat.le_of_ble_eq_true rfl) ?_
  refine v_icmp_eq (tgt := 1725) dL_law_291 rfl (fun _ => ?_) (fun c => absurd e3 c)
  exact hn _ hI2
set_option maxRecDepth 100000 in
set_option maxHeartbeats 4000000 in
theorem law_2 {g : Wo} {L : Nat} {xs : Nat → Int32} {t : Nat} {x : Int32} {M : Mem} (ht : t < 512) (hI : Inv t M) (hi1 : inb (x + (1 : Int32)) L = true) (hi2 : inb (x + (2 : Int32)) L = true) (hi3 : inb (x + (3 : Int32)) L = true) (hi4 : inb (x + (4 : Int32)) L = true) (hi5 : inb (x + (5 : Int32)) L = true) (hn : ∀ M', Inv (t + 1) M' → V g kL_law (jL g L xs) 1725 [some (.ref 200), some (.ref 0), some (.ref 49), some (.int x)] [] M') : V g kL_law (jL g L xs) 296 [some (.ref 200), some (.ref 0), some (.ref 49), some (.int x)] [] M := by
  obtain ⟨v, w, e1, e2, e3, hI2⟩ := ok_rough ht hI (xs (ix (x + (1 : Int32)))) (xs (ix (x + (2 : Int32))))
  refine v_aload_n dL_law_296 rfl ?_
  refine v_aload_n dL_law_297 rfl ?_
  refine v_iload_n dL_law_298 rfl ?_
  refine v_iconst (v := 1) dL_law_299 rfl ?_
  refine v_iadd dL_law_300 ?_
  refine v_scl hi1 dL_law_301 ?_
  refine v_aload_n dL_law_302 rfl ?_
  refine v_iload_n dL_law_303 rfl ?_
  refine v_iconst (v := 2) dL_law_304 rfl ?_
  refine v_iadd dL_law_305 ?_
  refine v_scl hi2 dL_law_306 ?_
  refine v_callV (as := [.int (xs (ix (x + (1 : Int32)))), .int (xs (ix (x + (2 : Int32))))]) (st := []) (sX5_rough e1) dL_law_307 mlL_23 (CRL (by decide) (by decide)) sh_0 rfl rfl rfl (Nat.le_of_ble_eq_true rfl) ?_
  refine v_aload_n dL_law_310 rfl ?_
  refine v_aload_n dL_law_311 rfl ?_
  refine v_iload_n dL_law_312 rfl ?_
  refine v_iconst (v := 1) dL_law_313 rfl ?_
  refine v_iadd dL_law_314 ?_
  refine v_scl hi1 dL_law_315 ?_
  refine v_aload_n dL_law_316 rfl ?_
  refine v_iload_n dL_law_317 rfl ?_
  refine v_iconst (v := 2) dL_law_318 rfl ?_
  refine v_iadd dL_law_319 ?_
  refine v_scl hi2 dL_law_320 ?_
  refine v_callV (as := [.int (xs (ix (x + (1 : Int32)))), .int (xs (ix (x + (2 : Int32))))]) (st := [.int v.1]) (sX6_rough e2) dL_law_321 mlL_26 (CRL (by decide) (by decide)) sh_49 rfl rfl rfl (Nat.le_of_ble_eq_true rfl) ?_
  refine v_icmp_eq (tgt := 1725) dL_law_324 rfl (fun _ => ?_) (fun c => absurd e3 c)
  exact hn _ hI2
set_option maxRecDepth 100000 in
set_option maxHeartbeats 4000000 in
theorem law_3 {g : Wo} {L : Nat} {xs : Nat → Int32} {t : Nat} {x : Int32} {M : Mem} (ht : t < 512) (hI : Inv t M) (hi1 : inb (x + (1 : Int32)) L = true) (hi2 : inb (x + (2 : Int32)) L = true) (hi3 : inb (x + (3 : Int32)) L = true) (hi4 : inb (x + (4 : Int32)) L = true) (hi5 : inb (x + (5 : Int32)) L = true) (hn : ∀ M', Inv (t + 1) M' → V g kL_law (jL g L xs) 1725 [some (.ref 200), some (.ref 0), some (.ref 49), some (.int x)] [] M') : V g kL_law (jL g L xs) 329 [some (.ref 200), some (.ref 0), some (.ref 49), some (.int x)] [] M := by
  obtain ⟨v, w, e1, e2, e3, hI2⟩ := ok_glue ht hI (xs (ix (x + (1 : Int32)))) (xs (ix (x + (2 : Int32)))) (xs (ix (x + (3 : Int32)))) (xs (ix (x + (4 : Int32))))
  refine v_aload_n dL_law_329 rfl ?_
  refine v_aload_n dL_law_330 rfl ?_
  refine v_iload_n dL_law_331 rfl ?_
  refine v_iconst (v := 1) dL_law_332 rfl ?_
  refine v_iadd dL_law_333 ?_
  refine v_scl hi1 dL_law_334 ?_
  refine v_aload_n dL_law_335 rfl ?_
  refine v_iload_n dL_law_336 rfl ?_
  refine v_iconst (v := 2) dL_law_337 rfl ?_
  refine v_iadd dL_law_338 ?_
  refine v_scl hi2 dL_law_339 ?_
  refine v_aload_n dL_law_340 rfl ?_
  refine v_iload_n dL_law_341 rfl ?_
  refine v_iconst (v := 3) dL_law_342 rfl ?_
  refine v_iadd dL_law_343 ?_
  refine v_scl hi3 dL_law_344 ?_
  refine v_aload_n dL_law_345 rfl ?_
  refine v_iload_n dL_law_346 rfl ?_
  refine v_iconst (v := 4) dL_law_347 rfl ?_
  refine v_iadd dL_law_348 ?_
  refine v_scl hi4 dL_law_349 ?_
  refine v_callV (as := [.int (xs (ix (x + (1 : Int32)))), .int (xs (ix (x + (2 : Int32)))), .int (xs (ix (x + (3 : Int32)))), .int (xs (ix (x + (4 : Int32))))]) (st := []) (sX5_glue e1) dL_law_350 mlL_27 (CRL (by decide) (by decide)) sh_0 rfl rfl rfl (Nat.le_of_ble_eq_true rfl) ?_
  refine v_aload_n dL_law_353 rfl ?_
  refine v_aload_n dL_law_354 rfl ?_
  refine v_iload_n dL_law_355 rfl ?_
  refine v_iconst (v := 1) dL_law_356 rfl ?_
  refine v_iadd dL_law_357 ?_
  refine v_scl hi1 dL_law_358 ?_
  refine v_aload_n dL_law_359 rfl ?_
  refine v_iload_n dL_law_360 rfl ?_
  refine v_iconst (v := 2) dL_law_361 rfl ?_
  refine v_iadd dL_law_362 ?_
  refine v_scl hi2 dL_law_363 ?_
  refine v_aload_n dL_law_364 rfl ?_
  refine v_iload_n dL_law_365 rfl ?_
  refine v_iconst (v := 3) dL_law_366 rfl ?_
  refine v_iadd dL_law_367 ?_
  refine v_scl hi3 dL_law_368 ?_
  refine v_aload_n dL_law_369 rfl ?_
  refine v_iload_n dL_law_370 rfl ?_
  refine v_iconst (v := 4) dL_law_371 rfl ?_
  refine v_iadd dL_law_372 ?_
  refine v_scl hi4 dL_law_373 ?_
  refine v_callV (as := [.int (xs (ix (x + (1 : Int32)))), .int (xs (ix (x + (2 : Int32)))), .int (xs (ix (x + (3 : Int32)))), .int (xs (ix (x + (4 : Int32))))]) (st := [.int v.1]) (sX6_glue e2) dL_law_374 mlL_31 (CRL (by decide) (by decide)) sh_49 rfl rfl rfl (Nat.le_of_ble_eq_true rfl) ?_
  refine v_icmp_eq (tgt := 1725) dL_law_377 rfl (fun _ => ?_) (fun c => absurd e3 c)
  exact hn _ hI2
set_option maxRecDepth 100000 in
set_option maxHeartbeats 4000000 in
theorem law_4 {g : Wo} {L : Nat} {xs : Nat → Int32} {t : Nat} {x : Int32} {M : Mem} (ht : t < 512) (hI : Inv t M) (hi1 : inb (x + (1 : Int32)) L = true) (hi2 : inb (x + (2 : Int32)) L = true) (hi3 : inb (x + (3 : Int32)) L = true) (hi4 : inb (x + (4 : Int32)) L = true) (hi5 : inb (x + (5 : Int32)) L = true) (hn : ∀ M', Inv (t + 1) M' → V g kL_law (jL g L xs) 1725 [some (.ref 200), some (.ref 0), some (.ref 49), some (.int x)] [] M') : V g kL_law (jL g L xs) 382 [some (.ref 200), some (.ref 0), some (.ref 49), some (.int x)] [] M := by
  obtain ⟨v, w, e1, e2, e3, hI2⟩ := ok_cut ht hI (xs (ix (x + (1 : Int32)))) (xs (ix (x + (2 : Int32))))
  refine v_aload_n dL_law_382 rfl ?_
  refine v_aload_n dL_law_383 rfl ?_
  refine v_iload_n dL_law_384 rfl ?_
  refine v_iconst (v := 1) dL_law_385 rfl ?_
  refine v_iadd dL_law_386 ?_
  refine v_scl hi1 dL_law_387 ?_
  refine v_aload_n dL_law_388 rfl ?_
  refine v_iload_n dL_law_389 rfl ?_
  refine v_iconst (v := 2) dL_law_390 rfl ?_
  refine v_iadd dL_law_391 ?_
  refine v_scl hi2 dL_law_392 ?_
  refine v_callV (as := [.int (xs (ix (x + (1 : Int32)))), .int (xs (ix (x + (2 : Int32))))]) (st := []) (sX5_cut e1) dL_law_393 mlL_32 (CRL (by decide) (by decide)) sh_0 rfl rfl rfl (Nat.le_of_ble_eq_true rfl) ?_
  refine v_aload_n dL_law_396 rfl ?_
  refine v_aload_n dL_law_397 rfl ?_
  refine v_iload_n dL_law_398 rfl ?_
  refine v_iconst (v := 1) dL_law_399 rfl ?_
  refine v_iadd dL_law_400 ?_
  refine v_scl hi1 dL_law_401 ?_
  refine v_aload_n dL_law_402 rfl ?_
  refine v_iload_n dL_law_403 rfl ?_
  refine v_iconst (v := 2) dL_law_404 rfl ?_
  refine v_iadd dL_law_405 ?_
  refine v_scl hi2 dL_law_406 ?_
  refine v_callV (as := [.int (xs (ix (x + (1 : Int32)))), .int (xs (ix (x + (2 : Int32))))]) (st := [.int v.1]) (sX6_cut e2) dL_law_407 mlL_35 (CRL (by decide) (by decide)) sh_49 rfl rfl rfl (Nat.le_of_ble_eq_true rfl) ?_
  refine v_icmp_eq (tgt := 1725) dL_law_410 rfl (fun _ => ?_) (fun c => absurd e3 c)
  exact hn _ hI2
set_option maxRecDepth 100000 in
set_option maxHeartbeats 4000000 in
theorem law_5 {g : Wo} {L : Nat} {xs : Nat → Int32} {t : Nat} {x : Int32} {M : Mem} (ht : t < 512) (hI : Inv t M) (hi1 : inb (x + (1 : Int32)) L = true) (hi2 : inb (x + (2 : Int32)) L = true) (hi3 : inb (x + (3 : Int32)) L = true) (hi4 : inb (x + (4 : Int32)) L = true) (hi5 : inb (x + (5 : Int32)) L = true) (hn : ∀ M', Inv (t + 1) M' → V g kL_law (jL g L xs) 1725 [some (.ref 200), some (.ref 0), some (.ref 49), some (.int x)] [] M') : V g kL_law (jL g L xs) 415 [some (.ref 200), some (.ref 0), some (.ref 49), some (.int x)] [] M := by
  obtain ⟨v, w, e1, e2, e3, hI2⟩ := ok_over ht hI (xs (ix (x + (1 : Int32)))) (xs (ix (x + (2 : Int32))))
  refine v_aload_n dL_law_415 rfl ?_
  refine v_aload_n dL_law_416 rfl ?_
  refine v_iload_n dL_law_417 rfl ?_
  refine v_iconst (v := 1) dL_law_418 rfl ?_
  refine v_iadd dL_law_419 ?_
  refine v_scl hi1 dL_law_420 ?_
  refine v_aload_n dL_law_421 rfl ?_
  refine v_iload_n dL_law_422 rfl ?_
  refine v_iconst (v := 2) dL_law_423 rfl ?_
  refine v_iadd dL_law_424 ?_
  refine v_scl hi2 dL_law_425 ?_
  refine v_callV (as := [.int (xs (ix (x + (1 : Int32)))), .int (xs (ix (x + (2 : Int32))))]) (st := []) (sX5_over e1) dL_law_426 mlL_36 (CRL (by decide) (by decide)) sh_0 rfl rfl rfl (Nat.le_of_ble_eq_true rfl) ?_
  refine v_aload_n dL_law_429 rfl ?_
  refine v_aload_n dL_law_430 rfl ?_
  refine v_iload_n dL_law_431 rfl ?_
  refine v_iconst (v := 1) dL_law_432 rfl ?_
  refine v_iadd dL_law_433 ?_
  refine v_scl hi1 dL_law_434 ?_
  refine v_aload_n dL_law_435 rfl ?_
  refine v_iload_n dL_law_436 rfl ?_
  refine v_iconst (v := 2) dL_law_437 rfl ?_
  refine v_iadd dL_law_438 ?_
  refine v_scl hi2 dL_law_439 ?_
  refine v_callV (as := [.int (xs (ix (x + (1 : Int32)))), .int (xs (ix (x + (2 : Int32))))]) (st := [.int v.1]) (sX6_over e2) dL_law_440 mlL_39 (CRL (by decide) (by decide)) sh_49 rfl rfl rfl (Nat.le_of_ble_eq_true rfl) ?_
  refine v_icmp_eq (tgt := 1725) dL_law_443 rfl (fun _ => ?_) (fun c => absurd e3 c)
  exact hn _ hI2
set_option maxRecDepth 100000 in
set_option maxHeartbeats 4000000 in
theorem law_6 {g : Wo} {L : Nat} {xs : Nat → Int32} {t : Nat} {x : Int32} {M : Mem} (ht : t < 512) (hI : Inv t M) (hi1 : inb (x + (1 : Int32)) L = true) (hi2 : inb (x + (2 : Int32)) L = true) (hi3 : inb (x + (3 : Int32)) L = true) (hi4 : inb (x + (4 : Int32)) L = true) (hi5 : inb (x + (5 : Int32)) L = true) (hn : ∀ M', Inv (t + 1) M' → V g kL_law (jL g L xs) 1725 [some (.ref 200), some (.ref 0), some (.ref 49), some (.int x)] [] M') : V g kL_law (jL g L xs) 448 [some (.ref 200), some (.ref 0), some (.ref 49), some (.int x)] [] M := by
  obtain ⟨v, w, e1, e2, e3, hI2⟩ := ok_walker ht hI (xs (ix (x + (1 : Int32)))) (xs (ix (x + (2 : Int32)))) (xs (ix (x + (3 : Int32))))
  refine v_aload_n dL_law_448 rfl ?_
  refine v_aload_n dL_law_449 rfl ?_
  refine v_iload_n dL_law_450 rfl ?_
  refine v_iconst (v := 1) dL_law_451 rfl ?_
  refine v_iadd dL_law_452 ?_
  refine v_scl hi1 dL_law_453 ?_
  refine v_aload_n dL_law_454 rfl ?_
  refine v_iload_n dL_law_455 rfl ?_
  refine v_iconst (v := 2) dL_law_456 rfl ?_
  refine v_iadd dL_law_457 ?_
  refine v_scl hi2 dL_law_458 ?_
  refine v_aload_n dL_law_459 rfl ?_
  refine v_iload_n dL_law_460 rfl ?_
  refine v_iconst (v := 3) dL_law_461 rfl ?_
  refine v_iadd dL_law_462 ?_
  refine v_scl hi3 dL_law_463 ?_
  refine v_callV (as := [.int (xs (ix (x + (1 : Int32)))), .int (xs (ix (x + (2 : Int32)))), .int (xs (ix (x + (3 : Int32))))]) (st := []) (sX5_walker e1) dL_law_464 mlL_40 (CRL (by decide) (by decide)) sh_0 rfl rfl rfl (Nat.le_of_ble_eq_true rfl) ?_
  refine v_aload_n dL_law_467 rfl ?_
  refine v_aload_n dL_law_468 rfl ?_
  refine v_iload_n dL_law_469 rfl ?_
  refine v_iconst (v := 1) dL_law_470 rfl ?_
  refine v_iadd dL_law_471 ?_
  refine v_scl hi1 dL_law_472 ?_
  refine v_aload_n dL_law_473 rfl ?_
  refine v_iload_n dL_law_474 rfl ?_
  refine v_iconst (v := 2) dL_law_475 rfl ?_
  refine v_iadd dL_law_476 ?_
  refine v_scl hi2 dL_law_477 ?_
  refine v_aload_n dL_law_478 rfl ?_
  refine v_iload_n dL_law_479 rfl ?_
  refine v_iconst (v := 3) dL_law_480 rfl ?_
  refine v_iadd dL_law_481 ?_
  refine v_scl hi3 dL_law_482 ?_
  refine v_callV (as := [.int (xs (ix (x + (1 : Int32)))), .int (xs (ix (x + (2 : Int32)))), .int (xs (ix (x + (3 : Int32))))]) (st := [.int v.1]) (sX6_walker e2) dL_law_483 mlL_44 (CRL (by decide) (by decide)) sh_49 rfl rfl rfl (Nat.le_of_ble_eq_true rfl) ?_
  refine v_icmp_eq (tgt := 1725) dL_law_486 rfl (fun _ => ?_) (fun c => absurd e3 c)
  exact hn _ hI2
set_option maxRecDepth 100000 in
set_option maxHeartbeats 4000000 in
theorem law_7 {g : Wo} {L : Nat} {xs : Nat → Int32} {t : Nat} {x : Int32} {M : Mem} (ht : t < 512) (hI : Inv t M) (hi1 : inb (x + (1 : Int32)) L = true) (hi2 : inb (x + (2 : Int32)) L = true) (hi3 : inb (x + (3 : Int32)) L = true) (hi4 : inb (x + (4 : Int32)) L = true) (hi5 : inb (x + (5 : Int32)) L = true) (hn : ∀ M', Inv (t + 1) M' → V g kL_law (jL g L xs) 1725 [some (.ref 200), some (.ref 0), some (.ref 49), some (.int x)] [] M') : V g kL_law (jL g L xs) 491 [some (.ref 200), some (.ref 0), some (.ref 49), some (.int x)] [] M := by
  obtain ⟨v, w, e1, e2, e3, hI2⟩ := ok_its ht hI (xs (ix (x + (1 : Int32)))) (xs (ix (x + (2 : Int32))))
  refine v_aload_n dL_law_491 rfl ?_
  refine v_aload_n dL_law_492 rfl ?_
  refine v_iload_n dL_law_493 rfl ?_
  refine v_iconst (v := 1) dL_law_494 rfl ?_
  refine v_iadd dL_law_495 ?_
  refine v_scl hi1 dL_law_496 ?_
  refine v_aload_n dL_law_497 rfl ?_
  refine v_iload_n dL_law_498 rfl ?_
  refine v_iconst (v := 2) dL_law_499 rfl ?_
  refine v_iadd dL_law_500 ?_
  refine v_scl hi2 dL_law_501 ?_
  refine v_callV (as := [.int (xs (ix (x + (1 : Int32)))), .int (xs (ix (x + (2 : Int32))))]) (st := []) (sX5_its e1) dL_law_502 mlL_45 (CRL (by decide) (by decide)) sh_0 rfl rfl rfl (Nat.le_of_ble_eq_true rfl) ?_
  refine v_aload_n dL_law_505 rfl ?_
  refine v_aload_n dL_law_506 rfl ?_
  refine v_iload_n dL_law_507 rfl ?_
  refine v_iconst (v := 1) dL_law_508 rfl ?_
  refine v_iadd dL_law_509 ?_
  refine v_scl hi1 dL_law_510 ?_
  refine v_aload_n dL_law_511 rfl ?_
  refine v_iload_n dL_law_512 rfl ?_
  refine v_iconst (v := 2) dL_law_513 rfl ?_
  refine v_iadd dL_law_514 ?_
  refine v_scl hi2 dL_law_515 ?_
  refine v_callV (as := [.int (xs (ix (x + (1 : Int32)))), .int (xs (ix (x + (2 : Int32))))]) (st := [.int v.1]) (sX6_its e2) dL_law_516 mlL_48 (CRL (by decide) (by decide)) sh_49 rfl rfl rfl (Nat.le_of_ble_eq_true rfl) ?_
  refine v_icmp_eq (tgt := 1725) dL_law_519 rfl (fun _ => ?_) (fun c => absurd e3 c)
  exact hn _ hI2
set_option maxRecDepth 100000 in
set_option maxHeartbeats 4000000 in
theorem law_8 {g : Wo} {L : Nat} {xs : Nat → Int32} {t : Nat} {x : Int32} {M : Mem} (ht : t < 512) (hI : Inv t M) (hi1 : inb (x + (1 : Int32)) L = true) (hi2 : inb (x + (2 : Int32)) L = true) (hi3 : inb (x + (3 : Int32)) L = true) (hi4 : inb (x + (4 : Int32)) L = true) (hi5 : inb (x + (5 : Int32)) L = true) (hn : ∀ M', Inv (t + 1) M' → V g kL_law (jL g L xs) 1725 [some (.ref 200), some (.ref 0), some (.ref 49), some (.int x)] [] M') : V g kL_law (jL g L xs) 524 [some (.ref 200), some (.ref 0), some (.ref 49), some (.int x)] [] M := by
  obtain ⟨v, w, e1, e2, e3, hI2⟩ := ok_place ht hI (xs (ix (x + (1 : Int32)))) (xs (ix (x + (2 : Int32)))) (xs (ix (x + (3 : Int32))))
  refine v_aload_n dL_law_524 rfl ?_
  refine v_aload_n dL_law_525 rfl ?_
  refine v_iload_n dL_law_526 rfl ?_
  refine v_iconst (v := 1) dL_law_527 rfl ?_
  refine v_iadd dL_law_528 ?_
  refine v_scl hi1 dL_law_529 ?_
  refine v_aload_n dL_law_530 rfl ?_
  refine v_iload_n dL_law_531 rfl ?_
  refine v_iconst (v := 2) dL_law_532 rfl ?_
  refine v_iadd dL_law_533 ?_
  refine v_scl hi2 dL_law_534 ?_
  refine v_aload_n dL_law_535 rfl ?_
  refine v_iload_n dL_law_536 rfl ?_
  refine v_iconst (v := 3) dL_law_537 rfl ?_
  refine v_iadd dL_law_538 ?_
  refine v_scl hi3 dL_law_539 ?_
  refine v_callV (as := [.int (xs (ix (x + (1 : Int32)))), .int (xs (ix (x + (2 : Int32)))), .int (xs (ix (x + (3 : Int32))))]) (st := []) (sX5_place e1) dL_law_540 mlL_49 (CRL (by decide) (by decide)) sh_0 rfl rfl rfl (Nat.le_of_ble_eq_true rfl) ?_
  refine v_aload_n dL_law_543 rfl ?_
  refine v_aload_n dL_law_544 rfl ?_
  refine v_iload_n dL_law_545 rfl ?_
  refine v_iconst (v := 1) dL_law_546 rfl ?_
  refine v_iadd dL_law_547 ?_
  refine v_scl hi1 dL_law_548 ?_
  refine v_aload_n dL_law_549 rfl ?_
  refine v_iload_n dL_law_550 rfl ?_
  refine v_iconst (v := 2) dL_law_551 rfl ?_
  refine v_iadd dL_law_552 ?_
  refine v_scl hi2 dL_law_553 ?_
  refine v_aload_n dL_law_554 rfl ?_
  refine v_iload_n dL_law_555 rfl ?_
  refine v_iconst (v := 3) dL_law_556 rfl ?_
  refine v_iadd dL_law_557 ?_
  refine v_scl hi3 dL_law_558 ?_
  refine v_callV (as := [.int (xs (ix (x + (1 : Int32)))), .int (xs (ix (x + (2 : Int32)))), .int (xs (ix (x + (3 : Int32))))]) (st := [.int v.1]) (sX6_place e2) dL_law_559 mlL_52 (CRL (by decide) (by decide)) sh_49 rfl rfl rfl (Nat.le_of_ble_eq_true rfl) ?_
  refine v_icmp_eq (tgt := 1725) dL_law_562 rfl (fun _ => ?_) (fun c => absurd e3 c)
  exact hn _ hI2
set_option maxRecDepth 100000 in
set_option maxHeartbeats 4000000 in
theorem law_9 {g : Wo} {L : Nat} {xs : Nat → Int32} {t : Nat} {x : Int32} {M : Mem} (ht : t < 512) (hI : Inv t M) (hi1 : inb (x + (1 : Int32)) L = true) (hi2 : inb (x + (2 : Int32)) L = true) (hi3 : inb (x + (3 : Int32)) L = true) (hi4 : inb (x + (4 : Int32)) L = true) (hi5 : inb (x + (5 : Int32)) L = true) (hn : ∀ M', Inv (t + 1) M' → V g kL_law (jL g L xs) 1725 [some (.ref 200), some (.ref 0), some (.ref 49), some (.int x)] [] M') : V g kL_law (jL g L xs) 567 [some (.ref 200), some (.ref 0), some (.ref 49), some (.int x)] [] M := by
  obtain ⟨v, w, e1, e2, e3, hI2⟩ := ok_turn ht hI (xs (ix (x + (1 : Int32)))) (xs (ix (x + (2 : Int32))))
  refine v_aload_n dL_law_567 rfl ?_
  refine v_aload_n dL_law_568 rfl ?_
  refine v_iload_n dL_law_569 rfl ?_
  refine v_iconst (v := 1) dL_law_570 rfl ?_
  refine v_iadd dL_law_571 ?_
  refine v_scl hi1 dL_law_572 ?_
  refine v_aload_n dL_law_573 rfl ?_
  refine v_iload_n dL_law_574 rfl ?_
  refine v_iconst (v := 2) dL_law_575 rfl ?_
  refine v_iadd dL_law_576 ?_
  refine v_scl hi2 dL_law_577 ?_
  refine v_callV (as := [.int (xs (ix (x + (1 : Int32)))), .int (xs (ix (x + (2 : Int32))))]) (st := []) (sX5_turn e1) dL_law_578 mlL_53 (CRL (by decide) (by decide)) sh_0 rfl rfl rfl (Nat.le_of_ble_eq_true rfl) ?_
  refine v_aload_n dL_law_581 rfl ?_
  refine v_aload_n dL_law_582 rfl ?_
  refine v_iload_n dL_law_583 rfl ?_
  refine v_iconst (v := 1) dL_law_584 rfl ?_
  refine v_iadd dL_law_585 ?_
  refine v_scl hi1 dL_law_586 ?_
  refine v_aload_n dL_law_587 rfl ?_
  refine v_iload_n dL_law_588 rfl ?_
  refine v_iconst (v := 2) dL_law_589 rfl ?_
  refine v_iadd dL_law_590 ?_
  refine v_scl hi2 dL_law_591 ?_
  refine v_callV (as := [.int (xs (ix (x + (1 : Int32)))), .int (xs (ix (x + (2 : Int32))))]) (st := [.int v.1]) (sX6_turn e2) dL_law_592 mlL_56 (CRL (by decide) (by decide)) sh_49 rfl rfl rfl (Nat.le_of_ble_eq_true rfl) ?_
  refine v_icmp_eq (tgt := 1725) dL_law_595 rfl (fun _ => ?_) (fun c => absurd e3 c)
  exact hn _ hI2
set_option maxRecDepth 100000 in
set_option maxHeartbeats 4000000 in
theorem law_10 {g : Wo} {L : Nat} {xs : Nat → Int32} {t : Nat} {x : Int32} {M : Mem} (ht : t < 512) (hI : Inv t M) (hi1 : inb (x + (1 : Int32)) L = true) (hi2 : inb (x + (2 : Int32)) L = true) (hi3 : inb (x + (3 : Int32)) L = true) (hi4 : inb (x + (4 : Int32)) L = true) (hi5 : inb (x + (5 : Int32)) L = true) (hn : ∀ M', Inv (t + 1) M' → V g kL_law (jL g L xs) 1725 [some (.ref 200), some (.ref 0), some (.ref 49), some (.int x)] [] M') : V g kL_law (jL g L xs) 600 [some (.ref 200), some (.ref 0), some (.ref 49), some (.int x)] [] M := by
  obtain ⟨v, w, e1, e2, e3, hI2⟩ := ok_as ht hI (xs (ix (x + (1 : Int32)))) (xs (ix (x + (2 : Int32))))
  refine v_aload_n dL_law_600 rfl ?_
  refine v_aload_n dL_law_601 rfl ?_
  refine v_iload_n dL_law_602 rfl ?_
  refine v_iconst (v := 1) dL_law_603 rfl ?_
  refine v_iadd dL_law_604 ?_
  refine v_scl hi1 dL_law_605 ?_
  refine v_aload_n dL_law_606 rfl ?_
  refine v_iload_n dL_law_607 rfl ?_
  refine v_iconst (v := 2) dL_law_608 rfl ?_
  refine v_iadd dL_law_609 ?_
  refine v_scl hi2 dL_law_610 ?_
  refine v_callV (as := [.int (xs (ix (x + (1 : Int32)))), .int (xs (ix (x + (2 : Int32))))]) (st := []) (sX5_as e1) dL_law_611 mlL_57 (CRL (by decide) (by decide)) sh_0 rfl rfl rfl (Nat.le_of_ble_eq_true rfl) ?_
  refine v_aload_n dL_law_614 rfl ?_
  refine v_aload_n dL_law_615 rfl ?_
  refine v_iload_n dL_law_616 rfl ?_
  refine v_iconst (v := 1) dL_law_617 rfl ?_
  refine v_iadd dL_law_618 ?_
  refine v_scl hi1 dL_law_619 ?_
  refine v_aload_n dL_law_620 rfl ?_
  refine v_iload_n dL_law_621 rfl ?_
  refine v_iconst (v := 2) dL_law_622 rfl ?_
  refine v_iadd dL_law_623 ?_
  refine v_scl hi2 dL_law_624 ?_
  refine v_callV (as := [.int (xs (ix (x + (1 : Int32)))), .int (xs (ix (x + (2 : Int32))))]) (st := [.int v.1]) (sX6_as e2) dL_law_625 mlL_60 (CRL (by decide) (by decide)) sh_49 rfl rfl rfl (Nat.le_of_ble_eq_true rfl) ?_
  refine v_icmp_eq (tgt := 1725) dL_law_628 rfl (fun _ => ?_) (fun c => absurd e3 c)
  exact hn _ hI2
set_option maxRecDepth 100000 in
set_option maxHeartbeats 4000000 in
theorem law_11 {g : Wo} {L : Nat} {xs : Nat → Int32} {t : Nat} {x : Int32} {M : Mem} (ht : t < 512) (hI : Inv t M) (hi1 : inb (x + (1 : Int32)) L = true) (hi2 : inb (x + (2 : Int32)) L = true) (hi3 : inb (x + (3 : Int32)) L = true) (hi4 : inb (x + (4 : Int32)) L = true) (hi5 : inb (x + (5 : Int32)) L = true) (hn : ∀ M', Inv (t + 1) M' → V g kL_law (jL g L xs) 1725 [some (.ref 200), some (.ref 0), some (.ref 49), some (.int x)] [] M') : V g kL_law (jL g L xs) 633 [some (.ref 200), some (.ref 0), some (.ref 49), some (.int x)] [] M := by
  obtain ⟨v, w, e1, e2, e3, hI2⟩ := ok_step ht hI (xs (ix (x + (1 : Int32))))
  refine v_aload_n dL_law_633 rfl ?_
  refine v_aload_n dL_law_634 rfl ?_
  refine v_iload_n dL_law_635 rfl ?_
  refine v_iconst (v := 1) dL_law_636 rfl ?_
  refine v_iadd dL_law_637 ?_
  refine v_scl hi1 dL_law_638 ?_
  refine v_callV (as := [.int (xs (ix (x + (1 : Int32))))]) (st := []) (sX5_step e1) dL_law_639 mlL_61 (CRL (by decide) (by decide)) sh_0 rfl rfl rfl (Nat.le_of_ble_eq_true rfl) ?_
  refine v_aload_n dL_law_642 rfl ?_
  refine v_aload_n dL_law_643 rfl ?_
  refine v_iload_n dL_law_644 rfl ?_
  refine v_iconst (v := 1) dL_law_645 rfl ?_
  refine v_iadd dL_law_646 ?_
  refine v_scl hi1 dL_law_647 ?_
  refine v_callV (as := [.int (xs (ix (x + (1 : Int32))))]) (st := [.int v.1]) (sX6_step e2) dL_law_648 mlL_64 (CRL (by decide) (by decide)) sh_49 rfl rfl rfl (Nat.le_of_ble_eq_true rfl) ?_
  refine v_icmp_eq (tgt := 1725) dL_law_651 rfl (fun _ => ?_) (fun c => absurd e3 c)
  exact hn _ hI2
set_option maxRecDepth 100000 in
set_option maxHeartbeats 4000000 in
theorem law_12 {g : Wo} {L : Nat} {xs : Nat → Int32} {t : Nat} {x : Int32} {M : Mem} (ht : t < 512) (hI : Inv t M) (hi1 : inb (x + (1 : Int32)) L = true) (hi2 : inb (x + (2 : Int32)) L = true) (hi3 : inb (x + (3 : Int32)) L = true) (hi4 : inb (x + (4 : Int32)) L = true) (hi5 : inb (x + (5 : Int32)) L = true) (hn : ∀ M', Inv (t + 1) M' → V g kL_law (jL g L xs) 1725 [some (.ref 200), some (.ref 0), some (.ref 49), some (.int x)] [] M') : V g kL_law (jL g L xs) 656 [some (.ref 200), some (.ref 0), some (.ref 49), some (.int x)] [] M := by
  obtain ⟨v, w, e1, e2, e3, hI2⟩ := ok_steps ht hI (xs (ix (x + (1 : Int32))))
  refine v_aload_n dL_law_656 rfl ?_
  refine v_aload_n dL_law_657 rfl ?_
  refine v_iload_n dL_law_658 rfl ?_
  refine v_iconst (v := 1) dL_law_659 rfl ?_
  refine v_iadd dL_law_660 ?_
  refine v_scl hi1 dL_law_661 ?_
  refine v_callV (as := [.int (xs (ix (x + (1 : Int32))))]) (st := []) (sX5_steps e1) dL_law_662 mlL_65 (CRL (by decide) (by decide)) sh_0 rfl rfl rfl (Nat.le_of_ble_eq_true rfl) ?_
  refine v_aload_n dL_law_665 rfl ?_
  refine v_aload_n dL_law_666 rfl ?_
  refine v_iload_n dL_law_667 rfl ?_
  refine v_iconst (v := 1) dL_law_668 rfl ?_
  refine v_iadd dL_law_669 ?_
  refine v_scl hi1 dL_law_670 ?_
  refine v_callV (as := [.int (xs (ix (x + (1 : Int32))))]) (st := [.int v.1]) (sX6_steps e2) dL_law_671 mlL_68 (CRL (by decide) (by decide)) sh_49 rfl rfl rfl (Nat.le_of_ble_eq_true rfl) ?_
  refine v_icmp_eq (tgt := 1725) dL_law_674 rfl (fun _ => ?_) (fun c => absurd e3 c)
  exact hn _ hI2
set_option maxRecDepth 100000 in
set_option maxHeartbeats 4000000 in
theorem law_13 {g : Wo} {L : Nat} {xs : Nat → Int32} {t : Nat} {x : Int32} {M : Mem} (ht : t < 512) (hI : Inv t M) (hi1 : inb (x + (1 : Int32)) L = true) (hi2 : inb (x + (2 : Int32)) L = true) (hi3 : inb (x + (3 : Int32)) L = true) (hi4 : inb (x + (4 : Int32)) L = true) (hi5 : inb (x + (5 : Int32)) L = true) (hn : ∀ M', Inv (t + 1) M' → V g kL_law (jL g L xs) 1725 [some (.ref 200), some (.ref 0), some (.ref 49), some (.int x)] [] M') : V g kL_law (jL g L xs) 679 [some (.ref 200), some (.ref 0), some (.ref 49), some (.int x)] [] M := by
  obtain ⟨v, w, e1, e2, e3, hI2⟩ := ok_on ht hI (xs (ix (x + (1 : Int32)))) (xs (ix (x + (2 : Int32)))) (xs (ix (x + (3 : Int32))))
  refine v_aload_n dL_law_679 rfl ?_
  refine v_aload_n dL_law_680 rfl ?_
  refine v_iload_n dL_law_681 rfl ?_
  refine v_iconst (v := 1) dL_law_682 rfl ?_
  refine v_iadd dL_law_683 ?_
  refine v_scl hi1 dL_law_684 ?_
  refine v_aload_n dL_law_685 rfl ?_
  refine v_iload_n dL_law_686 rfl ?_
  refine v_iconst (v := 2) dL_law_687 rfl ?_
  refine v_iadd dL_law_688 ?_
  refine v_scl hi2 dL_law_689 ?_
  refine v_aload_n dL_law_690 rfl ?_
  refine v_iload_n dL_law_691 rfl ?_
  refine v_iconst (v := 3) dL_law_692 rfl ?_
  refine v_iadd dL_law_693 ?_
  refine v_scl hi3 dL_law_694 ?_
  refine v_callV (as := [.int (xs (ix (x + (1 : Int32)))), .int (xs (ix (x + (2 : Int32)))), .int (xs (ix (x + (3 : Int32))))]) (st := []) (sX5_on e1) dL_law_695 mlL_69 (CRL (by decide) (by decide)) sh_0 rfl rfl rfl (Nat.le_of_ble_eq_true rfl) ?_
  refine v_aload_n dL_law_698 rfl ?_
  refine v_aload_n dL_law_699 rfl ?_
  refine v_iload_n dL_law_700 rfl ?_
  refine v_iconst (v := 1) dL_law_701 rfl ?_
  refine v_iadd dL_law_702 ?_
  refine v_scl hi1 dL_law_703 ?_
  refine v_aload_n dL_law_704 rfl ?_
  refine v_iload_n dL_law_705 rfl ?_
  refine v_iconst (v := 2) dL_law_706 rfl ?_
  refine v_iadd dL_law_707 ?_
  refine v_scl hi2 dL_law_708 ?_
  refine v_aload_n dL_law_709 rfl ?_
  refine v_iload_n dL_law_710 rfl ?_
  refine v_iconst (v := 3) dL_law_711 rfl ?_
  refine v_iadd dL_law_712 ?_
  refine v_scl hi3 dL_law_713 ?_
  refine v_callV (as := [.int (xs (ix (x + (1 : Int32)))), .int (xs (ix (x + (2 : Int32)))), .int (xs (ix (x + (3 : Int32))))]) (st := [.int v.1]) (sX6_on e2) dL_law_714 mlL_72 (CRL (by decide) (by decide)) sh_49 rfl rfl rfl (Nat.le_of_ble_eq_true rfl) ?_
  refine v_icmp_eq (tgt := 1725) dL_law_717 rfl (fun _ => ?_) (fun c => absurd e3 c)
  exact hn _ hI2
set_option maxRecDepth 100000 in
set_option maxHeartbeats 4000000 in
theorem law_14 {g : Wo} {L : Nat} {xs : Nat → Int32} {t : Nat} {x : Int32} {M : Mem} (ht : t < 512) (hI : Inv t M) (hi1 : inb (x + (1 : Int32)) L = true) (hi2 : inb (x + (2 : Int32)) L = true) (hi3 : inb (x + (3 : Int32)) L = true) (hi4 : inb (x + (4 : Int32)) L = true) (hi5 : inb (x + (5 : Int32)) L = true) (hn : ∀ M', Inv (t + 1) M' → V g kL_law (jL g L xs) 1725 [some (.ref 200), some (.ref 0), some (.ref 49), some (.int x)] [] M') : V g kL_law (jL g L xs) 722 [some (.ref 200), some (.ref 0), some (.ref 49), some (.int x)] [] M := by
  obtain ⟨v, w, e1, e2, e3, hI2⟩ := ok_when ht hI (xs (ix (x + (1 : Int32)))) (xs (ix (x + (2 : Int32))))
  refine v_aload_n dL_law_722 rfl ?_
  refine v_aload_n dL_law_723 rfl ?_
  refine v_iload_n dL_law_724 rfl ?_
  refine v_iconst (v := 1) dL_law_725 rfl ?_
  refine v_iadd dL_law_726 ?_
  refine v_scl hi1 dL_law_727 ?_
  refine v_aload_n dL_law_728 rfl ?_
  refine v_iload_n dL_law_729 rfl ?_
  refine v_iconst (v := 2) dL_law_730 rfl ?_
  refine v_iadd dL_law_731 ?_
  refine v_scl hi2 dL_law_732 ?_
  refine v_callV (as := [.int (xs (ix (x + (1 : Int32)))), .int (xs (ix (x + (2 : Int32))))]) (st := []) (sX5_when e1) dL_law_733 mlL_73 (CRL (by decide) (by decide)) sh_0 rfl rfl rfl (Nat.le_of_ble_eq_true rfl) ?_
  refine v_aload_n dL_law_736 rfl ?_
  refine v_aload_n dL_law_737 rfl ?_
  refine v_iload_n dL_law_738 rfl ?_
  refine v_iconst (v := 1) dL_law_739 rfl ?_
  refine v_iadd dL_law_740 ?_
  refine v_scl hi1 dL_law_741 ?_
  refine v_aload_n dL_law_742 rfl ?_
  refine v_iload_n dL_law_743 rfl ?_
  refine v_iconst (v := 2) dL_law_744 rfl ?_
  refine v_iadd dL_law_745 ?_
  refine v_scl hi2 dL_law_746 ?_
  refine v_callV (as := [.int (xs (ix (x + (1 : Int32)))), .int (xs (ix (x + (2 : Int32))))]) (st := [.int v.1]) (sX6_when e2) dL_law_747 mlL_76 (CRL (by decide) (by decide)) sh_49 rfl rfl rfl (Nat.le_of_ble_eq_true rfl) ?_
  refine v_icmp_eq (tgt := 1725) dL_law_750 rfl (fun _ => ?_) (fun c => absurd e3 c)
  exact hn _ hI2
set_option maxRecDepth 100000 in
set_option maxHeartbeats 4000000 in
theorem law_15 {g : Wo} {L : Nat} {xs : Nat → Int32} {t : Nat} {x : Int32} {M : Mem} (ht : t < 512) (hI : Inv t M) (hi1 : inb (x + (1 : Int32)) L = true) (hi2 : inb (x + (2 : Int32)) L = true) (hi3 : inb (x + (3 : Int32)) L = true) (hi4 : inb (x + (4 : Int32)) L = true) (hi5 : inb (x + (5 : Int32)) L = true) (hn : ∀ M', Inv (t + 1) M' → V g kL_law (jL g L xs) 1725 [some (.ref 200), some (.ref 0), some (.ref 49), some (.int x)] [] M') : V g kL_law (jL g L xs) 755 [some (.ref 200), some (.ref 0), some (.ref 49), some (.int x)] [] M := by
  obtain ⟨v, w, e1, e2, e3, hI2⟩ := ok_back ht hI (xs (ix (x + (1 : Int32))))
  refine v_aload_n dL_law_755 rfl ?_
  refine v_aload_n dL_law_756 rfl ?_
  refine v_iload_n dL_law_757 rfl ?_
  refine v_iconst (v := 1) dL_law_758 rfl ?_
  refine v_iadd dL_law_759 ?_
  refine v_scl hi1 dL_law_760 ?_
  refine v_callV (as := [.int (xs (ix (x + (1 : Int32))))]) (st := []) (sX5_back e1) dL_law_761 mlL_77 (CRL (by decide) (by decide)) sh_0 rfl rfl rfl (Nat.le_of_ble_eq_true rfl) ?_
  refine v_aload_n dL_law_764 rfl ?_
  refine v_aload_n dL_law_765 rfl ?_
  refine v_iload_n dL_law_766 rfl ?_
  refine v_iconst (v := 1) dL_law_767 rfl ?_
  refine v_iadd dL_law_768 ?_
  refine v_scl hi1 dL_law_769 ?_
  refine v_callV (as := [.int (xs (ix (x + (1 : Int32))))]) (st := [.int v.1]) (sX6_back e2) dL_law_770 mlL_80 (CRL (by decide) (by decide)) sh_49 rfl rfl rfl (Nat.le_of_ble_eq_true rfl) ?_
  refine v_icmp_eq (tgt := 1725) dL_law_773 rfl (fun _ => ?_) (fun c => absurd e3 c)
  exact hn _ hI2
set_option maxRecDepth 100000 in
set_option maxHeartbeats 4000000 in
theorem law_16 {g : Wo} {L : Nat} {xs : Nat → Int32} {t : Nat} {x : Int32} {M : Mem} (ht : t < 512) (hI : Inv t M) (hi1 : inb (x + (1 : Int32)) L = true) (hi2 : inb (x + (2 : Int32)) L = true) (hi3 : inb (x + (3 : Int32)) L = true) (hi4 : inb (x + (4 : Int32)) L = true) (hi5 : inb (x + (5 : Int32)) L = true) (hn : ∀ M', Inv (t + 1) M' → V g kL_law (jL g L xs) 1725 [some (.ref 200), some (.ref 0), some (.ref 49), some (.int x)] [] M') : V g kL_law (jL g L xs) 778 [some (.ref 200), some (.ref 0), some (.ref 49), some (.int x)] [] M := by
  obtain ⟨v, w, e1, e2, e3, hI2⟩ := ok_meet ht hI (xs (ix (x + (1 : Int32)))) (xs (ix (x + (2 : Int32))))
  refine v_aload_n dL_law_778 rfl ?_
  refine v_aload_n dL_law_779 rfl ?_
  refine v_iload_n dL_law_780 rfl ?_
  refine v_iconst (v := 1) dL_law_781 rfl ?_
  refine v_iadd dL_law_782 ?_
  refine v_scl hi1 dL_law_783 ?_
  refine v_aload_n dL_law_784 rfl ?_
  refine v_iload_n dL_law_785 rfl ?_
  refine v_iconst (v := 2) dL_law_786 rfl ?_
  refine v_iadd dL_law_787 ?_
  refine v_scl hi2 dL_law_788 ?_
  refine v_callV (as := [.int (xs (ix (x + (1 : Int32)))), .int (xs (ix (x + (2 : Int32))))]) (st := []) (sX5_meet e1) dL_law_789 mlL_81 (CRL (by decide) (by decide)) sh_0 rfl rfl rfl (Nat.le_of_ble_eq_true rfl) ?_
  refine v_aload_n dL_law_792 rfl ?_
  refine v_aload_n dL_law_793 rfl ?_
  refine v_iload_n dL_law_794 rfl ?_
  refine v_iconst (v := 1) dL_law_795 rfl ?_
  refine v_iadd dL_law_796 ?_
  refine v_scl hi1 dL_law_797 ?_
  refine v_aload_n dL_law_798 rfl ?_
  refine v_iload_n dL_law_799 rfl ?_
  refine v_iconst (v := 2) dL_law_800 rfl ?_
  refine v_iadd dL_law_801 ?_
  refine v_scl hi2 dL_law_802 ?_
  refine v_callV (as := [.int (xs (ix (x + (1 : Int32)))), .int (xs (ix (x + (2 : Int32))))]) (st := [.int v.1]) (sX6_meet e2) dL_law_803 mlL_84 (CRL (by decide) (by decide)) sh_49 rfl rfl rfl (Nat.le_of_ble_eq_true rfl) ?_
  refine v_icmp_eq (tgt := 1725) dL_law_806 rfl (fun _ => ?_) (fun c => absurd e3 c)
  exact hn _ hI2
set_option maxRecDepth 100000 in
set_option maxHeartbeats 4000000 in
theorem law_17 {g : Wo} {L : Nat} {xs : Nat → Int32} {t : Nat} {x : Int32} {M : Mem} (ht : t < 512) (hI : Inv t M) (hi1 : inb (x + (1 : Int32)) L = true) (hi2 : inb (x + (2 : Int32)) L = true) (hi3 : inb (x + (3 : Int32)) L = true) (hi4 : inb (x + (4 : Int32)) L = true) (hi5 : inb (x + (5 : Int32)) L = true) (hn : ∀ M', Inv (t + 1) M' → V g kL_law (jL g L xs) 1725 [some (.ref 200), some (.ref 0), some (.ref 49), some (.int x)] [] M') : V g kL_law (jL g L xs) 811 [some (.ref 200), some (.ref 0), some (.ref 49), some (.int x)] [] M := by
  obtain ⟨v, w, e1, e2, e3, hI2⟩ := ok_spares ht hI (xs (ix (x + (1 : Int32))))
  refine v_aload_n dL_law_811 rfl ?_
  refine v_aload_n dL_law_812 rfl ?_
  refine v_iload_n dL_law_813 rfl ?_
  refine v_iconst (v := 1) dL_law_814 rfl ?_
  refine v_iadd dL_law_815 ?_
  refine v_scl hi1 dL_law_816 ?_
  refine v_callV (as := [.int (xs (ix (x + (1 : Int32))))]) (st := []) (sX5_spares e1) dL_law_817 mlL_85 (CRL (by decide) (by decide)) sh_0 rfl rfl rfl (Nat.le_of_ble_eq_true rfl) ?_
  refine v_aload_n dL_law_820 rfl ?_
  refine v_aload_n dL_law_821 rfl ?_
  refine v_iload_n dL_law_822 rfl ?_
  refine v_iconst (v := 1) dL_law_823 rfl ?_
  refine v_iadd dL_law_824 ?_
  refine v_scl hi1 dL_law_825 ?_
  refine v_callV (as := [.int (xs (ix (x + (1 : Int32))))]) (st := [.int v.1]) (sX6_spares e2) dL_law_826 mlL_88 (CRL (by decide) (by decide)) sh_49 rfl rfl rfl (Nat.le_of_ble_eq_true rfl) ?_
  refine v_icmp_eq (tgt := 1725) dL_law_829 rfl (fun _ => ?_) (fun c => absurd e3 c)
  exact hn _ hI2
set_option maxRecDepth 100000 in
set_option maxHeartbeats 4000000 in
theorem law_18 {g : Wo} {L : Nat} {xs : Nat → Int32} {t : Nat} {x : Int32} {M : Mem} (ht : t < 512) (hI : Inv t M) (hi1 : inb (x + (1 : Int32)) L = true) (hi2 : inb (x + (2 : Int32)) L = true) (hi3 : inb (x + (3 : Int32)) L = true) (hi4 : inb (x + (4 : Int32)) L = true) (hi5 : inb (x + (5 : Int32)) L = true) (hn : ∀ M', Inv (t + 1) M' → V g kL_law (jL g L xs) 1725 [some (.ref 200), some (.ref 0), some (.ref 49), some (.int x)] [] M') : V g kL_law (jL g L xs) 834 [some (.ref 200), some (.ref 0), some (.ref 49), some (.int x)] [] M := by
  obtain ⟨v, w, e1, e2, e3, hI2⟩ := ok_closes ht hI (xs (ix (x + (1 : Int32)))) (xs (ix (x + (2 : Int32))))
  refine v_aload_n dL_law_834 rfl ?_
  refine v_aload_n dL_law_835 rfl ?_
  refine v_iload_n dL_law_836 rfl ?_
  refine v_iconst (v := 1) dL_law_837 rfl ?_
  refine v_iadd dL_law_838 ?_
  refine v_scl hi1 dL_law_839 ?_
  refine v_aload_n dL_law_840 rfl ?_
  refine v_iload_n dL_law_841 rfl ?_
  refine v_iconst (v := 2) dL_law_842 rfl ?_
  refine v_iadd dL_law_843 ?_
  refine v_scl hi2 dL_law_844 ?_
  refine v_callV (as := [.int (xs (ix (x + (1 : Int32)))), .int (xs (ix (x + (2 : Int32))))]) (st := []) (sX5_closes e1) dL_law_845 mlL_89 (CRL (by decide) (by decide)) sh_0 rfl rfl rfl (Nat.le_of_ble_eq_true rfl) ?_
  refine v_aload_n dL_law_848 rfl ?_
  refine v_aload_n dL_law_849 rfl ?_
  refine v_iload_n dL_law_850 rfl ?_
  refine v_iconst (v := 1) dL_law_851 rfl ?_
  refine v_iadd dL_law_852 ?_
  refine v_scl hi1 dL_law_853 ?_
  refine v_aload_n dL_law_854 rfl ?_
  refine v_iload_n dL_law_855 rfl ?_
  refine v_iconst (v := 2) dL_law_856 rfl ?_
  refine v_iadd dL_law_857 ?_
  refine v_scl hi2 dL_law_858 ?_
  refine v_callV (as := [.int (xs (ix (x + (1 : Int32)))), .int (xs (ix (x + (2 : Int32))))]) (st := [.int v.1]) (sX6_closes e2) dL_law_859 mlL_92 (CRL (by decide) (by decide)) sh_49 rfl rfl rfl (Nat.le_of_ble_eq_true rfl) ?_
  refine v_icmp_eq (tgt := 1725) dL_law_862 rfl (fun _ => ?_) (fun c => absurd e3 c)
  exact hn _ hI2
set_option maxRecDepth 100000 in
set_option maxHeartbeats 4000000 in
theorem law_19 {g : Wo} {L : Nat} {xs : Nat → Int32} {t : Nat} {x : Int32} {M : Mem} (ht : t < 512) (hI : Inv t M) (hi1 : inb (x + (1 : Int32)) L = true) (hi2 : inb (x + (2 : Int32)) L = true) (hi3 : inb (x + (3 : Int32)) L = true) (hi4 : inb (x + (4 : Int32)) L = true) (hi5 : inb (x + (5 : Int32)) L = true) (hn : ∀ M', Inv (t + 1) M' → V g kL_law (jL g L xs) 1725 [some (.ref 200), some (.ref 0), some (.ref 49), some (.int x)] [] M') : V g kL_law (jL g L xs) 867 [some (.ref 200), some (.ref 0), some (.ref 49), some (.int x)] [] M := by
  obtain ⟨v, w, e1, e2, e3, hI2⟩ := ok_bumps ht hI (xs (ix (x + (1 : Int32)))) (xs (ix (x + (2 : Int32))))
  refine v_aload_n dL_law_867 rfl ?_
  refine v_aload_n dL_law_868 rfl ?_
  refine v_iload_n dL_law_869 rfl ?_
  refine v_iconst (v := 1) dL_law_870 rfl ?_
  refine v_iadd dL_law_871 ?_
  refine v_scl hi1 dL_law_872 ?_
  refine v_aload_n dL_law_873 rfl ?_
  refine v_iload_n dL_law_874 rfl ?_
  refine v_iconst (v := 2) dL_law_875 rfl ?_
  refine v_iadd dL_law_876 ?_
  refine v_scl hi2 dL_law_877 ?_
  refine v_callV (as := [.int (xs (ix (x + (1 : Int32)))), .int (xs (ix (x + (2 : Int32))))]) (st := []) (sX5_bumps e1) dL_law_878 mlL_93 (CRL (by decide) (by decide)) sh_0 rfl rfl rfl (Nat.le_of_ble_eq_true rfl) ?_
  refine v_aload_n dL_law_881 rfl ?_
  refine v_aload_n dL_law_882 rfl ?_
  refine v_iload_n dL_law_883 rfl ?_
  refine v_iconst (v := 1) dL_law_884 rfl ?_
  refine v_iadd dL_law_885 ?_
  refine v_scl hi1 dL_law_886 ?_
  refine v_aload_n dL_law_887 rfl ?_
  refine v_iload_n dL_law_888 rfl ?_
  refine v_iconst (v := 2) dL_law_889 rfl ?_
  refine v_iadd dL_law_890 ?_
  refine v_scl hi2 dL_law_891 ?_
  refine v_callV (as := [.int (xs (ix (x + (1 : Int32)))), .int (xs (ix (x + (2 : Int32))))]) (st := [.int v.1]) (sX6_bumps e2) dL_law_892 mlL_96 (CRL (by decide) (by decide)) sh_49 rfl rfl rfl (Nat.le_of_ble_eq_true rfl) ?_
  refine v_icmp_eq (tgt := 1725) dL_law_895 rfl (fun _ => ?_) (fun c => absurd e3 c)
  exact hn _ hI2
set_option maxRecDepth 100000 in
set_option maxHeartbeats 4000000 in
theorem law_20 {g : Wo} {L : Nat} {xs : Nat → Int32} {t : Nat} {x : Int32} {M : Mem} (ht : t < 512) (hI : Inv t M) (hi1 : inb (x + (1 : Int32)) L = true) (hi2 : inb (x + (2 : Int32)) L = true) (hi3 : inb (x + (3 : Int32)) L = true) (hi4 : inb (x + (4 : Int32)) L = true) (hi5 : inb (x + (5 : Int32)) L = true) (hn : ∀ M', Inv (t + 1) M' → V g kL_law (jL g L xs) 1725 [some (.ref 200), some (.ref 0), some (.ref 49), some (.int x)] [] M') : V g kL_law (jL g L xs) 900 [some (.ref 200), some (.ref 0), some (.ref 49), some (.int x)] [] M := by
  obtain ⟨v, w, e1, e2, e3, hI2⟩ := ok_square ht hI (xs (ix (x + (1 : Int32)))) (xs (ix (x + (2 : Int32)))) (xs (ix (x + (3 : Int32))))
  refine v_aload_n dL_law_900 rfl ?_
  refine v_aload_n dL_law_901 rfl ?_
  refine v_iload_n dL_law_902 rfl ?_
  refine v_iconst (v := 1) dL_law_903 rfl ?_
  refine v_iadd dL_law_904 ?_
  refine v_scl hi1 dL_law_905 ?_
  refine v_aload_n dL_law_906 rfl ?_
  refine v_iload_n dL_law_907 rfl ?_
  refine v_iconst (v := 2) dL_law_908 rfl ?_
  refine v_iadd dL_law_909 ?_
  refine v_scl hi2 dL_law_910 ?_
  refine v_aload_n dL_law_911 rfl ?_
  refine v_iload_n dL_law_912 rfl ?_
  refine v_iconst (v := 3) dL_law_913 rfl ?_
  refine v_iadd dL_law_914 ?_
  refine v_scl hi3 dL_law_915 ?_
  refine v_callV (as := [.int (xs (ix (x + (1 : Int32)))), .int (xs (ix (x + (2 : Int32)))), .int (xs (ix (x + (3 : Int32))))]) (st := []) (sX5_square e1) dL_law_916 mlL_97 (CRL (by decide) (by decide)) sh_0 rfl rfl rfl (Nat.le_of_ble_eq_true rfl) ?_
  refine v_aload_n dL_law_919 rfl ?_
  refine v_aload_n dL_law_920 rfl ?_
  refine v_iload_n dL_law_921 rfl ?_
  refine v_iconst (v := 1) dL_law_922 rfl ?_
  refine v_iadd dL_law_923 ?_
  refine v_scl hi1 dL_law_924 ?_
  refine v_aload_n dL_law_925 rfl ?_
  refine v_iload_n dL_law_926 rfl ?_
  refine v_iconst (v := 2) dL_law_927 rfl ?_
  refine v_iadd dL_law_928 ?_
  refine v_scl hi2 dL_law_929 ?_
  refine v_aload_n dL_law_930 rfl ?_
  refine v_iload_n dL_law_931 rfl ?_
  refine v_iconst (v := 3) dL_law_932 rfl ?_
  refine v_iadd dL_law_933 ?_
  refine v_scl hi3 dL_law_934 ?_
  refine v_callV (as := [.int (xs (ix (x + (1 : Int32)))), .int (xs (ix (x + (2 : Int32)))), .int (xs (ix (x + (3 : Int32))))]) (st := [.int v.1]) (sX6_square e2) dL_law_935 mlL_100 (CRL (by decide) (by decide)) sh_49 rfl rfl rfl (Nat.le_of_ble_eq_true rfl) ?_
  refine v_icmp_eq (tgt := 1725) dL_law_938 rfl (fun _ => ?_) (fun c => absurd e3 c)
  exact hn _ hI2
set_option maxRecDepth 100000 in
set_option maxHeartbeats 4000000 in
theorem law_21 {g : Wo} {L : Nat} {xs : Nat → Int32} {t : Nat} {x : Int32} {M : Mem} (ht : t < 512) (hI : Inv t M) (hi1 : inb (x + (1 : Int32)) L = true) (hi2 : inb (x + (2 : Int32)) L = true) (hi3 : inb (x + (3 : Int32)) L = true) (hi4 : inb (x + (4 : Int32)) L = true) (hi5 : inb (x + (5 : Int32)) L = true) (hn : ∀ M', Inv (t + 1) M' → V g kL_law (jL g L xs) 1725 [some (.ref 200), some (.ref 0), some (.ref 49), some (.int x)] [] M') : V g kL_law (jL g L xs) 943 [some (.ref 200), some (.ref 0), some (.ref 49), some (.int x)] [] M := by
  obtain ⟨v, w, e1, e2, e3, hI2⟩ := ok_dine ht hI (xs (ix (x + (1 : Int32)))) (xs (ix (x + (2 : Int32)))) (xs (ix (x + (3 : Int32)))) (xs (ix (x + (4 : Int32))))
  refine v_aload_n dL_law_943 rfl ?_
  refine v_aload_n dL_law_944 rfl ?_
  refine v_iload_n dL_law_945 rfl ?_
  refine v_iconst (v := 1) dL_law_946 rfl ?_
  refine v_iadd dL_law_947 ?_
  refine v_scl hi1 dL_law_948 ?_
  refine v_aload_n dL_law_949 rfl ?_
  refine v_iload_n dL_law_950 rfl ?_
  refine v_iconst (v := 2) dL_law_951 rfl ?_
  refine v_iadd dL_law_952 ?_
  refine v_scl hi2 dL_law_953 ?_
  refine v_aload_n dL_law_954 rfl ?_
  refine v_iload_n dL_law_955 rfl ?_
  refine v_iconst (v := 3) dL_law_956 rfl ?_
  refine v_iadd dL_law_957 ?_
  refine v_scl hi3 dL_law_958 ?_
  refine v_aload_n dL_law_959 rfl ?_
  refine v_iload_n dL_law_960 rfl ?_
  refine v_iconst (v := 4) dL_law_961 rfl ?_
  refine v_iadd dL_law_962 ?_
  refine v_scl hi4 dL_law_963 ?_
  refine v_callV (as := [.int (xs (ix (x + (1 : Int32)))), .int (xs (ix (x + (2 : Int32)))), .int (xs (ix (x + (3 : Int32)))), .int (xs (ix (x + (4 : Int32))))]) (st := []) (sX5_dine e1) dL_law_964 mlL_101 (CRL (by decide) (by decide)) sh_0 rfl rfl rfl (Nat.le_of_ble_eq_true rfl) ?_
  refine v_aload_n dL_law_967 rfl ?_
  refine v_aload_n dL_law_968 rfl ?_
  refine v_iload_n dL_law_969 rfl ?_
  refine v_iconst (v := 1) dL_law_970 rfl ?_
  refine v_iadd dL_law_971 ?_
  refine v_scl hi1 dL_law_972 ?_
  refine v_aload_n dL_law_973 rfl ?_
  refine v_iload_n dL_law_974 rfl ?_
  refine v_iconst (v := 2) dL_law_975 rfl ?_
  refine v_iadd dL_law_976 ?_
  refine v_scl hi2 dL_law_977 ?_
  refine v_aload_n dL_law_978 rfl ?_
  refine v_iload_n dL_law_979 rfl ?_
  refine v_iconst (v := 3) dL_law_980 rfl ?_
  refine v_iadd dL_law_981 ?_
  refine v_scl hi3 dL_law_982 ?_
  refine v_aload_n dL_law_983 rfl ?_
  refine v_iload_n dL_law_984 rfl ?_
  refine v_iconst (v := 4) dL_law_985 rfl ?_
  refine v_iadd dL_law_986 ?_
  refine v_scl hi4 dL_law_987 ?_
  refine v_callV (as := [.int (xs (ix (x + (1 : Int32)))), .int (xs (ix (x + (2 : Int32)))), .int (xs (ix (x + (3 : Int32)))), .int (xs (ix (x + (4 : Int32))))]) (st := [.int v.1]) (sX6_dine e2) dL_law_988 mlL_104 (CRL (by decide) (by decide)) sh_49 rfl rfl rfl (Nat.le_of_ble_eq_true rfl) ?_
  refine v_icmp_eq (tgt := 1725) dL_law_991 rfl (fun _ => ?_) (fun c => absurd e3 c)
  exact hn _ hI2
set_option maxRecDepth 100000 in
set_option maxHeartbeats 4000000 in
theorem law_22 {g : Wo} {L : Nat} {xs : Nat → Int32} {t : Nat} {x : Int32} {M : Mem} (ht : t < 512) (hI : Inv t M) (hi1 : inb (x + (1 : Int32)) L = true) (hi2 : inb (x + (2 : Int32)) L = true) (hi3 : inb (x + (3 : Int32)) L = true) (hi4 : inb (x + (4 : Int32)) L = true) (hi5 : inb (x + (5 : Int32)) L = true) (hn : ∀ M', Inv (t + 1) M' → V g kL_law (jL g L xs) 1725 [some (.ref 200), some (.ref 0), some (.ref 49), some (.int x)] [] M') : V g kL_law (jL g L xs) 996 [some (.ref 200), some (.ref 0), some (.ref 49), some (.int x)] [] M := by
  obtain ⟨v, w, e1, e2, e3, hI2⟩ := ok_sees ht hI (xs (ix (x + (1 : Int32)))) (xs (ix (x + (2 : Int32))))
  refine v_aload_n dL_law_996 rfl ?_
  refine v_aload_n dL_law_997 rfl ?_
  refine v_iload_n dL_law_998 rfl ?_
  refine v_iconst (v := 1) dL_law_999 rfl ?_
  refine v_iadd dL_law_1000 ?_
  refine v_scl hi1 dL_law_1001 ?_
  refine v_aload_n dL_law_1002 rfl ?_
  refine v_iload_n dL_law_1003 rfl ?_
  refine v_iconst (v := 2) dL_law_1004 rfl ?_
  refine v_iadd dL_law_1005 ?_
  refine v_scl hi2 dL_law_1006 ?_
  refine v_callV (as := [.int (xs (ix (x + (1 : Int32)))), .int (xs (ix (x + (2 : Int32))))]) (st := []) (sX5_sees e1) dL_law_1007 mlL_105 (CRL (by decide) (by decide)) sh_0 rfl rfl rfl (Nat.le_of_ble_eq_true rfl) ?_
  refine v_aload_n dL_law_1010 rfl ?_
  refine v_aload_n dL_law_1011 rfl ?_
  refine v_iload_n dL_law_1012 rfl ?_
  refine v_iconst (v := 1) dL_law_1013 rfl ?_
  refine v_iadd dL_law_1014 ?_
  refine v_scl hi1 dL_law_1015 ?_
  refine v_aload_n dL_law_1016 rfl ?_
  refine v_iload_n dL_law_1017 rfl ?_
  refine v_iconst (v := 2) dL_law_1018 rfl ?_
  refine v_iadd dL_law_1019 ?_
  refine v_scl hi2 dL_law_1020 ?_
  refine v_callV (as := [.int (xs (ix (x + (1 : Int32)))), .int (xs (ix (x + (2 : Int32))))]) (st := [.int v.1]) (sX6_sees e2) dL_law_1021 mlL_108 (CRL (by decide) (by decide)) sh_49 rfl rfl rfl (Nat.le_of_ble_eq_true rfl) ?_
  refine v_icmp_eq (tgt := 1725) dL_law_1024 rfl (fun _ => ?_) (fun c => absurd e3 c)
  exact hn _ hI2
set_option maxRecDepth 100000 in
set_option maxHeartbeats 4000000 in
theorem law_23 {g : Wo} {L : Nat} {xs : Nat → Int32} {t : Nat} {x : Int32} {M : Mem} (ht : t < 512) (hI : Inv t M) (hi1 : inb (x + (1 : Int32)) L = true) (hi2 : inb (x + (2 : Int32)) L = true) (hi3 : inb (x + (3 : Int32)) L = true) (hi4 : inb (x + (4 : Int32)) L = true) (hi5 : inb (x + (5 : Int32)) L = true) (hn : ∀ M', Inv (t + 1) M' → V g kL_law (jL g L xs) 1725 [some (.ref 200), some (.ref 0), some (.ref 49), some (.int x)] [] M') : V g kL_law (jL g L xs) 1029 [some (.ref 200), some (.ref 0), some (.ref 49), some (.int x)] [] M := by
  obtain ⟨v, w, e1, e2, e3, hI2⟩ := ok_twice ht hI (xs (ix (x + (1 : Int32))))
  refine v_aload_n dL_law_1029 rfl ?_
  refine v_aload_n dL_law_1030 rfl ?_
  refine v_iload_n dL_law_1031 rfl ?_
  refine v_iconst (v := 1) dL_law_1032 rfl ?_
  refine v_iadd dL_law_1033 ?_
  refine v_scl hi1 dL_law_1034 ?_
  refine v_callV (as := [.int (xs (ix (x + (1 : Int32))))]) (st := []) (sX5_twice e1) dL_law_1035 mlL_109 (CRL (by decide) (by decide)) sh_0 rfl rfl rfl (Nat.le_of_ble_eq_true rfl) ?_
  refine v_aload_n dL_law_1038 rfl ?_
  refine v_aload_n dL_law_1039 rfl ?_
  refine v_iload_n dL_law_1040 rfl ?_
  refine v_iconst (v := 1) dL_law_1041 rfl ?_
  refine v_iadd dL_law_1042 ?_
  refine v_scl hi1 dL_law_1043 ?_
  refine v_callV (as := [.int (xs (ix (x + (1 : Int32))))]) (st := [.int v.1]) (sX6_twice e2) dL_law_1044 mlL_112 (CRL (by decide) (by decide)) sh_49 rfl rfl rfl (Nat.le_of_ble_eq_true rfl) ?_
  refine v_icmp_eq (tgt := 1725) dL_law_1047 rfl (fun _ => ?_) (fun c => absurd e3 c)
  exact hn _ hI2
set_option maxRecDepth 100000 in
set_option maxHeartbeats 4000000 in
theorem law_24 {g : Wo} {L : Nat} {xs : Nat → Int32} {t : Nat} {x : Int32} {M : Mem} (ht : t < 512) (hI : Inv t M) (hi1 : inb (x + (1 : Int32)) L = true) (hi2 : inb (x + (2 : Int32)) L = true) (hi3 : inb (x + (3 : Int32)) L = true) (hi4 : inb (x + (4 : Int32)) L = true) (hi5 : inb (x + (5 : Int32)) L = true) (hn : ∀ M', Inv (t + 1) M' → V g kL_law (jL g L xs) 1725 [some (.ref 200), some (.ref 0), some (.ref 49), some (.int x)] [] M') : V g kL_law (jL g L xs) 1052 [some (.ref 200), some (.ref 0), some (.ref 49), some (.int x)] [] M := by
  obtain ⟨v, w, e1, e2, e3, hI2⟩ := ok_about ht hI (xs (ix (x + (1 : Int32)))) (xs (ix (x + (2 : Int32))))
  refine v_aload_n dL_law_1052 rfl ?_
  refine v_aload_n dL_law_1053 rfl ?_
  refine v_iload_n dL_law_1054 rfl ?_
  refine v_iconst (v := 1) dL_law_1055 rfl ?_
  refine v_iadd dL_law_1056 ?_
  refine v_scl hi1 dL_law_1057 ?_
  refine v_aload_n dL_law_1058 rfl ?_
  refine v_iload_n dL_law_1059 rfl ?_
  refine v_iconst (v := 2) dL_law_1060 rfl ?_
  refine v_iadd dL_law_1061 ?_
  refine v_scl hi2 dL_law_1062 ?_
  refine v_callV (as := [.int (xs (ix (x + (1 : Int32)))), .int (xs (ix (x + (2 : Int32))))]) (st := []) (sX5_about e1) dL_law_1063 mlL_113 (CRL (by decide) (by decide)) sh_0 rfl rfl rfl (Nat.le_of_ble_eq_true rfl) ?_
  refine v_aload_n dL_law_1066 rfl ?_
  refine v_aload_n dL_law_1067 rfl ?_
  refine v_iload_n dL_law_1068 rfl ?_
  refine v_iconst (v := 1) dL_law_1069 rfl ?_
  refine v_iadd dL_law_1070 ?_
  refine v_scl hi1 dL_law_1071 ?_
  refine v_aload_n dL_law_1072 rfl ?_
  refine v_iload_n dL_law_1073 rfl ?_
  refine v_iconst (v := 2) dL_law_1074 rfl ?_
  refine v_iadd dL_law_1075 ?_
  refine v_scl hi2 dL_law_1076 ?_
  refine v_callV (as := [.int (xs (ix (x + (1 : Int32)))), .int (xs (ix (x + (2 : Int32))))]) (st := [.int v.1]) (sX6_about e2) dL_law_1077 mlL_116 (CRL (by decide) (by decide)) sh_49 rfl rfl rfl (Nat.le_of_ble_eq_true rfl) ?_
  refine v_icmp_eq (tgt := 1725) dL_law_1080 rfl (fun _ => ?_) (fun c => absurd e3 c)
  exact hn _ hI2
set_option maxRecDepth 100000 in
set_option maxHeartbeats 4000000 in
theorem law_25 {g : Wo} {L : Nat} {xs : Nat → Int32} {t : Nat} {x : Int32} {M : Mem} (ht : t < 512) (hI : Inv t M) (hi1 : inb (x + (1 : Int32)) L = true) (hi2 : inb (x + (2 : Int32)) L = true) (hi3 : inb (x + (3 : Int32)) L = true) (hi4 : inb (x + (4 : Int32)) L = true) (hi5 : inb (x + (5 : Int32)) L = true) (hn : ∀ M', Inv (t + 1) M' → V g kL_law (jL g L xs) 1725 [some (.ref 200), some (.ref 0), some (.ref 49), some (.int x)] [] M') : V g kL_law (jL g L xs) 1085 [some (.ref 200), some (.ref 0), some (.ref 49), some (.int x)] [] M := by
  obtain ⟨v, w, e1, e2, e3, hI2⟩ := ok_corners ht hI
  refine v_aload_n dL_law_1085 rfl ?_
  refine v_callV (as := []) (st := []) (sX5_corners e1) dL_law_1086 mlL_117 (CRL (by decide) (by decide)) sh_0 rfl rfl rfl (Nat.le_of_ble_eq_true rfl) ?_
  refine v_aload_n dL_law_1089 rfl ?_
  refine v_callV (as := []) (st := [.int v]) (sX6_corners e2) dL_law_1090 mlL_121 (CRL (by decide) (by decide)) sh_49 rfl rfl rfl (Nat.le_of_ble_eq_true rfl) ?_
  refine v_icmp_eq (tgt := 1725) dL_law_1093 rfl (fun _ => ?_) (fun c => absurd e3 c)
  exact hn _ hI2
set_option maxRecDepth 100000 in
set_option maxHeartbeats 4000000 in
theorem law_26 {g : Wo} {L : Nat} {xs : Nat → Int32} {t : Nat} {x : Int32} {M : Mem} (ht : t < 512) (hI : Inv t M) (hi1 : inb (x + (1 : Int32)) L = true) (hi2 : inb (x + (2 : Int32)) L = true) (hi3 : inb (x + (3 : Int32)) L = true) (hi4 : inb (x + (4 : Int32)) L = true) (hi5 : inb (x + (5 : Int32)) L = true) (hn : ∀ M', Inv (t + 1) M' → V g kL_law (jL g L xs) 1725 [some (.ref 200), some (.ref 0), some (.ref 49), some (.int x)] [] M') : V g kL_law (jL g L xs) 1098 [some (.ref 200), some (.ref 0), some (.ref 49), some (.int x)] [] M := by
  obtain ⟨v, w, e1, e2, e3, hI2⟩ := ok_excess ht hI
  refine v_aload_n dL_law_1098 rfl ?_
  refine v_callV (as := []) (st := []) (sX5_excess e1) dL_law_1099 mlL_122 (CRL (by decide) (by decide)) sh_0 rfl rfl rfl (Nat.le_of_ble_eq_true rfl) ?_
  refine v_aload_n dL_law_1102 rfl ?_
  refine v_callV (as := []) (st := [.int v]) (sX6_excess e2) dL_law_1103 mlL_125 (CRL (by decide) (by decide)) sh_49 rfl rfl rfl (Nat.le_of_ble_eq_true rfl) ?_
  refine v_icmp_eq (tgt := 1725) dL_law_1106 rfl (fun _ => ?_) (fun c => absurd e3 c)
  exact hn _ hI2
set_option maxRecDepth 100000 in
set_option maxHeartbeats 4000000 in
theorem law_27 {g : Wo} {L : Nat} {xs : Nat → Int32} {t : Nat} {x : Int32} {M : Mem} (ht : t < 512) (hI : Inv t M) (hi1 : inb (x + (1 : Int32)) L = true) (hi2 : inb (x + (2 : Int32)) L = true) (hi3 : inb (x + (3 : Int32)) L = true) (hi4 : inb (x + (4 : Int32)) L = true) (hi5 : inb (x + (5 : Int32)) L = true) (hn : ∀ M', Inv (t + 1) M' → V g kL_law (jL g L xs) 1725 [some (.ref 200), some (.ref 0), some (.ref 49), some (.int x)] [] M') : V g kL_law (jL g L xs) 1111 [some (.ref 200), some (.ref 0), some (.ref 49), some (.int x)] [] M := by
  obtain ⟨v, w, e1, e2, e3, hI2⟩ := ok_bent ht hI
  refine v_aload_n dL_law_1111 rfl ?_
  refine v_callV (as := []) (st := []) (sX5_bent e1) dL_law_1112 mlL_126 (CRL (by decide) (by decide)) sh_0 rfl rfl rfl (Nat.le_of_ble_eq_true rfl) ?_
  refine v_aload_n dL_law_1115 rfl ?_
  refine v_callV (as := []) (st := [.int v]) (sX6_bent e2) dL_law_1116 mlL_129 (CRL (by decide) (by decide)) sh_49 rfl rfl rfl (Nat.le_of_ble_eq_true rfl) ?_
  refine v_icmp_eq (tgt := 1725) dL_law_1119 rfl (fun _ => ?_) (fun c => absurd e3 c)
  exact hn _ hI2
set_option maxRecDepth 100000 in
set_option maxHeartbeats 4000000 in
theorem law_28 {g : Wo} {L : Nat} {xs : Nat → Int32} {t : Nat} {x : Int32} {M : Mem} (ht : t < 512) (hI : Inv t M) (hi1 : inb (x + (1 : Int32)) L = true) (hi2 : inb (x + (2 : Int32)) L = true) (hi3 : inb (x + (3 : Int32)) L = true) (hi4 : inb (x + (4 : Int32)) L = true) (hi5 : inb (x + (5 : Int32)) L = true) (hn : ∀ M', Inv (t + 1) M' → V g kL_law (jL g L xs) 1725 [some (.ref 200), some (.ref 0), some (.ref 49), some (.int x)] [] M') : V g kL_law (jL g L xs) 1124 [some (.ref 200), some (.ref 0), some (.ref 49), some (.int x)] [] M := by
  obtain ⟨v, w, e1, e2, e3, hI2⟩ := ok_parts ht hI
  refine v_aload_n dL_law_1124 rfl ?_
  refine v_callV (as := []) (st := []) (sX5_parts e1) dL_law_1125 mlL_130 (CRL (by decide) (by decide)) sh_0 rfl rfl rfl (Nat.le_of_ble_eq_true rfl) ?_
  refine v_aload_n dL_law_1128 rfl ?_
  refine v_callV (as := []) (st := [.int v.1]) (sX6_parts e2) dL_law_1129 mlL_133 (CRL (by decide) (by decide)) sh_49 rfl rfl rfl (Nat.le_of_ble_eq_true rfl) ?_
  refine v_icmp_eq (tgt := 1725) dL_law_1132 rfl (fun _ => ?_) (fun c => absurd e3 c)
  exact hn _ hI2
set_option maxRecDepth 100000 in
set_option maxHeartbeats 4000000 in
theorem law_29 {g : Wo} {L : Nat} {xs : Nat → Int32} {t : Nat} {x : Int32} {M : Mem} (ht : t < 512) (hI : Inv t M) (hi1 : inb (x + (1 : Int32)) L = true) (hi2 : inb (x + (2 : Int32)) L = true) (hi3 : inb (x + (3 : Int32)) L = true) (hi4 : inb (x + (4 : Int32)) L = true) (hi5 : inb (x + (5 : Int32)) L = true) (hn : ∀ M', Inv (t + 1) M' → V g kL_law (jL g L xs) 1725 [some (.ref 200), some (.ref 0), some (.ref 49), some (.int x)] [] M') : V g kL_law (jL g L xs) 1137 [some (.ref 200), some (.ref 0), some (.ref 49), some (.int x)] [] M := by
  obtain ⟨v, w, e1, e2, e3, hI2⟩ := ok_far ht hI (xs (ix (x + (1 : Int32)))) (xs (ix (x + (2 : Int32))))
  refine v_aload_n dL_law_1137 rfl ?_
  refine v_aload_n dL_law_1138 rfl ?_
  refine v_iload_n dL_law_1139 rfl ?_
  refine v_iconst (v := 1) dL_law_1140 rfl ?_
  refine v_iadd dL_law_1141 ?_
  refine v_scl hi1 dL_law_1142 ?_
  refine v_aload_n dL_law_1143 rfl ?_
  refine v_iload_n dL_law_1144 rfl ?_
  refine v_iconst (v := 2) dL_law_1145 rfl ?_
  refine v_iadd dL_law_1146 ?_
  refine v_scl hi2 dL_law_1147 ?_
  refine v_callV (as := [.int (xs (ix (x + (1 : Int32)))), .int (xs (ix (x + (2 : Int32))))]) (st := []) (sX5_far e1) dL_law_1148 mlL_134 (CRL (by decide) (by decide)) sh_0 rfl rfl rfl (Nat.le_of_ble_eq_true rfl) ?_
  refine v_aload_n dL_law_1151 rfl ?_
  refine v_aload_n dL_law_1152 rfl ?_
  refine v_iload_n dL_law_1153 rfl ?_
  refine v_iconst (v := 1) dL_law_1154 rfl ?_
  refine v_iadd dL_law_1155 ?_
  refine v_scl hi1 dL_law_1156 ?_
  refine v_aload_n dL_law_1157 rfl ?_
  refine v_iload_n dL_law_1158 rfl ?_
  refine v_iconst (v := 2) dL_law_1159 rfl ?_
  refine v_iadd dL_law_1160 ?_
  refine v_scl hi2 dL_law_1161 ?_
  refine v_callV (as := [.int (xs (ix (x + (1 : Int32)))), .int (xs (ix (x + (2 : Int32))))]) (st := [.int v.1]) (sX6_far e2) dL_law_1162 mlL_137 (CRL (by decide) (by decide)) sh_49 rfl rfl rfl (Nat.le_of_ble_eq_true rfl) ?_
  refine v_icmp_eq (tgt := 1725) dL_law_1165 rfl (fun _ => ?_) (fun c => absurd e3 c)
  exact hn _ hI2
set_option maxRecDepth 100000 in
set_option maxHeartbeats 4000000 in
theorem law_30 {g : Wo} {L : Nat} {xs : Nat → Int32} {t : Nat} {x : Int32} {M : Mem} (ht : t < 512) (hI : Inv t M) (hi1 : inb (x + (1 : Int32)) L = true) (hi2 : inb (x + (2 : Int32)) L = true) (hi3 : inb (x + (3 : Int32)) L = true) (hi4 : inb (x + (4 : Int32)) L = true) (hi5 : inb (x + (5 : Int32)) L = true) (hn : ∀ M', Inv (t + 1) M' → V g kL_law (jL g L xs) 1725 [some (.ref 200), some (.ref 0), some (.ref 49), some (.int x)] [] M') : V g kL_law (jL g L xs) 1170 [some (.ref 200), some (.ref 0), some (.ref 49), some (.int x)] [] M := by
  obtain ⟨v, w, e1, e2, e3, hI2⟩ := ok_smooth ht hI (xs (ix (x + (1 : Int32)))) (xs (ix (x + (2 : Int32))))
  refine v_aload_n dL_law_1170 rfl ?_
  refine v_aload_n dL_law_1171 rfl ?_
  refine v_iload_n dL_law_1172 rfl ?_
  refine v_iconst (v := 1) dL_law_1173 rfl ?_
  refine v_iadd dL_law_1174 ?_
  refine v_scl hi1 dL_law_1175 ?_
  refine v_aload_n dL_law_1176 rfl ?_
  refine v_iload_n dL_law_1177 rfl ?_
  refine v_iconst (v := 2) dL_law_1178 rfl ?_
  refine v_iadd dL_law_1179 ?_
  refine v_scl hi2 dL_law_1180 ?_
  refine v_callV (as := [.int (xs (ix (x + (1 : Int32)))), .int (xs (ix (x + (2 : Int32))))]) (st := []) (sX5_smooth e1) dL_law_1181 mlL_138 (CRL (by decide) (by decide)) sh_0 rfl rfl rfl (Nat.le_of_ble_eq_true rfl) ?_
  refine v_aload_n dL_law_1184 rfl ?_
  refine v_aload_n dL_law_1185 rfl ?_
  refine v_iload_n dL_law_1186 rfl ?_
  refine v_iconst (v := 1) dL_law_1187 rfl ?_
  refine v_iadd dL_law_1188 ?_
  refine v_scl hi1 dL_law_1189 ?_
  refine v_aload_n dL_law_1190 rfl ?_
  refine v_iload_n dL_law_1191 rfl ?_
  refine v_iconst (v := 2) dL_law_1192 rfl ?_
  refine v_iadd dL_law_1193 ?_
  refine v_scl hi2 dL_law_1194 ?_
  refine v_callV (as := [.int (xs (ix (x + (1 : Int32)))), .int (xs (ix (x + (2 : Int32))))]) (st := [.int v.1]) (sX6_smooth e2) dL_law_1195 mlL_141 (CRL (by decide) (by decide)) sh_49 rfl rfl rfl (Nat.le_of_ble_eq_true rfl) ?_
  refine v_icmp_eq (tgt := 1725) dL_law_1198 rfl (fun _ => ?_) (fun c => absurd e3 c)
  exact hn _ hI2
set_option maxRecDepth 100000 in
set_option maxHeartbeats 4000000 in
theorem law_31 {g : Wo} {L : Nat} {xs : Nat → Int32} {t : Nat} {x : Int32} {M : Mem} (ht : t < 512) (hI : Inv t M) (hi1 : inb (x + (1 : Int32)) L = true) (hi2 : inb (x + (2 : Int32)) L = true) (hi3 : inb (x + (3 : Int32)) L = true) (hi4 : inb (x + (4 : Int32)) L = true) (hi5 : inb (x + (5 : Int32)) L = true) (hn : ∀ M', Inv (t + 1) M' → V g kL_law (jL g L xs) 1725 [some (.ref 200), some (.ref 0), some (.ref 49), some (.int x)] [] M') : V g kL_law (jL g L xs) 1203 [some (.ref 200), some (.ref 0), some (.ref 49), some (.int x)] [] M := by
  obtain ⟨v, w, e1, e2, e3, hI2⟩ := ok_turns ht hI (xs (ix (x + (1 : Int32)))) (xs (ix (x + (2 : Int32)))) (xs (ix (x + (3 : Int32))))
  refine v_aload_n dL_law_1203 rfl ?_
  refine v_aload_n dL_law_1204 rfl ?_
  refine v_iload_n dL_law_1205 rfl ?_
  refine v_iconst (v := 1) dL_law_1206 rfl ?_
  refine v_iadd dL_law_1207 ?_
  refine v_scl hi1 dL_law_1208 ?_
  refine v_aload_n dL_law_1209 rfl ?_
  refine v_iload_n dL_law_1210 rfl ?_
  refine v_iconst (v := 2) dL_law_1211 rfl ?_
  refine v_iadd dL_law_1212 ?_
  refine v_scl hi2 dL_law_1213 ?_
  refine v_aload_n dL_law_1214 rfl ?_
  refine v_iload_n dL_law_1215 rfl ?_
  refine v_iconst (v := 3) dL_law_1216 rfl ?_
  refine v_iadd dL_law_1217 ?_
  refine v_scl hi3 dL_law_1218 ?_
  refine v_callV (as := [.int (xs (ix (x + (1 : Int32)))), .int (xs (ix (x + (2 : Int32)))), .int (xs (ix (x + (3 : Int32))))]) (st := []) (sX5_turns e1) dL_law_1219 mlL_142 (CRL (by decide) (by decide)) sh_0 rfl rfl rfl (Nat.le_of_ble_eq_true rfl) ?_
  refine v_aload_n dL_law_1222 rfl ?_
  refine v_aload_n dL_law_1223 rfl ?_
  refine v_iload_n dL_law_1224 rfl ?_
  refine v_iconst (v := 1) dL_law_1225 rfl ?_
  refine v_iadd dL_law_1226 ?_
  refine v_scl hi1 dL_law_1227 ?_
  refine v_aload_n dL_law_1228 rfl ?_
  refine v_iload_n dL_law_1229 rfl ?_
  refine v_iconst (v := 2) dL_law_1230 rfl ?_
  refine v_iadd dL_law_1231 ?_
  refine v_scl hi2 dL_law_1232 ?_
  refine v_aload_n dL_law_1233 rfl ?_
  refine v_iload_n dL_law_1234 rfl ?_
  refine v_iconst (v := 3) dL_law_1235 rfl ?_
  refine v_iadd dL_law_1236 ?_
  refine v_scl hi3 dL_law_1237 ?_
  refine v_callV (as := [.int (xs (ix (x + (1 : Int32)))), .int (xs (ix (x + (2 : Int32)))), .int (xs (ix (x + (3 : Int32))))]) (st := [.int v.1]) (sX6_turns e2) dL_law_1238 mlL_145 (CRL (by decide) (by decide)) sh_49 rfl rfl rfl (Nat.le_of_ble_eq_true rfl) ?_
  refine v_icmp_eq (tgt := 1725) dL_law_1241 rfl (fun _ => ?_) (fun c => absurd e3 c)
  exact hn _ hI2
set_option maxRecDepth 100000 in
set_option maxHeartbeats 4000000 in
theorem law_32 {g : Wo} {L : Nat} {xs : Nat → Int32} {t : Nat} {x : Int32} {M : Mem} (ht : t < 512) (hI : Inv t M) (hi1 : inb (x + (1 : Int32)) L = true) (hi2 : inb (x + (2 : Int32)) L = true) (hi3 : inb (x + (3 : Int32)) L = true) (hi4 : inb (x + (4 : Int32)) L = true) (hi5 : inb (x + (5 : Int32)) L = true) (hn : ∀ M', Inv (t + 1) M' → V g kL_law (jL g L xs) 1725 [some (.ref 200), some (.ref 0), some (.ref 49), some (.int x)] [] M') : V g kL_law (jL g L xs) 1246 [some (.ref 200), some (.ref 0), some (.ref 49), some (.int x)] [] M := by
  obtain ⟨v, w, e1, e2, e3, hI2⟩ := ok_within ht hI (xs (ix (x + (1 : Int32)))) (xs (ix (x + (2 : Int32))))
  refine v_aload_n dL_law_1246 rfl ?_
  refine v_aload_n dL_law_1247 rfl ?_
  refine v_iload_n dL_law_1248 rfl ?_
  refine v_iconst (v := 1) dL_law_1249 rfl ?_
  refine v_iadd dL_law_1250 ?_
  refine v_scl hi1 dL_law_1251 ?_
  refine v_aload_n dL_law_1252 rfl ?_
  refine v_iload_n dL_law_1253 rfl ?_
  refine v_iconst (v := 2) dL_law_1254 rfl ?_
  refine v_iadd dL_law_1255 ?_
  refine v_scl hi2 dL_law_1256 ?_
  refine v_callV (as := [.int (xs (ix (x + (1 : Int32)))), .int (xs (ix (x + (2 : Int32))))]) (st := []) (sX5_within e1) dL_law_1257 mlL_146 (CRL (by decide) (by decide)) sh_0 rfl rfl rfl (Nat.le_of_ble_eq_true rfl) ?_
  refine v_aload_n dL_law_1260 rfl ?_
  refine v_aload_n dL_law_1261 rfl ?_
  refine v_iload_n dL_law_1262 rfl ?_
  refine v_iconst (v := 1) dL_law_1263 rfl ?_
  refine v_iadd dL_law_1264 ?_
  refine v_scl hi1 dL_law_1265 ?_
  refine v_aload_n dL_law_1266 rfl ?_
  refine v_iload_n dL_law_1267 rfl ?_
  refine v_iconst (v := 2) dL_law_1268 rfl ?_
  refine v_iadd dL_law_1269 ?_
  refine v_scl hi2 dL_law_1270 ?_
  refine v_callV (as := [.int (xs (ix (x + (1 : Int32)))), .int (xs (ix (x + (2 : Int32))))]) (st := [.int v.1]) (sX6_within e2) dL_law_1271 mlL_149 (CRL (by decide) (by decide)) sh_49 rfl rfl rfl (Nat.le_of_ble_eq_true rfl) ?_
  refine v_icmp_eq (tgt := 1725) dL_law_1274 rfl (fun _ => ?_) (fun c => absurd e3 c)
  exact hn _ hI2
set_option maxRecDepth 100000 in
set_option maxHeartbeats 4000000 in
theorem law_33 {g : Wo} {L : Nat} {xs : Nat → Int32} {t : Nat} {x : Int32} {M : Mem} (ht : t < 512) (hI : Inv t M) (hi1 : inb (x + (1 : Int32)) L = true) (hi2 : inb (x + (2 : Int32)) L = true) (hi3 : inb (x + (3 : Int32)) L = true) (hi4 : inb (x + (4 : Int32)) L = true) (hi5 : inb (x + (5 : Int32)) L = true) (hn : ∀ M', Inv (t + 1) M' → V g kL_law (jL g L xs) 1725 [some (.ref 200), some (.ref 0), some (.ref 49), some (.int x)] [] M') : V g kL_law (jL g L xs) 1279 [some (.ref 200), some (.ref 0), some (.ref 49), some (.int x)] [] M := by
  obtain ⟨v, w, e1, e2, e3, hI2⟩ := ok_mends ht hI (xs (ix (x + (1 : Int32)))) (xs (ix (x + (2 : Int32))))
  refine v_aload_n dL_law_1279 rfl ?_
  refine v_aload_n dL_law_1280 rfl ?_
  refine v_iload_n dL_law_1281 rfl ?_
  refine v_iconst (v := 1) dL_law_1282 rfl ?_
  refine v_iadd dL_law_1283 ?_
  refine v_scl hi1 dL_law_1284 ?_
  refine v_aload_n dL_law_1285 rfl ?_
  refine v_iload_n dL_law_1286 rfl ?_
  refine v_iconst (v := 2) dL_law_1287 rfl ?_
  refine v_iadd dL_law_1288 ?_
  refine v_scl hi2 dL_law_1289 ?_
  refine v_callV (as := [.int (xs (ix (x + (1 : Int32)))), .int (xs (ix (x + (2 : Int32))))]) (st := []) (sX5_mends e1) dL_law_1290 mlL_150 (CRL (by decide) (by decide)) sh_0 rfl rfl rfl (Nat.le_of_ble_eq_true rfl) ?_
  refine v_aload_n dL_law_1293 rfl ?_
  refine v_aload_n dL_law_1294 rfl ?_
  refine v_iload_n dL_law_1295 rfl ?_
  refine v_iconst (v := 1) dL_law_1296 rfl ?_
  refine v_iadd dL_law_1297 ?_
  refine v_scl hi1 dL_law_1298 ?_
  refine v_aload_n dL_law_1299 rfl ?_
  refine v_iload_n dL_law_1300 rfl ?_
  refine v_iconst (v := 2) dL_law_1301 rfl ?_
  refine v_iadd dL_law_1302 ?_
  refine v_scl hi2 dL_law_1303 ?_
  refine v_callV (as := [.int (xs (ix (x + (1 : Int32)))), .int (xs (ix (x + (2 : Int32))))]) (st := [.int v.1]) (sX6_mends e2) dL_law_1304 mlL_153 (CRL (by decide) (by decide)) sh_49 rfl rfl rfl (Nat.le_of_ble_eq_true rfl) ?_
  refine v_icmp_eq (tgt := 1725) dL_law_1307 rfl (fun _ => ?_) (fun c => absurd e3 c)
  exact hn _ hI2
set_option maxRecDepth 100000 in
set_option maxHeartbeats 4000000 in
theorem law_34 {g : Wo} {L : Nat} {xs : Nat → Int32} {t : Nat} {x : Int32} {M : Mem} (ht : t < 512) (hI : Inv t M) (hi1 : inb (x + (1 : Int32)) L = true) (hi2 : inb (x + (2 : Int32)) L = true) (hi3 : inb (x + (3 : Int32)) L = true) (hi4 : inb (x + (4 : Int32)) L = true) (hi5 : inb (x + (5 : Int32)) L = true) (hn : ∀ M', Inv (t + 1) M' → V g kL_law (jL g L xs) 1725 [some (.ref 200), some (.ref 0), some (.ref 49), some (.int x)] [] M') : V g kL_law (jL g L xs) 1312 [some (.ref 200), some (.ref 0), some (.ref 49), some (.int x)] [] M := by
  obtain ⟨v, w, e1, e2, e3, hI2⟩ := ok_feed ht hI (xs (ix (x + (1 : Int32)))) (xs (ix (x + (2 : Int32))))
  refine v_aload_n dL_law_1312 rfl ?_
  refine v_aload_n dL_law_1313 rfl ?_
  refine v_iload_n dL_law_1314 rfl ?_
  refine v_iconst (v := 1) dL_law_1315 rfl ?_
  refine v_iadd dL_law_1316 ?_
  refine v_scl hi1 dL_law_1317 ?_
  refine v_aload_n dL_law_1318 rfl ?_
  refine v_iload_n dL_law_1319 rfl ?_
  refine v_iconst (v := 2) dL_law_1320 rfl ?_
  refine v_iadd dL_law_1321 ?_
  refine v_scl hi2 dL_law_1322 ?_
  refine v_callV (as := [.int (xs (ix (x + (1 : Int32)))), .int (xs (ix (x + (2 : Int32))))]) (st := []) (sX5_feed e1) dL_law_1323 mlL_154 (CRL (by decide) (by decide)) sh_0 rfl rfl rfl (Nat.le_of_ble_eq_true rfl) ?_
  refine v_aload_n dL_law_1326 rfl ?_
  refine v_aload_n dL_law_1327 rfl ?_
  refine v_iload_n dL_law_1328 rfl ?_
  refine v_iconst (v := 1) dL_law_1329 rfl ?_
  refine v_iadd dL_law_1330 ?_
  refine v_scl hi1 dL_law_1331 ?_
  refine v_aload_n dL_law_1332 rfl ?_
  refine v_iload_n dL_law_1333 rfl ?_
  refine v_iconst (v := 2) dL_law_1334 rfl ?_
  refine v_iadd dL_law_1335 ?_
  refine v_scl hi2 dL_law_1336 ?_
  refine v_callV (as := [.int (xs (ix (x + (1 : Int32)))), .int (xs (ix (x + (2 : Int32))))]) (st := [.int v.1]) (sX6_feed e2) dL_law_1337 mlL_157 (CRL (by decide) (by decide)) sh_49 rfl rfl rfl (Nat.le_of_ble_eq_true rfl) ?_
  refine v_icmp_eq (tgt := 1725) dL_law_1340 rfl (fun _ => ?_) (fun c => absurd e3 c)
  exact hn _ hI2
set_option maxRecDepth 100000 in
set_option maxHeartbeats 4000000 in
theorem law_35 {g : Wo} {L : Nat} {xs : Nat → Int32} {t : Nat} {x : Int32} {M : Mem} (ht : t < 512) (hI : Inv t M) (hi1 : inb (x + (1 : Int32)) L = true) (hi2 : inb (x + (2 : Int32)) L = true) (hi3 : inb (x + (3 : Int32)) L = true) (hi4 : inb (x + (4 : Int32)) L = true) (hi5 : inb (x + (5 : Int32)) L = true) (hn : ∀ M', Inv (t + 1) M' → V g kL_law (jL g L xs) 1725 [some (.ref 200), some (.ref 0), some (.ref 49), some (.int x)] [] M') : V g kL_law (jL g L xs) 1345 [some (.ref 200), some (.ref 0), some (.ref 49), some (.int x)] [] M := by
  obtain ⟨v, w, e1, e2, e3, hI2⟩ := ok_wipe ht hI
  refine v_aload_n dL_law_1345 rfl ?_
  refine v_callV (as := []) (st := []) (sX5_wipe e1) dL_law_1346 mlL_158 (CRL (by decide) (by decide)) sh_0 rfl rfl rfl (Nat.le_of_ble_eq_true rfl) ?_
  refine v_aload_n dL_law_1349 rfl ?_
  refine v_callV (as := []) (st := [.int v.1]) (sX6_wipe e2) dL_law_1350 mlL_161 (CRL (by decide) (by decide)) sh_49 rfl rfl rfl (Nat.le_of_ble_eq_true rfl) ?_
  refine v_icmp_eq (tgt := 1725) dL_law_1353 rfl (fun _ => ?_) (fun c => absurd e3 c)
  exact hn _ hI2
set_option maxRecDepth 100000 in
set_option maxHeartbeats 4000000 in
theorem law_36 {g : Wo} {L : Nat} {xs : Nat → Int32} {t : Nat} {x : Int32} {M : Mem} (ht : t < 512) (hI : Inv t M) (hi1 : inb (x + (1 : Int32)) L = true) (hi2 : inb (x + (2 : Int32)) L = true) (hi3 : inb (x + (3 : Int32)) L = true) (hi4 : inb (x + (4 : Int32)) L = true) (hi5 : inb (x + (5 : Int32)) L = true) (hn : ∀ M', Inv (t + 1) M' → V g kL_law (jL g L xs) 1725 [some (.ref 200), some (.ref 0), some (.ref 49), some (.int x)] [] M') : V g kL_law (jL g L xs) 1358 [some (.ref 200), some (.ref 0), some (.ref 49), some (.int x)] [] M := by
  obtain ⟨v, w, e1, e2, e3, hI2⟩ := ok_plain ht hI
  refine v_aload_n dL_law_1358 rfl ?_
  refine v_callV (as := []) (st := []) (sX5_plain e1) dL_law_1359 mlL_162 (CRL (by decide) (by decide)) sh_0 rfl rfl rfl (Nat.le_of_ble_eq_true rfl) ?_
  refine v_aload_n dL_law_1362 rfl ?_
  refine v_callV (as := []) (st := [.int v.1]) (sX6_plain e2) dL_law_1363 mlL_165 (CRL (by decide) (by decide)) sh_49 rfl rfl rfl (Nat.le_of_ble_eq_true rfl) ?_
  refine v_icmp_eq (tgt := 1725) dL_law_1366 rfl (fun _ => ?_) (fun c => absurd e3 c)
  exact hn _ hI2
set_option maxRecDepth 100000 in
set_option maxHeartbeats 4000000 in
theorem law_37 {g : Wo} {L : Nat} {xs : Nat → Int32} {t : Nat} {x : Int32} {M : Mem} (ht : t < 512) (hI : Inv t M) (hi1 : inb (x + (1 : Int32)) L = true) (hi2 : inb (x + (2 : Int32)) L = true) (hi3 : inb (x + (3 : Int32)) L = true) (hi4 : inb (x + (4 : Int32)) L = true) (hi5 : inb (x + (5 : Int32)) L = true) (hn : ∀ M', Inv (t + 1) M' → V g kL_law (jL g L xs) 1725 [some (.ref 200), some (.ref 0), some (.ref 49), some (.int x)] [] M') : V g kL_law (jL g L xs) 1371 [some (.ref 200), some (.ref 0), some (.ref 49), some (.int x)] [] M := by
  obtain ⟨v, w, e1, e2, e3, hI2⟩ := ok_sheet ht hI (xs (ix (x + (1 : Int32)))) (xs (ix (x + (2 : Int32)))) (xs (ix (x + (3 : Int32))))
  refine v_aload_n dL_law_1371 rfl ?_
  refine v_aload_n dL_law_1372 rfl ?_
  refine v_iload_n dL_law_1373 rfl ?_
  refine v_iconst (v := 1) dL_law_1374 rfl ?_
  refine v_iadd dL_law_1375 ?_
  refine v_scl hi1 dL_law_1376 ?_
  refine v_aload_n dL_law_1377 rfl ?_
  refine v_iload_n dL_law_1378 rfl ?_
  refine v_iconst (v := 2) dL_law_1379 rfl ?_
  refine v_iadd dL_law_1380 ?_
  refine v_scl hi2 dL_law_1381 ?_
  refine v_aload_n dL_law_1382 rfl ?_
  refine v_iload_n dL_law_1383 rfl ?_
  refine v_iconst (v := 3) dL_law_1384 rfl ?_
  refine v_iadd dL_law_1385 ?_
  refine v_scl hi3 dL_law_1386 ?_
  refine v_callV (as := [.int (xs (ix (x + (1 : Int32)))), .int (xs (ix (x + (2 : Int32)))), .int (xs (ix (x + (3 : Int32))))]) (st := []) (sX5_sheet e1) dL_law_1387 mlL_166 (CRL (by decide) (by decide)) sh_0 rfl rfl rfl (Nat.le_of_ble_eq_true rfl) ?_
  refine v_aload_n dL_law_1390 rfl ?_
  refine v_aload_n dL_law_1391 rfl ?_
  refine v_iload_n dL_law_1392 rfl ?_
  refine v_iconst (v := 1) dL_law_1393 rfl ?_
  refine v_iadd dL_law_1394 ?_
  refine v_scl hi1 dL_law_1395 ?_
  refine v_aload_n dL_law_1396 rfl ?_
  refine v_iload_n dL_law_1397 rfl ?_
  refine v_iconst (v := 2) dL_law_1398 rfl ?_
  refine v_iadd dL_law_1399 ?_
  refine v_scl hi2 dL_law_1400 ?_
  refine v_aload_n dL_law_1401 rfl ?_
  refine v_iload_n dL_law_1402 rfl ?_
  refine v_iconst (v := 3) dL_law_1403 rfl ?_
  refine v_iadd dL_law_1404 ?_
  refine v_scl hi3 dL_law_1405 ?_
  refine v_callV (as := [.int (xs (ix (x + (1 : Int32)))), .int (xs (ix (x + (2 : Int32)))), .int (xs (ix (x + (3 : Int32))))]) (st := [.int v.1]) (sX6_sheet e2) dL_law_1406 mlL_169 (CRL (by decide) (by decide)) sh_49 rfl rfl rfl (Nat.le_of_ble_eq_true rfl) ?_
  refine v_icmp_eq (tgt := 1725) dL_law_1409 rfl (fun _ => ?_) (fun c => absurd e3 c)
  exact hn _ hI2
set_option maxRecDepth 100000 in
set_option maxHeartbeats 4000000 in
theorem law_38 {g : Wo} {L : Nat} {xs : Nat → Int32} {t : Nat} {x : Int32} {M : Mem} (ht : t < 512) (hI : Inv t M) (hi1 : inb (x + (1 : Int32)) L = true) (hi2 : inb (x + (2 : Int32)) L = true) (hi3 : inb (x + (3 : Int32)) L = true) (hi4 : inb (x + (4 : Int32)) L = true) (hi5 : inb (x + (5 : Int32)) L = true) (hn : ∀ M', Inv (t + 1) M' → V g kL_law (jL g L xs) 1725 [some (.ref 200), some (.ref 0), some (.ref 49), some (.int x)] [] M') : V g kL_law (jL g L xs) 1414 [some (.ref 200), some (.ref 0), some (.ref 49), some (.int x)] [] M := by
  obtain ⟨v, w, e1, e2, e3, hI2⟩ := ok_write ht hI (xs (ix (x + (1 : Int32)))) (xs (ix (x + (2 : Int32)))) (((((xs (ix (x + (3 : Int32))))).toInt64) <<< ((32 : Int32).toInt64 &&& 63)) ||| ((((xs (ix (x + (4 : Int32))))).toInt64) &&& (4294967295 : Int64)))
  refine v_aload_n dL_law_1414 rfl ?_
  refine v_aload_n dL_law_1415 rfl ?_
  refine v_iload_n dL_law_1416 rfl ?_
  refine v_iconst (v := 1) dL_law_1417 rfl ?_
  refine v_iadd dL_law_1418 ?_
  refine v_scl hi1 dL_law_1419 ?_
  refine v_aload_n dL_law_1420 rfl ?_
  refine v_iload_n dL_law_1421 rfl ?_
  refine v_iconst (v := 2) dL_law_1422 rfl ?_
  refine v_iadd dL_law_1423 ?_
  refine v_scl hi2 dL_law_1424 ?_
  refine v_aload_n dL_law_1425 rfl ?_
  refine v_iload_n dL_law_1426 rfl ?_
  refine v_iconst (v := 3) dL_law_1427 rfl ?_
  refine v_iadd dL_law_1428 ?_
  refine v_scl hi3 dL_law_1429 ?_
  refine v_i2l dL_law_1430 ?_
  refine v_bipush (v := 32) dL_law_1431 rfl ?_
  refine v_lshl dL_law_1433 ?_
  refine v_aload_n dL_law_1434 rfl ?_
  refine v_iload_n dL_law_1435 rfl ?_
  refine v_iconst (v := 4) dL_law_1436 rfl ?_
  refine v_iadd dL_law_1437 ?_
  refine v_scl hi4 dL_law_1438 ?_
  refine v_i2l dL_law_1439 ?_
  refine v_ldc2 (v := 4294967295) dL_law_1440 w_1259 ?_
  refine v_land dL_law_1443 ?_
  refine v_lor dL_law_1444 ?_
  refine v_callV (as := [.int (xs (ix (x + (1 : Int32)))), .int (xs (ix (x + (2 : Int32)))), .long (((((xs (ix (x + (3 : Int32))))).toInt64) <<< ((32 : Int32).toInt64 &&& 63)) ||| ((((xs (ix (x + (4 : Int32))))).toInt64) &&& (4294967295 : Int64)))]) (st := []) (sX5_write e1) dL_law_1445 mlL_172 (CRL (by decide) (by decide)) sh_0 rfl rfl rfl (Nat.le_of_ble_eq_true rfl) ?_
  refine v_aload_n dL_law_1448 rfl ?_
  refine v_aload_n dL_law_1449 rfl ?_
  refine v_iload_n dL_law_1450 rfl ?_
  refine v_iconst (v := 1) dL_law_1451 rfl ?_
  refine v_iadd dL_law_1452 ?_
  refine v_scl hi1 dL_law_1453 ?_
  refine v_aload_n dL_law_1454 rfl ?_
  refine v_iload_n dL_law_1455 rfl ?_
  refine v_iconst (v := 2) dL_law_1456 rfl ?_
  refine v_iadd dL_law_1457 ?_
  refine v_scl hi2 dL_law_1458 ?_
  refine v_aload_n dL_law_1459 rfl ?_
  refine v_iload_n dL_law_1460 rfl ?_
  refine v_iconst (v := 3) dL_law_1461 rfl ?_
  refine v_iadd dL_law_1462 ?_
  refine v_scl hi3 dL_law_1463 ?_
  refine v_i2l dL_law_1464 ?_
  refine v_bipush (v := 32) dL_law_1465 rfl ?_
  refine v_lshl dL_law_1467 ?_
  refine v_aload_n dL_law_1468 rfl ?_
  refine v_iload_n dL_law_1469 rfl ?_
  refine v_iconst (v := 4) dL_law_1470 rfl ?_
  refine v_iadd dL_law_1471 ?_
  refine v_scl hi4 dL_law_1472 ?_
  refine v_i2l dL_law_1473 ?_
  refine v_ldc2 (v := 4294967295) dL_law_1474 w_1259 ?_
  refine v_land dL_law_1477 ?_
  refine v_lor dL_law_1478 ?_
  refine v_callV (as := [.int (xs (ix (x + (1 : Int32)))), .int (xs (ix (x + (2 : Int32)))), .long (((((xs (ix (x + (3 : Int32))))).toInt64) <<< ((32 : Int32).toInt64 &&& 63)) ||| ((((xs (ix (x + (4 : Int32))))).toInt64) &&& (4294967295 : Int64)))]) (st := [.long v.1]) (sX6_write e2) dL_law_1479 mlL_176 (CRL (by decide) (by decide)) sh_49 rfl rfl rfl (Nat.le_of_ble_eq_true rfl) ?_
  refine v_lcmp dL_law_1482 ?_
  refine v_if_eq (tgt := 1725) dL_law_1483 rfl (fun _ => ?_) (fun c => absurd (by rw [e3]; exact lg_same _) c)
  exact hn _ hI2
set_option maxRecDepth 100000 in
set_option maxHeartbeats 4000000 in
theorem law_39 {g : Wo} {L : Nat} {xs : Nat → Int32} {t : Nat} {x : Int32} {M : Mem} (ht : t < 512) (hI : Inv t M) (hi1 : inb (x + (1 : Int32)) L = true) (hi2 : inb (x + (2 : Int32)) L = true) (hi3 : inb (x + (3 : Int32)) L = true) (hi4 : inb (x + (4 : Int32)) L = true) (hi5 : inb (x + (5 : Int32)) L = true) (hn : ∀ M', Inv (t + 1) M' → V g kL_law (jL g L xs) 1725 [some (.ref 200), some (.ref 0), some (.ref 49), some (.int x)] [] M') : V g kL_law (jL g L xs) 1488 [some (.ref 200), some (.ref 0), some (.ref 49), some (.int x)] [] M := by
  obtain ⟨v, w, e1, e2, e3, hI2⟩ := ok_copy ht hI (xs (ix (x + (1 : Int32)))) (xs (ix (x + (2 : Int32)))) (xs (ix (x + (3 : Int32)))) (xs (ix (x + (4 : Int32)))) (xs (ix (x + (5 : Int32))))
  refine v_aload_n dL_law_1488 rfl ?_
  refine v_aload_n dL_law_1489 rfl ?_
  refine v_iload_n dL_law_1490 rfl ?_
  refine v_iconst (v := 1) dL_law_1491 rfl ?_
  refine v_iadd dL_law_1492 ?_
  refine v_scl hi1 dL_law_1493 ?_
  refine v_aload_n dL_law_1494 rfl ?_
  refine v_iload_n dL_law_1495 rfl ?_
  refine v_iconst (v := 2) dL_law_1496 rfl ?_
  refine v_iadd dL_law_1497 ?_
  refine v_scl hi2 dL_law_1498 ?_
  refine v_aload_n dL_law_1499 rfl ?_
  refine v_iload_n dL_law_1500 rfl ?_
  refine v_iconst (v := 3) dL_law_1501 rfl ?_
  refine v_iadd dL_law_1502 ?_
  refine v_scl hi3 dL_law_1503 ?_
  refine v_aload_n dL_law_1504 rfl ?_
  refine v_iload_n dL_law_1505 rfl ?_
  refine v_iconst (v := 4) dL_law_1506 rfl ?_
  refine v_iadd dL_law_1507 ?_
  refine v_scl hi4 dL_law_1508 ?_
  refine v_aload_n dL_law_1509 rfl ?_
  refine v_iload_n dL_law_1510 rfl ?_
  refine v_iconst (v := 5) dL_law_1511 rfl ?_
  refine v_iadd dL_law_1512 ?_
  refine v_scl hi5 dL_law_1513 ?_
  refine v_callV (as := [.int (xs (ix (x + (1 : Int32)))), .int (xs (ix (x + (2 : Int32)))), .int (xs (ix (x + (3 : Int32)))), .int (xs (ix (x + (4 : Int32)))), .int (xs (ix (x + (5 : Int32))))]) (st := []) (sX5_copy e1) dL_law_1514 mlL_177 (CRL (by decide) (by decide)) sh_0 rfl rfl rfl (Nat.le_of_ble_eq_true rfl) ?_
  refine v_aload_n dL_law_1517 rfl ?_
  refine v_aload_n dL_law_1518 rfl ?_
  refine v_iload_n dL_law_1519 rfl ?_
  refine v_iconst (v := 1) dL_law_1520 rfl ?_
  refine v_iadd dL_law_1521 ?_
  refine v_scl hi1 dL_law_1522 ?_
  refine v_aload_n dL_law_1523 rfl ?_
  refine v_iload_n dL_law_1524 rfl ?_
  refine v_iconst (v := 2) dL_law_1525 rfl ?_
  refine v_iadd dL_law_1526 ?_
  refine v_scl hi2 dL_law_1527 ?_
  refine v_aload_n dL_law_1528 rfl ?_
  refine v_iload_n dL_law_1529 rfl ?_
  refine v_iconst (v := 3) dL_law_1530 rfl ?_
  refine v_iadd dL_law_1531 ?_
  refine v_scl hi3 dL_law_1532 ?_
  refine v_aload_n dL_law_1533 rfl ?_
  refine v_iload_n dL_law_1534 rfl ?_
  refine v_iconst (v := 4) dL_law_1535 rfl ?_
  refine v_iadd dL_law_1536 ?_
  refine v_scl hi4 dL_law_1537 ?_
  refine v_aload_n dL_law_1538 rfl ?_
  refine v_iload_n dL_law_1539 rfl ?_
  refine v_iconst (v := 5) dL_law_1540 rfl ?_
  refine v_iadd dL_law_1541 ?_
  refine v_scl hi5 dL_law_1542 ?_
  refine v_callV (as := [.int (xs (ix (x + (1 : Int32)))), .int (xs (ix (x + (2 : Int32)))), .int (xs (ix (x + (3 : Int32)))), .int (xs (ix (x + (4 : Int32)))), .int (xs (ix (x + (5 : Int32))))]) (st := [.int v.1]) (sX6_copy e2) dL_law_1543 mlL_181 (CRL (by decide) (by decide)) sh_49 rfl rfl rfl (Nat.le_of_ble_eq_true rfl) ?_
  refine v_icmp_eq (tgt := 1725) dL_law_1546 rfl (fun _ => ?_) (fun c => absurd e3 c)
  exact hn _ hI2
set_option maxRecDepth 100000 in
set_option maxHeartbeats 4000000 in
theorem law_40 {g : Wo} {L : Nat} {xs : Nat → Int32} {t : Nat} {x : Int32} {M : Mem} (ht : t < 512) (hI : Inv t M) (hi1 : inb (x + (1 : Int32)) L = true) (hi2 : inb (x + (2 : Int32)) L = true) (hi3 : inb (x + (3 : Int32)) L = true) (hi4 : inb (x + (4 : Int32)) L = true) (hi5 : inb (x + (5 : Int32)) L = true) (hn : ∀ M', Inv (t + 1) M' → V g kL_law (jL g L xs) 1725 [some (.ref 200), some (.ref 0), some (.ref 49), some (.int x)] [] M') : V g kL_law (jL g L xs) 1551 [some (.ref 200), some (.ref 0), some (.ref 49), some (.int x)] [] M := by
  obtain ⟨v, w, e1, e2, e3, hI2⟩ := ok_lays ht hI (xs (ix (x + (1 : Int32))))
  refine v_aload_n dL_law_1551 rfl ?_
  refine v_aload_n dL_law_1552 rfl ?_
  refine v_iload_n dL_law_1553 rfl ?_
  refine v_iconst (v := 1) dL_law_1554 rfl ?_
  refine v_iadd dL_law_1555 ?_
  refine v_scl hi1 dL_law_1556 ?_
  refine v_callV (as := [.int (xs (ix (x + (1 : Int32))))]) (st := []) (sX5_lays e1) dL_law_1557 mlL_182 (CRL (by decide) (by decide)) sh_0 rfl rfl rfl (Nat.le_of_ble_eq_true rfl) ?_
  refine v_aload_n dL_law_1560 rfl ?_
  refine v_aload_n dL_law_1561 rfl ?_
  refine v_iload_n dL_law_1562 rfl ?_
  refine v_iconst (v := 1) dL_law_1563 rfl ?_
  refine v_iadd dL_law_1564 ?_
  refine v_scl hi1 dL_law_1565 ?_
  refine v_callV (as := [.int (xs (ix (x + (1 : Int32))))]) (st := [.int v.1]) (sX6_lays e2) dL_law_1566 mlL_185 (CRL (by decide) (by decide)) sh_49 rfl rfl rfl (Nat.le_of_ble_eq_true rfl) ?_
  refine v_icmp_eq (tgt := 1725) dL_law_1569 rfl (fun _ => ?_) (fun c => absurd e3 c)
  exact hn _ hI2
set_option maxRecDepth 100000 in
set_option maxHeartbeats 4000000 in
theorem law_41 {g : Wo} {L : Nat} {xs : Nat → Int32} {t : Nat} {x : Int32} {M : Mem} (ht : t < 512) (hI : Inv t M) (hi1 : inb (x + (1 : Int32)) L = true) (hi2 : inb (x + (2 : Int32)) L = true) (hi3 : inb (x + (3 : Int32)) L = true) (hi4 : inb (x + (4 : Int32)) L = true) (hi5 : inb (x + (5 : Int32)) L = true) (hn : ∀ M', Inv (t + 1) M' → V g kL_law (jL g L xs) 1725 [some (.ref 200), some (.ref 0), some (.ref 49), some (.int x)] [] M') : V g kL_law (jL g L xs) 1574 [some (.ref 200), some (.ref 0), some (.ref 49), some (.int x)] [] M := by
  obtain ⟨v, w, e1, e2, e3, hI2⟩ := ok_book ht hI (xs (ix (x + (1 : Int32)))) (xs (ix (x + (2 : Int32))))
  refine v_aload_n dL_law_1574 rfl ?_
  refine v_aload_n dL_law_1575 rfl ?_
  refine v_iload_n dL_law_1576 rfl ?_
  refine v_iconst (v := 1) dL_law_1577 rfl ?_
  refine v_iadd dL_law_1578 ?_
  refine v_scl hi1 dL_law_1579 ?_
  refine v_aload_n dL_law_1580 rfl ?_
  refine v_iload_n dL_law_1581 rfl ?_
  refine v_iconst (v := 2) dL_law_1582 rfl ?_
  refine v_iadd dL_law_1583 ?_
  refine v_scl hi2 dL_law_1584 ?_
  refine v_callV (as := [.int (xs (ix (x + (1 : Int32)))), .int (xs (ix (x + (2 : Int32))))]) (st := []) (sX5_book e1) dL_law_1585 mlL_186 (CRL (by decide) (by decide)) sh_0 rfl rfl rfl (Nat.le_of_ble_eq_true rfl) ?_
  refine v_aload_n dL_law_1588 rfl ?_
  refine v_aload_n dL_law_1589 rfl ?_
  refine v_iload_n dL_law_1590 rfl ?_
  refine v_iconst (v := 1) dL_law_1591 rfl ?_
  refine v_iadd dL_law_1592 ?_
  refine v_scl hi1 dL_law_1593 ?_
  refine v_aload_n dL_law_1594 rfl ?_
  refine v_iload_n dL_law_1595 rfl ?_
  refine v_iconst (v := 2) dL_law_1596 rfl ?_
  refine v_iadd dL_law_1597 ?_
  refine v_scl hi2 dL_law_1598 ?_
  refine v_callV (as := [.int (xs (ix (x + (1 : Int32)))), .int (xs (ix (x + (2 : Int32))))]) (st := [.int v.1]) (sX6_book e2) dL_law_1599 mlL_189 (CRL (by decide) (by decide)) sh_49 rfl rfl rfl (Nat.le_of_ble_eq_true rfl) ?_
  refine v_icmp_eq (tgt := 1725) dL_law_1602 rfl (fun _ => ?_) (fun c => absurd e3 c)
  exact hn _ hI2
set_option maxRecDepth 100000 in
set_option maxHeartbeats 4000000 in
theorem law_42 {g : Wo} {L : Nat} {xs : Nat → Int32} {t : Nat} {x : Int32} {M : Mem} (ht : t < 512) (hI : Inv t M) (hi1 : inb (x + (1 : Int32)) L = true) (hi2 : inb (x + (2 : Int32)) L = true) (hi3 : inb (x + (3 : Int32)) L = true) (hi4 : inb (x + (4 : Int32)) L = true) (hi5 : inb (x + (5 : Int32)) L = true) (hn : ∀ M', Inv (t + 1) M' → V g kL_law (jL g L xs) 1725 [some (.ref 200), some (.ref 0), some (.ref 49), some (.int x)] [] M') : V g kL_law (jL g L xs) 1607 [some (.ref 200), some (.ref 0), some (.ref 49), some (.int x)] [] M := by
  obtain ⟨v, w, e1, e2, e3, hI2⟩ := ok_read ht hI (xs (ix (x + (1 : Int32)))) (xs (ix (x + (2 : Int32))))
  refine v_aload_n dL_law_1607 rfl ?_
  refine v_aload_n dL_law_1608 rfl ?_
  refine v_iload_n dL_law_1609 rfl ?_
  refine v_iconst (v := 1) dL_law_1610 rfl ?_
  refine v_iadd dL_law_1611 ?_
  refine v_scl hi1 dL_law_1612 ?_
  refine v_aload_n dL_law_1613 rfl ?_
  refine v_iload_n dL_law_1614 rfl ?_
  refine v_iconst (v := 2) dL_law_1615 rfl ?_
  refine v_iadd dL_law_1616 ?_
  refine v_scl hi2 dL_law_1617 ?_
  refine v_callV (as := [.int (xs (ix (x + (1 : Int32)))), .int (xs (ix (x + (2 : Int32))))]) (st := []) (sX5_read e1) dL_law_1618 mlL_190 (CRL (by decide) (by decide)) sh_0 rfl rfl rfl (Nat.le_of_ble_eq_true rfl) ?_
  refine v_aload_n dL_law_1621 rfl ?_
  refine v_aload_n dL_law_1622 rfl ?_
  refine v_iload_n dL_law_1623 rfl ?_
  refine v_iconst (v := 1) dL_law_1624 rfl ?_
  refine v_iadd dL_law_1625 ?_
  refine v_scl hi1 dL_law_1626 ?_
  refine v_aload_n dL_law_1627 rfl ?_
  refine v_iload_n dL_law_1628 rfl ?_
  refine v_iconst (v := 2) dL_law_1629 rfl ?_
  refine v_iadd dL_law_1630 ?_
  refine v_scl hi2 dL_law_1631 ?_
  refine v_callV (as := [.int (xs (ix (x + (1 : Int32)))), .int (xs (ix (x + (2 : Int32))))]) (st := [.int v.1]) (sX6_read e2) dL_law_1632 mlL_193 (CRL (by decide) (by decide)) sh_49 rfl rfl rfl (Nat.le_of_ble_eq_true rfl) ?_
  refine v_icmp_eq (tgt := 1725) dL_law_1635 rfl (fun _ => ?_) (fun c => absurd e3 c)
  exact hn _ hI2
set_option maxRecDepth 100000 in
set_option maxHeartbeats 4000000 in
theorem law_43 {g : Wo} {L : Nat} {xs : Nat → Int32} {t : Nat} {x : Int32} {M : Mem} (ht : t < 512) (hI : Inv t M) (hi1 : inb (x + (1 : Int32)) L = true) (hi2 : inb (x + (2 : Int32)) L = true) (hi3 : inb (x + (3 : Int32)) L = true) (hi4 : inb (x + (4 : Int32)) L = true) (hi5 : inb (x + (5 : Int32)) L = true) (hn : ∀ M', Inv (t + 1) M' → V g kL_law (jL g L xs) 1725 [some (.ref 200), some (.ref 0), some (.ref 49), some (.int x)] [] M') : V g kL_law (jL g L xs) 1640 [some (.ref 200), some (.ref 0), some (.ref 49), some (.int x)] [] M := by
  obtain ⟨v, w, e1, e2, e3, hI2⟩ := ok_image ht hI
  refine v_aload_n dL_law_1640 rfl ?_
  refine v_callV (as := []) (st := []) (sX5_image e1) dL_law_1641 mlL_194 (CRL (by decide) (by decide)) sh_0 rfl rfl rfl (Nat.le_of_ble_eq_true rfl) ?_
  refine v_aload_n dL_law_1644 rfl ?_
  refine v_callV (as := []) (st := [.int v.1]) (sX6_image e2) dL_law_1645 mlL_197 (CRL (by decide) (by decide)) sh_49 rfl rfl rfl (Nat.le_of_ble_eq_true rfl) ?_
  refine v_icmp_eq (tgt := 1725) dL_law_1648 rfl (fun _ => ?_) (fun c => absurd e3 c)
  exact hn _ hI2
set_option maxRecDepth 100000 in
set_option maxHeartbeats 4000000 in
theorem law_44 {g : Wo} {L : Nat} {xs : Nat → Int32} {t : Nat} {x : Int32} {M : Mem} (ht : t < 512) (hI : Inv t M) (hi1 : inb (x + (1 : Int32)) L = true) (hi2 : inb (x + (2 : Int32)) L = true) (hi3 : inb (x + (3 : Int32)) L = true) (hi4 : inb (x + (4 : Int32)) L = true) (hi5 : inb (x + (5 : Int32)) L = true) (hn : ∀ M', Inv (t + 1) M' → V g kL_law (jL g L xs) 1725 [some (.ref 200), some (.ref 0), some (.ref 49), some (.int x)] [] M') : V g kL_law (jL g L xs) 1653 [some (.ref 200), some (.ref 0), some (.ref 49), some (.int x)] [] M := by
  obtain ⟨v, w, e1, e2, e3, hI2⟩ := ok_undo ht hI
  refine v_aload_n dL_law_1653 rfl ?_
  refine v_callV (as := []) (st := []) (sX5_undo e1) dL_law_1654 mlL_198 (CRL (by decide) (by decide)) sh_0 rfl rfl rfl (Nat.le_of_ble_eq_true rfl) ?_
  refine v_aload_n dL_law_1657 rfl ?_
  refine v_callV (as := []) (st := [.int v.1]) (sX6_undo e2) dL_law_1658 mlL_201 (CRL (by decide) (by decide)) sh_49 rfl rfl rfl (Nat.le_of_ble_eq_true rfl) ?_
  refine v_icmp_eq (tgt := 1725) dL_law_1661 rfl (fun _ => ?_) (fun c => absurd e3 c)
  exact hn _ hI2
set_option maxRecDepth 100000 in
set_option maxHeartbeats 4000000 in
theorem law_45 {g : Wo} {L : Nat} {xs : Nat → Int32} {t : Nat} {x : Int32} {M : Mem} (ht : t < 512) (hI : Inv t M) (hi1 : inb (x + (1 : Int32)) L = true) (hi2 : inb (x + (2 : Int32)) L = true) (hi3 : inb (x + (3 : Int32)) L = true) (hi4 : inb (x + (4 : Int32)) L = true) (hi5 : inb (x + (5 : Int32)) L = true) (hn : ∀ M', Inv (t + 1) M' → V g kL_law (jL g L xs) 1725 [some (.ref 200), some (.ref 0), some (.ref 49), some (.int x)] [] M') : V g kL_law (jL g L xs) 1666 [some (.ref 200), some (.ref 0), some (.ref 49), some (.int x)] [] M := by
  obtain ⟨v, w, e1, e2, e3, hI2⟩ := ok_tear ht hI
  refine v_aload_n dL_law_1666 rfl ?_
  refine v_callV (as := []) (st := []) (sX5_tear e1) dL_law_1667 mlL_202 (CRL (by decide) (by decide)) sh_0 rfl rfl rfl (Nat.le_of_ble_eq_true rfl) ?_
  refine v_aload_n dL_law_1670 rfl ?_
  refine v_callV (as := []) (st := [.int v.1]) (sX6_tear e2) dL_law_1671 mlL_205 (CRL (by decide) (by decide)) sh_49 rfl rfl rfl (Nat.le_of_ble_eq_true rfl) ?_
  refine v_icmp_eq (tgt := 1725) dL_law_1674 rfl (fun _ => ?_) (fun c => absurd e3 c)
  exact hn _ hI2
set_option maxRecDepth 100000 in
set_option maxHeartbeats 4000000 in
theorem law_46 {g : Wo} {L : Nat} {xs : Nat → Int32} {t : Nat} {x : Int32} {M : Mem} (ht : t < 512) (hI : Inv t M) (hi1 : inb (x + (1 : Int32)) L = true) (hi2 : inb (x + (2 : Int32)) L = true) (hi3 : inb (x + (3 : Int32)) L = true) (hi4 : inb (x + (4 : Int32)) L = true) (hi5 : inb (x + (5 : Int32)) L = true) (hn : ∀ M', Inv (t + 1) M' → V g kL_law (jL g L xs) 1725 [some (.ref 200), some (.ref 0), some (.ref 49), some (.int x)] [] M') : V g kL_law (jL g L xs) 1679 [some (.ref 200), some (.ref 0), some (.ref 49), some (.int x)] [] M := by
  obtain ⟨v, w, e1, e2, e3, hI2⟩ := ok_count ht hI (xs (ix (x + (1 : Int32))))
  refine v_aload_n dL_law_1679 rfl ?_
  refine v_aload_n dL_law_1680 rfl ?_
  refine v_iload_n dL_law_1681 rfl ?_
  refine v_iconst (v := 1) dL_law_1682 rfl ?_
  refine v_iadd dL_law_1683 ?_
  refine v_scl hi1 dL_law_1684 ?_
  refine v_callV (as := [.int (xs (ix (x + (1 : Int32))))]) (st := []) (sX5_count e1) dL_law_1685 mlL_206 (CRL (by decide) (by decide)) sh_0 rfl rfl rfl (Nat.le_of_ble_eq_true rfl) ?_
  refine v_aload_n dL_law_1688 rfl ?_
  refine v_aload_n dL_law_1689 rfl ?_
  refine v_iload_n dL_law_1690 rfl ?_
  refine v_iconst (v := 1) dL_law_1691 rfl ?_
  refine v_iadd dL_law_1692 ?_
  refine v_scl hi1 dL_law_1693 ?_
  refine v_callV (as := [.int (xs (ix (x + (1 : Int32))))]) (st := [.int v.1]) (sX6_count e2) dL_law_1694 mlL_209 (CRL (by decide) (by decide)) sh_49 rfl rfl rfl (Nat.le_of_ble_eq_true rfl) ?_
  refine v_icmp_eq (tgt := 1725) dL_law_1697 rfl (fun _ => ?_) (fun c => absurd e3 c)
  exact hn _ hI2
set_option maxRecDepth 100000 in
set_option maxHeartbeats 4000000 in
theorem law_47 {g : Wo} {L : Nat} {xs : Nat → Int32} {t : Nat} {x : Int32} {M : Mem} (ht : t < 512) (hI : Inv t M) (hi1 : inb (x + (1 : Int32)) L = true) (hi2 : inb (x + (2 : Int32)) L = true) (hi3 : inb (x + (3 : Int32)) L = true) (hi4 : inb (x + (4 : Int32)) L = true) (hi5 : inb (x + (5 : Int32)) L = true) (hn : ∀ M', Inv (t + 1) M' → V g kL_law (jL g L xs) 1725 [some (.ref 200), some (.ref 0), some (.ref 49), some (.int x)] [] M') : V g kL_law (jL g L xs) 1702 [some (.ref 200), some (.ref 0), some (.ref 49), some (.int x)] [] M := by
  obtain ⟨v, w, e1, e2, e3, hI2⟩ := ok_status ht hI (xs (ix (x + (1 : Int32))))
  refine v_aload_n dL_law_1702 rfl ?_
  refine v_aload_n dL_law_1703 rfl ?_
  refine v_iload_n dL_law_1704 rfl ?_
  refine v_iconst (v := 1) dL_law_1705 rfl ?_
  refine v_iadd dL_law_1706 ?_
  refine v_scl hi1 dL_law_1707 ?_
  refine v_callV (as := [.int (xs (ix (x + (1 : Int32))))]) (st := []) (sX5_status e1) dL_law_1708 mlL_210 (CRL (by decide) (by decide)) sh_0 rfl rfl rfl (Nat.le_of_ble_eq_true rfl) ?_
  refine v_aload_n dL_law_1711 rfl ?_
  refine v_aload_n dL_law_1712 rfl ?_
  refine v_iload_n dL_law_1713 rfl ?_
  refine v_iconst (v := 1) dL_law_1714 rfl ?_
  refine v_iadd dL_law_1715 ?_
  refine v_scl hi1 dL_law_1716 ?_
  refine v_callV (as := [.int (xs (ix (x + (1 : Int32))))]) (st := [.int v.1]) (sX6_status e2) dL_law_1717 mlL_213 (CRL (by decide) (by decide)) sh_49 rfl rfl rfl (Nat.le_of_ble_eq_true rfl) ?_
  refine v_icmp_eq (tgt := 1725) dL_law_1720 rfl (fun _ => ?_) (fun c => absurd e3 c)
  exact hn _ hI2
set_option maxRecDepth 100000 in
set_option maxHeartbeats 4000000 in
theorem law_sw {g : Wo} {L : Nat} {xs : Nat → Int32} {t : Nat} {x z : Int32} {M : Mem} (ht : t < 512) (hI : Inv t M) (hi1 : inb (x + (1 : Int32)) L = true) (hi2 : inb (x + (2 : Int32)) L = true) (hi3 : inb (x + (3 : Int32)) L = true) (hi4 : inb (x + (4 : Int32)) L = true) (hi5 : inb (x + (5 : Int32)) L = true) (hI2 : Inv (t + 1) M) (hn : ∀ M', Inv (t + 1) M' → V g kL_law (jL g L xs) 1725 [some (.ref 200), some (.ref 0), some (.ref 49), some (.int x)] [] M') : V g kL_law (jL g L xs) 33 [some (.ref 200), some (.ref 0), some (.ref 49), some (.int x)] [.int z] M := by
  by_cases c0 : z = 0
  · refine v_tabIn (off := 207) (tgt := 240) dL_law_33 (by rw [c0]; decide) (by rw [c0]; decide) (by rw [c0]; decide) rfl ?_
    exact law_0 ht hI hi1 hi2 hi3 hi4 hi5 hn
  by_cases c1 : z = 1
  · refine v_tabIn (off := 230) (tgt := 263) dL_law_33 (by rw [c1]; decide) (by rw [c1]; decide) (by rw [c1]; decide) rfl ?_
    exact law_1 ht hI hi1 hi2 hi3 hi4 hi5 hn
  by_cases c2 : z = 2
  · refine v_tabIn (off := 263) (tgt := 296) dL_law_33 (by rw [c2]; decide) (by rw [c2]; decide) (by rw [c2]; decide) rfl ?_
    exact law_2 ht hI hi1 hi2 hi3 hi4 hi5 hn
  by_cases c3 : z = 3
  · refine v_tabIn (off := 296) (tgt := 329) dL_law_33 (by rw [c3]; decide) (by rw [c3]; decide) (by rw [c3]; decide) rfl ?_
    exact law_3 ht hI hi1 hi2 hi3 hi4 hi5 hn
  by_cases c4 : z = 4
  · refine v_tabIn (off := 349) (tgt := 382) dL_law_33 (by rw [c4]; decide) (by rw [c4]; decide) (by rw [c4]; decide) rfl ?_
    exact law_4 ht hI hi1 hi2 hi3 hi4 hi5 hn
  by_cases c5 : z = 5
  · refine v_tabIn (off := 382) (tgt := 415) dL_law_33 (by rw [c5]; decide) (by rw [c5]; decide) (by rw [c5]; decide) rfl ?_
    exact law_5 ht hI hi1 hi2 hi3 hi4 hi5 hn
  by_cases c6 : z = 6
  · refine v_tabIn (off := 415) (tgt := 448) dL_law_33 (by rw [c6]; decide) (by rw [c6]; decide) (by rw [c6]; decide) rfl ?_
    exact law_6 ht hI hi1 hi2 hi3 hi4 hi5 hn
  by_cases c7 : z = 7
  · refine v_tabIn (off := 458) (tgt := 491) dL_law_33 (by rw [c7]; decide) (by rw [c7]; decide) (by rw [c7]; decide) rfl ?_
    exact law_7 ht hI hi1 hi2 hi3 hi4 hi5 hn
  by_cases c8 : z = 8
  · refine v_tabIn (off := 491) (tgt := 524) dL_law_33 (by rw [c8]; decide) (by rw [c8]; decide) (by rw [c8]; decide) rfl ?_
    exact law_8 ht hI hi1 hi2 hi3 hi4 hi5 hn
  by_cases c9 : z = 9
  · refine v_tabIn (off := 534) (tgt := 567) dL_law_33 (by rw [c9]; decide) (by rw [c9]; decide) (by rw [c9]; decide) rfl ?_
    exact law_9 ht hI hi1 hi2 hi3 hi4 hi5 hn
  by_cases c10 : z = 10
  · refine v_tabIn (off := 567) (tgt := 600) dL_law_33 (by rw [c10]; decide) (by rw [c10]; decide) (by rw [c10]; decide) rfl ?_
    exact law_10 ht hI hi1 hi2 hi3 hi4 hi5 hn
  by_cases c11 : z = 11
  · refine v_tabIn (off := 600) (tgt := 633) dL_law_33 (by rw [c11]; decide) (by rw [c11]; decide) (by rw [c11]; decide) rfl ?_
    exact law_11 ht hI hi1 hi2 hi3 hi4 hi5 hn
  by_cases c12 : z = 12
  · refine v_tabIn (off := 623) (tgt := 656) dL_law_33 (by rw [c12]; decide) (by rw [c12]; decide) (by rw [c12]; decide) rfl ?_
    exact law_12 ht hI hi1 hi2 hi3 hi4 hi5 hn
  by_cases c13 : z = 13
  · refine v_tabIn (off := 646) (tgt := 679) dL_law_33 (by rw [c13]; decide) (by rw [c13]; decide) (by rw [c13]; decide) rfl ?_
    exact law_13 ht hI hi1 hi2 hi3 hi4 hi5 hn
  by_cases c14 : z = 14
  · refine v_tabIn (off := 689) (tgt := 722) dL_law_33 (by rw [c14]; decide) (by rw [c14]; decide) (by rw [c14]; decide) rfl ?_
    exact law_14 ht hI hi1 hi2 hi3 hi4 hi5 hn
  by_cases c15 : z = 15
  · refine v_tabIn (off := 722) (tgt := 755) dL_law_33 (by rw [c15]; decide) (by rw [c15]; decide) (by rw [c15]; decide) rfl ?_
    exact law_15 ht hI hi1 hi2 hi3 hi4 hi5 hn
  by_cases c16 : z = 16
  · refine v_tabIn (off := 745) (tgt := 778) dL_law_33 (by rw [c16]; decide) (by rw [c16]; decide) (by rw [c16]; decide) rfl ?_
    exact law_16 ht hI hi1 hi2 hi3 hi4 hi5 hn
  by_cases c17 : z = 17
  · refine v_tabIn (off := 778) (tgt := 811) dL_law_33 (by rw [c17]; decide) (by rw [c17]; decide) (by rw [c17]; decide) rfl ?_
    exact law_17 ht hI hi1 hi2 hi3 hi4 hi5 hn
  by_cases c18 : z = 18
  · refine v_tabIn (off := 801) (tgt := 834) dL_law_33 (by rw [c18]; decide) (by rw [c18]; decide) (by rw [c18]; decide) rfl ?_
    exact law_18 ht hI hi1 hi2 hi3 hi4 hi5 hn
  by_cases c19 : z = 19
  · refine v_tabIn (off := 834) (tgt := 867) dL_law_33 (by rw [c19]; decide) (by rw [c19]; decide) (by rw [c19]; decide) rfl ?_
    exact law_19 ht hI hi1 hi2 hi3 hi4 hi5 hn
  by_cases c20 : z = 20
  · refine v_tabIn (off := 867) (tgt := 900) dL_law_33 (by rw [c20]; decide) (by rw [c20]; decide) (by rw [c20]; decide) rfl ?_
    exact law_20 ht hI hi1 hi2 hi3 hi4 hi5 hn
  by_cases c21 : z = 21
  · refine v_tabIn (off := 910) (tgt := 943) dL_law_33 (by rw [c21]; decide) (by rw [c21]; decide) (by rw [c21]; decide) rfl ?_
    exact law_21 ht hI hi1 hi2 hi3 hi4 hi5 hn
  by_cases c22 : z = 22
  · refine v_tabIn (off := 963) (tgt := 996) dL_law_33 (by rw [c22]; decide) (by rw [c22]; decide) (by rw [c22]; decide) rfl ?_
    exact law_22 ht hI hi1 hi2 hi3 hi4 hi5 hn
  by_cases c23 : z = 23
  · refine v_tabIn (off := 996) (tgt := 1029) dL_law_33 (by rw [c23]; decide) (by rw [c23]; decide) (by rw [c23]; decide) rfl ?_
    exact law_23 ht hI hi1 hi2 hi3 hi4 hi5 hn
  by_cases c24 : z = 24
  · refine v_tabIn (off := 1019) (tgt := 1052) dL_law_33 (by rw [c24]; decide) (by rw [c24]; decide) (by rw [c24]; decide) rfl ?_
    exact law_24 ht hI hi1 hi2 hi3 hi4 hi5 hn
  by_cases c25 : z = 25
  · refine v_tabIn (off := 1052) (tgt := 1085) dL_law_33 (by rw [c25]; decide) (by rw [c25]; decide) (by rw [c25]; decide) rfl ?_
    exact law_25 ht hI hi1 hi2 hi3 hi4 hi5 hn
  by_cases c26 : z = 26
  · refine v_tabIn (off := 1065) (tgt := 1098) dL_law_33 (by rw [c26]; decide) (by rw [c26]; decide) (by rw [c26]; decide) rfl ?_
    exact law_26 ht hI hi1 hi2 hi3 hi4 hi5 hn
  by_cases c27 : z = 27
  · refine v_tabIn (off := 1078) (tgt := 1111) dL_law_33 (by rw [c27]; decide) (by rw [c27]; decide) (by rw [c27]; decide) rfl ?_
    exact law_27 ht hI hi1 hi2 hi3 hi4 hi5 hn
  by_cases c28 : z = 28
  · refine v_tabIn (off := 1091) (tgt := 1124) dL_law_33 (by rw [c28]; decide) (by rw [c28]; decide) (by rw [c28]; decide) rfl ?_
    exact law_28 ht hI hi1 hi2 hi3 hi4 hi5 hn
  by_cases c29 : z = 29
  · refine v_tabIn (off := 1104) (tgt := 1137) dL_law_33 (by rw [c29]; decide) (by rw [c29]; decide) (by rw [c29]; decide) rfl ?_
    exact law_29 ht hI hi1 hi2 hi3 hi4 hi5 hn
  by_cases c30 : z = 30
  · refine v_tabIn (off := 1137) (tgt := 1170) dL_law_33 (by rw [c30]; decide) (by rw [c30]; decide) (by rw [c30]; decide) rfl ?_
    exact law_30 ht hI hi1 hi2 hi3 hi4 hi5 hn
  by_cases c31 : z = 31
  · refine v_tabIn (off := 1170) (tgt := 1203) dL_law_33 (by rw [c31]; decide) (by rw [c31]; decide) (by rw [c31]; decide) rfl ?_
    exact law_31 ht hI hi1 hi2 hi3 hi4 hi5 hn
  by_cases c32 : z = 32
  · refine v_tabIn (off := 1213) (tgt := 1246) dL_law_33 (by rw [c32]; decide) (by rw [c32]; decide) (by rw [c32]; decide) rfl ?_
    exact law_32 ht hI hi1 hi2 hi3 hi4 hi5 hn
  by_cases c33 : z = 33
  · refine v_tabIn (off := 1246) (tgt := 1279) dL_law_33 (by rw [c33]; decide) (by rw [c33]; decide) (by rw [c33]; decide) rfl ?_
    exact law_33 ht hI hi1 hi2 hi3 hi4 hi5 hn
  by_cases c34 : z = 34
  · refine v_tabIn (off := 1279) (tgt := 1312) dL_law_33 (by rw [c34]; decide) (by rw [c34]; decide) (by rw [c34]; decide) rfl ?_
    exact law_34 ht hI hi1 hi2 hi3 hi4 hi5 hn
  by_cases c35 : z = 35
  · refine v_tabIn (off := 1312) (tgt := 1345) dL_law_33 (by rw [c35]; decide) (by rw [c35]; decide) (by rw [c35]; decide) rfl ?_
    exact law_35 ht hI hi1 hi2 hi3 hi4 hi5 hn
  by_cases c36 : z = 36
  · refine v_tabIn (off := 1325) (tgt := 1358) dL_law_33 (by rw [c36]; decide) (by rw [c36]; decide) (by rw [c36]; decide) rfl ?_
    exact law_36 ht hI hi1 hi2 hi3 hi4 hi5 hn
  by_cases c37 : z = 37
  · refine v_tabIn (off := 1338) (tgt := 1371) dL_law_33 (by rw [c37]; decide) (by rw [c37]; decide) (by rw [c37]; decide) rfl ?_
    exact law_37 ht hI hi1 hi2 hi3 hi4 hi5 hn
  by_cases c38 : z = 38
  · refine v_tabIn (off := 1381) (tgt := 1414) dL_law_33 (by rw [c38]; decide) (by rw [c38]; decide) (by rw [c38]; decide) rfl ?_
    exact law_38 ht hI hi1 hi2 hi3 hi4 hi5 hn
  by_cases c39 : z = 39
  · refine v_tabIn (off := 1455) (tgt := 1488) dL_law_33 (by rw [c39]; decide) (by rw [c39]; decide) (by rw [c39]; decide) rfl ?_
    exact law_39 ht hI hi1 hi2 hi3 hi4 hi5 hn
  by_cases c40 : z = 40
  · refine v_tabIn (off := 1518) (tgt := 1551) dL_law_33 (by rw [c40]; decide) (by rw [c40]; decide) (by rw [c40]; decide) rfl ?_
    exact law_40 ht hI hi1 hi2 hi3 hi4 hi5 hn
  by_cases c41 : z = 41
  · refine v_tabIn (off := 1541) (tgt := 1574) dL_law_33 (by rw [c41]; decide) (by rw [c41]; decide) (by rw [c41]; decide) rfl ?_
    exact law_41 ht hI hi1 hi2 hi3 hi4 hi5 hn
  by_cases c42 : z = 42
  · refine v_tabIn (off := 1574) (tgt := 1607) dL_law_33 (by rw [c42]; decide) (by rw [c42]; decide) (by rw [c42]; decide) rfl ?_
    exact law_42 ht hI hi1 hi2 hi3 hi4 hi5 hn
  by_cases c43 : z = 43
  · refine v_tabIn (off := 1607) (tgt := 1640) dL_law_33 (by rw [c43]; decide) (by rw [c43]; decide) (by rw [c43]; decide) rfl ?_
    exact law_43 ht hI hi1 hi2 hi3 hi4 hi5 hn
  by_cases c44 : z = 44
  · refine v_tabIn (off := 1620) (tgt := 1653) dL_law_33 (by rw [c44]; decide) (by rw [c44]; decide) (by rw [c44]; decide) rfl ?_
    exact law_44 ht hI hi1 hi2 hi3 hi4 hi5 hn
  by_cases c45 : z = 45
  · refine v_tabIn (off := 1633) (tgt := 1666) dL_law_33 (by rw [c45]; decide) (by rw [c45]; decide) (by rw [c45]; decide) rfl ?_
    exact law_45 ht hI hi1 hi2 hi3 hi4 hi5 hn
  by_cases c46 : z = 46
  · refine v_tabIn (off := 1646) (tgt := 1679) dL_law_33 (by rw [c46]; decide) (by rw [c46]; decide) (by rw [c46]; decide) rfl ?_
    exact law_46 ht hI hi1 hi2 hi3 hi4 hi5 hn
  by_cases c47 : z = 47
  · refine v_tabIn (off := 1669) (tgt := 1702) dL_law_33 (by rw [c47]; decide) (by rw [c47]; decide) (by rw [c47]; decide) rfl ?_
    exact law_47 ht hI hi1 hi2 hi3 hi4 hi5 hn
  refine v_tabOut (tgt := 1725) dL_law_33 ?_ rfl (hn M hI2)
  have o0 := i32ne c0
  have o1 := i32ne c1
  have o2 := i32ne c2
  have o3 := i32ne c3
  have o4 := i32ne c4
  have o5 := i32ne c5
  have o6 := i32ne c6
  have o7 := i32ne c7
  have o8 := i32ne c8
  have o9 := i32ne c9
  have o10 := i32ne c10
  have o11 := i32ne c11
  have o12 := i32ne c12
  have o13 := i32ne c13
  have o14 := i32ne c14
  have o15 := i32ne c15
  have o16 := i32ne c16
  have o17 := i32ne c17
  have o18 := i32ne c18
  have o19 := i32ne c19
  have o20 := i32ne c20
  have o21 := i32ne c21
  have o22 := i32ne c22
  have o23 := i32ne c23
  have o24 := i32ne c24
  have o25 := i32ne c25
  have o26 := i32ne c26
  have o27 := i32ne c27
  have o28 := i32ne c28
  have o29 := i32ne c29
  have o30 := i32ne c30
  have o31 := i32ne c31
  have o32 := i32ne c32
  have o33 := i32ne c33
  have o34 := i32ne c34
  have o35 := i32ne c35
  have o36 := i32ne c36
  have o37 := i32ne c37
  have o38 := i32ne c38
  have o39 := i32ne c39
  have o40 := i32ne c40
  have o41 := i32ne c41
  have o42 := i32ne c42
  have o43 := i32ne c43
  have o44 := i32ne c44
  have o45 := i32ne c45
  have o46 := i32ne c46
  have o47 := i32ne c47
  simp only [i32l_0, i32l_1, i32l_2, i32l_3, i32l_4, i32l_5, i32l_6, i32l_7, i32l_8, i32l_9, i32l_10, i32l_11, i32l_12, i32l_13, i32l_14, i32l_15, i32l_16, i32l_17, i32l_18, i32l_19, i32l_20, i32l_21, i32l_22, i32l_23, i32l_24, i32l_25, i32l_26, i32l_27, i32l_28, i32l_29, i32l_30, i32l_31, i32l_32, i32l_33, i32l_34, i32l_35, i32l_36, i32l_37, i32l_38, i32l_39, i32l_40, i32l_41, i32l_42, i32l_43, i32l_44, i32l_45, i32l_46, i32l_47] at o0 o1 o2 o3 o4 o5 o6 o7 o8 o9 o10 o11 o12 o13 o14 o15 o16 o17 o18 o19 o20 o21 o22 o23 o24 o25 o26 o27 o28 o29 o30 o31 o32 o33 o34 o35 o36 o37 o38 o39 o40 o41 o42 o43 o44 o45 o46 o47
  omega
theorem inb_x {L t k : Nat} (hL : L ≤ 3072) (h : 6 * t + 6 ≤ L) (hk : k < 6) : inb (nI (6 * t) + nI k) L = true := by
  rw [nI_add]
  exact decide_eq_true (vp_in_nI (by omega) (by omega))
set_option maxRecDepth 100000 in
set_option maxHeartbeats 4000000 in
theorem law_loop {g : Wo} {L : Nat} {xs : Nat → Int32} (hL : L ≤ 3072) : ∀ (n t : Nat) (M : Mem), 513 ≤ t + n → t ≤ 512 → Inv t M → V g kL_law (jL g L xs) 18 [some (.ref 200), some (.ref 0), some (.ref 49), some (.int (nI (6 * t)))] [] M := by
  intro n
  induction n with
  | zero => intro t M h1 h2; omega
  | succ n ih =>
    intro t M h1 h2 hI
    refine v_iload_n dL_law_18 rfl ?_
    refine v_aload_n dL_law_19 rfl ?_
    refine v_scn dL_law_20 ?_
    refine v_bipush (v := 6) dL_law_21 rfl ?_
    refine v_isub dL_law_23 ?_
    have hsub : (Int32.ofNat L - 6).toInt = (L : Int) - 6 := pk_sub_toInt (a := L) (b := 6) (by omega) (by omega)
    have hx : (nI (6 * t)).toInt = ((6 * t : Nat) : Int) := nI_toInt (by omega)
    refine v_icmp_gt (tgt := 1731) dL_law_24 rfl (fun c => ?_) (fun c => ?_)
    · refine v_iconst (v := 1) dL_law_1731 rfl ?_
      exact v_lawret dL_law_1732
    · have h6 : 6 * t + 6 ≤ L := by
        rw [Int32.lt_iff_toInt_lt, hsub, hx] at c
        omega
      have hi : ∀ k, k < 6 → inb (nI (6 * t) + nI k) L = true := fun k hk => inb_x hL h6 hk
      have hi0 : inb (nI (6 * t)) L = true := by have := hi 0 (by decide); rwa [nI_add, Nat.add_zero] at this
      refine v_aload_n dL_law_27 rfl ?_
      refine v_iload_n dL_law_28 rfl ?_
      refine v_scl hi0 dL_law_29 ?_
      refine v_bipush (v := 63) dL_law_30 rfl ?_
      refine v_iand dL_law_32 ?_
      refine law_sw (t := t) (by omega) hI (hi 1 (by decide)) (hi 2 (by decide)) (hi 3 (by decide)) (hi 4 (by decide)) (hi 5 (by decide)) (Inv_next hI) (fun M' hI' => ?_)
      refine v_iinc (v := 6) (ls1 := [some (.ref 200), some (.ref 0), some (.ref 49), some (.int (nI (6 * t) + 6))]) dL_law_1725 rfl rfl (Nat.le_of_ble_eq_true rfl) rfl ?_
      refine v_goto (tgt := 18) dL_law_1728 rfl ?_
      have e6 : nI (6 * t) + 6 = nI (6 * (t + 1)) := by
        rw [show (6 : Int32) = nI 6 from rfl, nI_add]
        congr 1
      rw [e6]
      exact ih (t + 1) M' (by omega) (by omega) hI' 

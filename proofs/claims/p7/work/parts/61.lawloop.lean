/-! THE LAW's LOOP in the small machine: a call of the class, the same call of the reference, their answers compared (wip/p2/mk21.py) -/
def zml (q : Nat) : zML := [some (.ref zBig), some (.ref 0), some (.ref 386), some (.int (nI (6 * q)))]
abbrev zLX (X : List Int32) (d : Nat) (st : zS) (r : zRes) : Prop := ZX X d 10 false zlawR code st r
def zbl (b : Bool) (a : Int32) : Int32 := if b = true then (if a = 0 then 0 else 1) else a
/-- the calls: the class's method, the reference's, which ints of the row they take (true: told apart by 0 alone) -/
def zops : List (Nat × Nat × List (Nat × Bool)) := [(2049, 2305, [(1, false), (2, false), (3, false), (4, false), (5, false)]), (2052, 2308, [(1, false)]), (2053, 2309, []), (2054, 2343, [(1, false)]), (2055, 2348, [(1, false)]), (2059, 2351, [(1, false), (2, false), (3, false)]), (2063, 2352, [(1, false), (2, false)]), (2064, 2355, [(1, false)]), (2066, 2356, [(1, false), (2, false)]), (2069, 2359, [(1, false), (2, false)]), (2070, 2361, [(1, false), (2, false)]), (2071, 2362, [(1, false), (2, false), (3, true)]), (2073, 2376, [(1, false)]), (2075, 2391, [(1, false), (2, false)]), (2076, 2392, [(1, false), (2, true)]), (2077, 2393, [(1, false), (2, true)]), (2078, 2394, [(1, false), (2, false)]), (2079, 2395, [(1, false), (2, false)]), (2080, 2345, []), (2081, 2396, [(1, false)]), (2082, 2397, [(1, false), (2, false), (3, false)]), (2083, 2398, [(1, false), (2, false)]), (2084, 2399, [(1, false), (2, false)]), (2085, 2400, []), (2086, 2402, [(1, false)]), (2087, 2405, [(1, false)]), (2088, 2407, []), (2089, 2408, [(1, false)]), (2090, 2410, []), (2093, 2411, [(1, false), (2, false)]), (2095, 2414, [(1, false), (2, false)]), (2100, 2420, [(1, false)]), (2102, 2421, [(1, false), (2, false)]), (2103, 2422, [(1, false), (2, false), (3, false)]), (2105, 2423, []), (2109, 2425, [(1, false)]), (2110, 2426, []), (2113, 2344, [(1, false)])]
def zopA (sp : List (Nat × Bool)) (a : Nat → Int32) : List Value := sp.map fun q => .int (zbl q.2 (a q.1))
/-- call k with the row's ints a: from the cells M to the cells M2, with one answer where they are compared -/
def zOpOK (X : List Int32) (d k : Nat) (a : Nat → Int32) (M M2 : zM) : Prop := ∀ jc jm sp, zops[k]? = some (jc, jm, sp) → ∃ (v w : Int32) (M1 : zM), (k = 5 → w = v) ∧ (zarr M1 386 9).isSome = true ∧ ZC X d jc (.ref 0 :: zopA sp a) M (some (.int v), M1) ∧ ZC X d jm (.ref 386 :: zopA sp a) M1 (some (.int w), M2)
def zrow (X : List Int32) (q : Nat) : Nat → Int32 := fun k => X.getD (6 * q + k) 0
section ZLW
variable {X : List Int32} {d : Nat} {r : zRes} {pc q : Nat} {st : List Value} {M : zM}
theorem zidxA {q k : Nat} (hX : X.length ≤ 3072) (hq : 6 * q + 6 ≤ X.length) (hk : k ≤ 5) : nI (6 * q) + nI k = nI (6 * q + k) ∧ (nI (6 * q + k)).toNatClampNeg = 6 * q + k ∧ ¬ (nI (6 * q + k) < 0 ∨ X.length ≤ (nI (6 * q + k)).toNatClampNeg) := by
  have h1 : (nI (6 * q + k)).toNatClampNeg = 6 * q + k := nI_clamp (by omega)
  refine ⟨nI_add _ _, h1, ?_⟩
  rw [h1]
  rintro (h | h)
  · exact nI_pos (by omega) h
  · omega
theorem ZX.arg {k : Nat} {kk : Int} (hX : X.length ≤ 3072) (hq : 6 * q + 6 ≤ X.length) (hk : k ≤ 5) (hkk : Int32.ofInt kk = nI k) (d0 : decode code pc = .ok (.aload_n 0, 1)) (d1 : decode code (pc + 1) = .ok (.iload_n 3, 1)) (d2 : decode code (pc + 2) = .ok (.iconst kk, 1)) (d3 : decode code (pc + 3) = .ok (.iadd, 1)) (d4 : decode code (pc + 4) = .ok (.iaload, 1))
    (n : zLX X d (pc + 5, zml q, .int (zbl false (zrow X q k)) :: st, M) r) : zLX X d (pc, zml q, st, M) r := by
  obtain ⟨e1, e2, e3⟩ := zidxA hX hq hk
  refine ZX.lo d0 rfl rfl rfl rfl ?_
  refine ZX.lo d1 rfl rfl rfl rfl ?_
  refine ZX.pu d2 rfl rfl ?_
  refine ZX.pu d3 rfl rfl ?_
  rw [hkk, e1]
  refine ZX.sr d4 rfl e3 ?_
  rw [e2]
  exact n
theorem ZX.argb {k : Nat} {kk : Int} (hX : X.length ≤ 3072) (hq : 6 * q + 6 ≤ X.length) (hk : k ≤ 5) (hkk : Int32.ofInt kk = nI k) (d0 : decode code pc = .ok (.aload_n 0, 1)) (d1 : decode code (pc + 1) = .ok (.iload_n 3, 1)) (d2 : decode code (pc + 2) = .ok (.iconst kk, 1)) (d3 : decode code (pc + 3) = .ok (.iadd, 1)) (d4 : decode code (pc + 4) = .ok (.iaload, 1)) (d5 : decode code (pc + 5) = .ok (.ifCond .eq 7, 3)) (d6 : decode code (pc + 8) = .ok (.iconst 1, 1)) (d7 : decode code (pc + 9) = .ok (.goto 4, 3)) (d8 : decode code (pc + 12) = .ok (.iconst 0, 1)) (ht1 : ztgt (pc + 5) 7 = some (pc + 12)) (ht2 : ztgt (pc + 9) 4 = some (pc + 13))
    (n : zLX X d (pc + 13, zml q, .int (zbl true (zrow X q k)) :: st, M) r) : zLX X d (pc, zml q, st, M) r := by
  refine ZX.arg hX hq hk hkk d0 d1 d2 d3 d4 ?_
  show zLX X d (pc + 5, zml q, .int (zrow X q k) :: st, M) r
  refine ZX.br (pc' := if zrow X q k = 0 then pc + 12 else pc + 5 + 3) (st' := st) d5 rfl rfl (by simp only [zbr, ht1]; rw [if_pos trivial]) ?_
  unfold zbl at n
  rw [if_pos rfl] at n
  by_cases h : zrow X q k = 0
  · rw [if_pos h]
    rw [if_pos h] at n
    exact ZX.pu d8 rfl rfl n
  · rw [if_neg h]
    rw [if_neg h] at n
    refine ZX.pu d6 rfl rfl ?_
    exact ZX.br d7 rfl rfl (by simp only [zbr, ht2]; rfl) n
theorem zcat1 {a : Nat} : zcat [] ≤ 8 ∧ zcat [Value.int 0] ≤ 8 := by decide
theorem zcatI {v : Int32} : zcat [Value.int v] ≤ 8 := Nat.le_of_ble_eq_true rfl
theorem zcase_0 {v w : Int32} {M1 M2 : zM} {vx vm : List Value} (hX : X.length ≤ 3072) (hq : 6 * q + 6 ≤ X.length) (hx : zarr M 0 8 = some vx) (hm : zarr M1 386 9 = some vm) (h1 : ZC X d 2049 (.ref 0 :: zopA [(1, false), (2, false), (3, false), (4, false), (5, false)] (zrow X q)) M (some (.int v), M1)) (h2 : ZC X d 2305 (.ref 386 :: zopA [(1, false), (2, false), (3, false), (4, false), (5, false)] (zrow X q)) M1 (some (.int w), M2)) (n : zLX X d (1312, zml q, [], M2) r) : zLX X d (200, zml q, [], M) r := by
  refine ZX.lo dl_200 rfl rfl rfl rfl ?_
  refine ZX.arg hX hq (k := 1) (by omega) rfl dl_201 dl_202 dl_203 dl_204 dl_205 ?_
  refine ZX.arg hX hq (k := 2) (by omega) rfl dl_206 dl_207 dl_208 dl_209 dl_210 ?_
  refine ZX.arg hX hq (k := 3) (by omega) rfl dl_211 dl_212 dl_213 dl_214 dl_215 ?_
  refine ZX.arg hX hq (k := 4) (by omega) rfl dl_216 dl_217 dl_218 dl_219 dl_220 ?_
  refine ZX.arg hX hq (k := 5) (by omega) rfl dl_221 dl_222 dl_223 dl_224 dl_225 ?_
  refine ZX.iv (As := zopA [(1, false), (2, false), (3, false), (4, false), (5, false)] (zrow X q)) dl_226 rfl rfl rfl rfl hx (by decide) h1 ?_
  refine ZX.pu dl_229 rfl rfl ?_
  refine ZX.lo dl_230 rfl rfl rfl rfl ?_
  refine ZX.arg hX hq (k := 1) (by omega) rfl dl_231 dl_232 dl_233 dl_234 dl_235 ?_
  refine ZX.arg hX hq (k := 2) (by omega) rfl dl_236 dl_237 dl_238 dl_239 dl_240 ?_
  refine ZX.arg hX hq (k := 3) (by omega) rfl dl_241 dl_242 dl_243 dl_244 dl_245 ?_
  refine ZX.arg hX hq (k := 4) (by omega) rfl dl_246 dl_247 dl_248 dl_249 dl_250 ?_
  refine ZX.arg hX hq (k := 5) (by omega) rfl dl_251 dl_252 dl_253 dl_254 dl_255 ?_
  refine ZX.iv (As := zopA [(1, false), (2, false), (3, false), (4, false), (5, false)] (zrow X q)) dl_256 rfl rfl rfl rfl hm (by decide) h2 ?_
  refine ZX.pu dl_259 rfl rfl ?_
  exact ZX.br dl_260 rfl rfl rfl n
theorem zcase_1 {v w : Int32} {M1 M2 : zM} {vx vm : List Value} (hX : X.length ≤ 3072) (hq : 6 * q + 6 ≤ X.length) (hx : zarr M 0 8 = some vx) (hm : zarr M1 386 9 = some vm) (h1 : ZC X d 2052 (.ref 0 :: zopA [(1, false)] (zrow X q)) M (some (.int v), M1)) (h2 : ZC X d 2308 (.ref 386 :: zopA [(1, false)] (zrow X q)) M1 (some (.int w), M2)) (n : zLX X d (1312, zml q, [], M2) r) : zLX X d (263, zml q, [], M) r := by
  refine ZX.lo dl_263 rfl rfl rfl rfl ?_
  refine ZX.arg hX hq (k := 1) (by omega) rfl dl_264 dl_265 dl_266 dl_267 dl_268 ?_
  refine ZX.iv (As := zopA [(1, false)] (zrow X q)) dl_269 rfl rfl rfl rfl hx (by decide) h1 ?_
  refine ZX.pu dl_272 rfl rfl ?_
  refine ZX.lo dl_273 rfl rfl rfl rfl ?_
  refine ZX.arg hX hq (k := 1) (by omega) rfl dl_274 dl_275 dl_276 dl_277 dl_278 ?_
  refine ZX.iv (As := zopA [(1, false)] (zrow X q)) dl_279 rfl rfl rfl rfl hm (by decide) h2 ?_
  refine ZX.pu dl_282 rfl rfl ?_
  exact ZX.br dl_283 rfl rfl rfl n
theorem zcase_2 {v w : Int32} {M1 M2 : zM} {vx vm : List Value} (hX : X.length ≤ 3072) (hq : 6 * q + 6 ≤ X.length) (hx : zarr M 0 8 = some vx) (hm : zarr M1 386 9 = some vm) (h1 : ZC X d 2053 (.ref 0 :: zopA [] (zrow X q)) M (some (.int v), M1)) (h2 : ZC X d 2309 (.ref 386 :: zopA [] (zrow X q)) M1 (some (.int w), M2)) (n : zLX X d (1312, zml q, [], M2) r) : zLX X d (286, zml q, [], M) r := by
  refine ZX.lo dl_286 rfl rfl rfl rfl ?_
  refine ZX.iv (As := zopA [] (zrow X q)) dl_287 rfl rfl rfl rfl hx (by decide) h1 ?_
  refine ZX.pu dl_290 rfl rfl ?_
  refine ZX.lo dl_291 rfl rfl rfl rfl ?_
  refine ZX.iv (As := zopA [] (zrow X q)) dl_292 rfl rfl rfl rfl hm (by decide) h2 ?_
  refine ZX.pu dl_295 rfl rfl ?_
  exact ZX.br dl_296 rfl rfl rfl n
theorem zcase_3 {v w : Int32} {M1 M2 : zM} {vx vm : List Value} (hX : X.length ≤ 3072) (hq : 6 * q + 6 ≤ X.length) (hx : zarr M 0 8 = some vx) (hm : zarr M1 386 9 = some vm) (h1 : ZC X d 2054 (.ref 0 :: zopA [(1, false)] (zrow X q)) M (some (.int v), M1)) (h2 : ZC X d 2343 (.ref 386 :: zopA [(1, false)] (zrow X q)) M1 (some (.int w), M2)) (n : zLX X d (1312, zml q, [], M2) r) : zLX X d (299, zml q, [], M) r := by
  refine ZX.lo dl_299 rfl rfl rfl rfl ?_
  refine ZX.arg hX hq (k := 1) (by omega) rfl dl_300 dl_301 dl_302 dl_303 dl_304 ?_
  refine ZX.iv (As := zopA [(1, false)] (zrow X q)) dl_305 rfl rfl rfl rfl hx (by decide) h1 ?_
  refine ZX.pu dl_308 rfl rfl ?_
  refine ZX.lo dl_309 rfl rfl rfl rfl ?_
  refine ZX.arg hX hq (k := 1) (by omega) rfl dl_310 dl_311 dl_312 dl_313 dl_314 ?_
  refine ZX.iv (As := zopA [(1, false)] (zrow X q)) dl_315 rfl rfl rfl rfl hm (by decide) h2 ?_
  refine ZX.pu dl_318 rfl rfl ?_
  exact ZX.br dl_319 rfl rfl rfl n
theorem zcase_4 {v w : Int32} {M1 M2 : zM} {vx vm : List Value} (hX : X.length ≤ 3072) (hq : 6 * q + 6 ≤ X.length) (hx : zarr M 0 8 = some vx) (hm : zarr M1 386 9 = some vm) (h1 : ZC X d 2055 (.ref 0 :: zopA [(1, false)] (zrow X q)) M (some (.int v), M1)) (h2 : ZC X d 2348 (.ref 386 :: zopA [(1, false)] (zrow X q)) M1 (some (.int w), M2)) (n : zLX X d (1312, zml q, [], M2) r) : zLX X d (322, zml q, [], M) r := by
  refine ZX.lo dl_322 rfl rfl rfl rfl ?_
  refine ZX.arg hX hq (k := 1) (by omega) rfl dl_323 dl_324 dl_325 dl_326 dl_327 ?_
  refine ZX.iv (As := zopA [(1, false)] (zrow X q)) dl_328 rfl rfl rfl rfl hx (by decide) h1 ?_
  refine ZX.pu dl_331 rfl rfl ?_
  refine ZX.lo dl_332 rfl rfl rfl rfl ?_
  refine ZX.arg hX hq (k := 1) (by omega) rfl dl_333 dl_334 dl_335 dl_336 dl_337 ?_
  refine ZX.iv (As := zopA [(1, false)] (zrow X q)) dl_338 rfl rfl rfl rfl hm (by decide) h2 ?_
  refine ZX.pu dl_341 rfl rfl ?_
  exact ZX.br dl_342 rfl rfl rfl n
theorem zcase_5 {v w : Int32} {M1 M2 : zM} {vx vm : List Value} (hX : X.length ≤ 3072) (hq : 6 * q + 6 ≤ X.length) (hx : zarr M 0 8 = some vx) (hm : zarr M1 386 9 = some vm) (h1 : ZC X d 2059 (.ref 0 :: zopA [(1, false), (2, false), (3, false)] (zrow X q)) M (some (.int v), M1)) (h2 : ZC X d 2351 (.ref 386 :: zopA [(1, false), (2, false), (3, false)] (zrow X q)) M1 (some (.int v), M2)) (n : zLX X d (1312, zml q, [], M2) r) : zLX X d (345, zml q, [], M) r := by
  refine ZX.lo dl_345 rfl rfl rfl rfl ?_
  refine ZX.arg hX hq (k := 1) (by omega) rfl dl_346 dl_347 dl_348 dl_349 dl_350 ?_
  refine ZX.arg hX hq (k := 2) (by omega) rfl dl_351 dl_352 dl_353 dl_354 dl_355 ?_
  refine ZX.arg hX hq (k := 3) (by omega) rfl dl_356 dl_357 dl_358 dl_359 dl_360 ?_
  refine ZX.iv (As := zopA [(1, false), (2, false), (3, false)] (zrow X q)) dl_361 rfl rfl rfl rfl hx (by decide) h1 ?_
  refine ZX.lo dl_364 rfl rfl rfl rfl ?_
  refine ZX.arg hX hq (k := 1) (by omega) rfl dl_365 dl_366 dl_367 dl_368 dl_369 ?_
  refine ZX.arg hX hq (k := 2) (by omega) rfl dl_370 dl_371 dl_372 dl_373 dl_374 ?_
  refine ZX.arg hX hq (k := 3) (by omega) rfl dl_375 dl_376 dl_377 dl_378 dl_379 ?_
  refine ZX.iv (As := zopA [(1, false), (2, false), (3, false)] (zrow X q)) dl_380 rfl rfl rfl rfl hm zcatI h2 ?_
  refine ZX.br (pc' := if v = v then 1312 else 386) (st' := []) dl_383 rfl rfl rfl ?_
  rw [if_pos rfl]
  exact n
theorem zcase_6 {v w : Int32} {M1 M2 : zM} {vx vm : List Value} (hX : X.length ≤ 3072) (hq : 6 * q + 6 ≤ X.length) (hx : zarr M 0 8 = some vx) (hm : zarr M1 386 9 = some vm) (h1 : ZC X d 2063 (.ref 0 :: zopA [(1, false), (2, false)] (zrow X q)) M (some (.int v), M1)) (h2 : ZC X d 2352 (.ref 386 :: zopA [(1, false), (2, false)] (zrow X q)) M1 (some (.int w), M2)) (n : zLX X d (1312, zml q, [], M2) r) : zLX X d (388, zml q, [], M) r := by
  refine ZX.lo dl_388 rfl rfl rfl rfl ?_
  refine ZX.arg hX hq (k := 1) (by omega) rfl dl_389 dl_390 dl_391 dl_392 dl_393 ?_
  refine ZX.arg hX hq (k := 2) (by omega) rfl dl_394 dl_395 dl_396 dl_397 dl_398 ?_
  refine ZX.iv (As := zopA [(1, false), (2, false)] (zrow X q)) dl_399 rfl rfl rfl rfl hx (by decide) h1 ?_
  refine ZX.pu dl_402 rfl rfl ?_
  refine ZX.lo dl_403 rfl rfl rfl rfl ?_
  refine ZX.arg hX hq (k := 1) (by omega) rfl dl_404 dl_405 dl_406 dl_407 dl_408 ?_
  refine ZX.arg hX hq (k := 2) (by omega) rfl dl_409 dl_410 dl_411 dl_412 dl_413 ?_
  refine ZX.iv (As := zopA [(1, false), (2, false)] (zrow X q)) dl_414 rfl rfl rfl rfl hm (by decide) h2 ?_
  refine ZX.pu dl_417 rfl rfl ?_
  exact ZX.br dl_418 rfl rfl rfl n
theorem zcase_7 {v w : Int32} {M1 M2 : zM} {vx vm : List Value} (hX : X.length ≤ 3072) (hq : 6 * q + 6 ≤ X.length) (hx : zarr M 0 8 = some vx) (hm : zarr M1 386 9 = some vm) (h1 : ZC X d 2064 (.ref 0 :: zopA [(1, false)] (zrow X q)) M (some (.int v), M1)) (h2 : ZC X d 2355 (.ref 386 :: zopA [(1, false)] (zrow X q)) M1 (some (.int w), M2)) (n : zLX X d (1312, zml q, [], M2) r) : zLX X d (421, zml q, [], M) r := by
  refine ZX.lo dl_421 rfl rfl rfl rfl ?_
  refine ZX.arg hX hq (k := 1) (by omega) rfl dl_422 dl_423 dl_424 dl_425 dl_426 ?_
  refine ZX.iv (As := zopA [(1, false)] (zrow X q)) dl_427 rfl rfl rfl rfl hx (by decide) h1 ?_
  refine ZX.pu dl_430 rfl rfl ?_
  refine ZX.lo dl_431 rfl rfl rfl rfl ?_
  refine ZX.arg hX hq (k := 1) (by omega) rfl dl_432 dl_433 dl_434 dl_435 dl_436 ?_
  refine ZX.iv (As := zopA [(1, false)] (zrow X q)) dl_437 rfl rfl rfl rfl hm (by decide) h2 ?_
  refine ZX.pu dl_440 rfl rfl ?_
  exact ZX.br dl_441 rfl rfl rfl n
theorem zcase_8 {v w : Int32} {M1 M2 : zM} {vx vm : List Value} (hX : X.length ≤ 3072) (hq : 6 * q + 6 ≤ X.length) (hx : zarr M 0 8 = some vx) (hm : zarr M1 386 9 = some vm) (h1 : ZC X d 2066 (.ref 0 :: zopA [(1, false), (2, false)] (zrow X q)) M (some (.int v), M1)) (h2 : ZC X d 2356 (.ref 386 :: zopA [(1, false), (2, false)] (zrow X q)) M1 (some (.int w), M2)) (n : zLX X d (1312, zml q, [], M2) r) : zLX X d (444, zml q, [], M) r := by
  refine ZX.lo dl_444 rfl rfl rfl rfl ?_
  refine ZX.arg hX hq (k := 1) (by omega) rfl dl_445 dl_446 dl_447 dl_448 dl_449 ?_
  refine ZX.arg hX hq (k := 2) (by omega) rfl dl_450 dl_451 dl_452 dl_453 dl_454 ?_
  refine ZX.iv (As := zopA [(1, false), (2, false)] (zrow X q)) dl_455 rfl rfl rfl rfl hx (by decide) h1 ?_
  refine ZX.pu dl_458 rfl rfl ?_
  refine ZX.lo dl_459 rfl rfl rfl rfl ?_
  refine ZX.arg hX hq (k := 1) (by omega) rfl dl_460 dl_461 dl_462 dl_463 dl_464 ?_
  refine ZX.arg hX hq (k := 2) (by omega) rfl dl_465 dl_466 dl_467 dl_468 dl_469 ?_
  refine ZX.iv (As := zopA [(1, false), (2, false)] (zrow X q)) dl_470 rfl rfl rfl rfl hm (by decide) h2 ?_
  refine ZX.pu dl_473 rfl rfl ?_
  exact ZX.br dl_474 rfl rfl rfl n
theorem zcase_9 {v w : Int32} {M1 M2 : zM} {vx vm : List Value} (hX : X.length ≤ 3072) (hq : 6 * q + 6 ≤ X.length) (hx : zarr M 0 8 = some vx) (hm : zarr M1 386 9 = some vm) (h1 : ZC X d 2069 (.ref 0 :: zopA [(1, false), (2, false)] (zrow X q)) M (some (.int v), M1)) (h2 : ZC X d 2359 (.ref 386 :: zopA [(1, false), (2, false)] (zrow X q)) M1 (some (.int w), M2)) (n : zLX X d (1312, zml q, [], M2) r) : zLX X d (477, zml q, [], M) r := by
  refine ZX.lo dl_477 rfl rfl rfl rfl ?_
  refine ZX.arg hX hq (k := 1) (by omega) rfl dl_478 dl_479 dl_480 dl_481 dl_482 ?_
  refine ZX.arg hX hq (k := 2) (by omega) rfl dl_483 dl_484 dl_485 dl_486 dl_487 ?_
  refine ZX.iv (As := zopA [(1, false), (2, false)] (zrow X q)) dl_488 rfl rfl rfl rfl hx (by decide) h1 ?_
  refine ZX.pu dl_491 rfl rfl ?_
  refine ZX.lo dl_492 rfl rfl rfl rfl ?_
  refine ZX.arg hX hq (k := 1) (by omega) rfl dl_493 dl_494 dl_495 dl_496 dl_497 ?_
  refine ZX.arg hX hq (k := 2) (by omega) rfl dl_498 dl_499 dl_500 dl_501 dl_502 ?_
  refine ZX.iv (As := zopA [(1, false), (2, false)] (zrow X q)) dl_503 rfl rfl rfl rfl hm (by decide) h2 ?_
  refine ZX.pu dl_506 rfl rfl ?_
  exact ZX.br dl_507 rfl rfl rfl n
theorem zcase_10 {v w : Int32} {M1 M2 : zM} {vx vm : List Value} (hX : X.length ≤ 3072) (hq : 6 * q + 6 ≤ X.length) (hx : zarr M 0 8 = some vx) (hm : zarr M1 386 9 = some vm) (h1 : ZC X d 2070 (.ref 0 :: zopA [(1, false), (2, false)] (zrow X q)) M (some (.int v), M1)) (h2 : ZC X d 2361 (.ref 386 :: zopA [(1, false), (2, false)] (zrow X q)) M1 (some (.int w), M2)) (n : zLX X d (1312, zml q, [], M2) r) : zLX X d (510, zml q, [], M) r := by
  refine ZX.lo dl_510 rfl rfl rfl rfl ?_
  refine ZX.arg hX hq (k := 1) (by omega) rfl dl_511 dl_512 dl_513 dl_514 dl_515 ?_
  refine ZX.arg hX hq (k := 2) (by omega) rfl dl_516 dl_517 dl_518 dl_519 dl_520 ?_
  refine ZX.iv (As := zopA [(1, false), (2, false)] (zrow X q)) dl_521 rfl rfl rfl rfl hx (by decide) h1 ?_
  refine ZX.pu dl_524 rfl rfl ?_
  refine ZX.lo dl_525 rfl rfl rfl rfl ?_
  refine ZX.arg hX hq (k := 1) (by omega) rfl dl_526 dl_527 dl_528 dl_529 dl_530 ?_
  refine ZX.arg hX hq (k := 2) (by omega) rfl dl_531 dl_532 dl_533 dl_534 dl_535 ?_
  refine ZX.iv (As := zopA [(1, false), (2, false)] (zrow X q)) dl_536 rfl rfl rfl rfl hm (by decide) h2 ?_
  refine ZX.pu dl_539 rfl rfl ?_
  exact ZX.br dl_540 rfl rfl rfl n
theorem zcase_11 {v w : Int32} {M1 M2 : zM} {vx vm : List Value} (hX : X.length ≤ 3072) (hq : 6 * q + 6 ≤ X.length) (hx : zarr M 0 8 = some vx) (hm : zarr M1 386 9 = some vm) (h1 : ZC X d 2071 (.ref 0 :: zopA [(1, false), (2, false), (3, true)] (zrow X q)) M (some (.int v), M1)) (h2 : ZC X d 2362 (.ref 386 :: zopA [(1, false), (2, false), (3, true)] (zrow X q)) M1 (some (.int w), M2)) (n : zLX X d (1312, zml q, [], M2) r) : zLX X d (543, zml q, [], M) r := by
  refine ZX.lo dl_543 rfl rfl rfl rfl ?_
  refine ZX.arg hX hq (k := 1) (by omega) rfl dl_544 dl_545 dl_546 dl_547 dl_548 ?_
  refine ZX.arg hX hq (k := 2) (by omega) rfl dl_549 dl_550 dl_551 dl_552 dl_553 ?_
  refine ZX.argb hX hq (k := 3) (by omega) rfl dl_554 dl_555 dl_556 dl_557 dl_558 dl_559 dl_562 dl_563 dl_566 rfl rfl ?_
  refine ZX.iv (As := zopA [(1, false), (2, false), (3, true)] (zrow X q)) dl_567 rfl rfl rfl rfl hx (by decide) h1 ?_
  refine ZX.pu dl_570 rfl rfl ?_
  refine ZX.lo dl_571 rfl rfl rfl rfl ?_
  refine ZX.arg hX hq (k := 1) (by omega) rfl dl_572 dl_573 dl_574 dl_575 dl_576 ?_
  refine ZX.arg hX hq (k := 2) (by omega) rfl dl_577 dl_578 dl_579 dl_580 dl_581 ?_
  refine ZX.argb hX hq (k := 3) (by omega) rfl dl_582 dl_583 dl_584 dl_585 dl_586 dl_587 dl_590 dl_591 dl_594 rfl rfl ?_
  refine ZX.iv (As := zopA [(1, false), (2, false), (3, true)] (zrow X q)) dl_595 rfl rfl rfl rfl hm (by decide) h2 ?_
  refine ZX.pu dl_598 rfl rfl ?_
  exact ZX.br dl_599 rfl rfl rfl n
theorem zcase_12 {v w : Int32} {M1 M2 : zM} {vx vm : List Value} (hX : X.length ≤ 3072) (hq : 6 * q + 6 ≤ X.length) (hx : zarr M 0 8 = some vx) (hm : zarr M1 386 9 = some vm) (h1 : ZC X d 2073 (.ref 0 :: zopA [(1, false)] (zrow X q)) M (some (.int v), M1)) (h2 : ZC X d 2376 (.ref 386 :: zopA [(1, false)] (zrow X q)) M1 (some (.int w), M2)) (n : zLX X d (1312, zml q, [], M2) r) : zLX X d (602, zml q, [], M) r := by
  refine ZX.lo dl_602 rfl rfl rfl rfl ?_
  refine ZX.arg hX hq (k := 1) (by omega) rfl dl_603 dl_604 dl_605 dl_606 dl_607 ?_
  refine ZX.iv (As := zopA [(1, false)] (zrow X q)) dl_608 rfl rfl rfl rfl hx (by decide) h1 ?_
  refine ZX.pu dl_611 rfl rfl ?_
  refine ZX.lo dl_612 rfl rfl rfl rfl ?_
  refine ZX.arg hX hq (k := 1) (by omega) rfl dl_613 dl_614 dl_615 dl_616 dl_617 ?_
  refine ZX.iv (As := zopA [(1, false)] (zrow X q)) dl_618 rfl rfl rfl rfl hm (by decide) h2 ?_
  refine ZX.pu dl_621 rfl rfl ?_
  exact ZX.br dl_622 rfl rfl rfl n
theorem zcase_13 {v w : Int32} {M1 M2 : zM} {vx vm : List Value} (hX : X.length ≤ 3072) (hq : 6 * q + 6 ≤ X.length) (hx : zarr M 0 8 = some vx) (hm : zarr M1 386 9 = some vm) (h1 : ZC X d 2075 (.ref 0 :: zopA [(1, false), (2, false)] (zrow X q)) M (some (.int v), M1)) (h2 : ZC X d 2391 (.ref 386 :: zopA [(1, false), (2, false)] (zrow X q)) M1 (some (.int w), M2)) (n : zLX X d (1312, zml q, [], M2) r) : zLX X d (625, zml q, [], M) r := by
  refine ZX.lo dl_625 rfl rfl rfl rfl ?_
  refine ZX.arg hX hq (k := 1) (by omega) rfl dl_626 dl_627 dl_628 dl_629 dl_630 ?_
  refine ZX.arg hX hq (k := 2) (by omega) rfl dl_631 dl_632 dl_633 dl_634 dl_635 ?_
  refine ZX.iv (As := zopA [(1, false), (2, false)] (zrow X q)) dl_636 rfl rfl rfl rfl hx (by decide) h1 ?_
  refine ZX.pu dl_639 rfl rfl ?_
  refine ZX.lo dl_640 rfl rfl rfl rfl ?_
  refine ZX.arg hX hq (k := 1) (by omega) rfl dl_641 dl_642 dl_643 dl_644 dl_645 ?_
  refine ZX.arg hX hq (k := 2) (by omega) rfl dl_646 dl_647 dl_648 dl_649 dl_650 ?_
  refine ZX.iv (As := zopA [(1, false), (2, false)] (zrow X q)) dl_651 rfl rfl rfl rfl hm (by decide) h2 ?_
  refine ZX.pu dl_654 rfl rfl ?_
  exact ZX.br dl_655 rfl rfl rfl n
theorem zcase_14 {v w : Int32} {M1 M2 : zM} {vx vm : List Value} (hX : X.length ≤ 3072) (hq : 6 * q + 6 ≤ X.length) (hx : zarr M 0 8 = some vx) (hm : zarr M1 386 9 = some vm) (h1 : ZC X d 2076 (.ref 0 :: zopA [(1, false), (2, true)] (zrow X q)) M (some (.int v), M1)) (h2 : ZC X d 2392 (.ref 386 :: zopA [(1, false), (2, true)] (zrow X q)) M1 (some (.int w), M2)) (n : zLX X d (1312, zml q, [], M2) r) : zLX X d (658, zml q, [], M) r := by
  refine ZX.lo dl_658 rfl rfl rfl rfl ?_
  refine ZX.arg hX hq (k := 1) (by omega) rfl dl_659 dl_660 dl_661 dl_662 dl_663 ?_
  refine ZX.argb hX hq (k := 2) (by omega) rfl dl_664 dl_665 dl_666 dl_667 dl_668 dl_669 dl_672 dl_673 dl_676 rfl rfl ?_
  refine ZX.iv (As := zopA [(1, false), (2, true)] (zrow X q)) dl_677 rfl rfl rfl rfl hx (by decide) h1 ?_
  refine ZX.pu dl_680 rfl rfl ?_
  refine ZX.lo dl_681 rfl rfl rfl rfl ?_
  refine ZX.arg hX hq (k := 1) (by omega) rfl dl_682 dl_683 dl_684 dl_685 dl_686 ?_
  refine ZX.argb hX hq (k := 2) (by omega) rfl dl_687 dl_688 dl_689 dl_690 dl_691 dl_692 dl_695 dl_696 dl_699 rfl rfl ?_
  refine ZX.iv (As := zopA [(1, false), (2, true)] (zrow X q)) dl_700 rfl rfl rfl rfl hm (by decide) h2 ?_
  refine ZX.pu dl_703 rfl rfl ?_
  exact ZX.br dl_704 rfl rfl rfl n
theorem zcase_15 {v w : Int32} {M1 M2 : zM} {vx vm : List Value} (hX : X.length ≤ 3072) (hq : 6 * q + 6 ≤ X.length) (hx : zarr M 0 8 = some vx) (hm : zarr M1 386 9 = some vm) (h1 : ZC X d 2077 (.ref 0 :: zopA [(1, false), (2, true)] (zrow X q)) M (some (.int v), M1)) (h2 : ZC X d 2393 (.ref 386 :: zopA [(1, false), (2, true)] (zrow X q)) M1 (some (.int w), M2)) (n : zLX X d (1312, zml q, [], M2) r) : zLX X d (707, zml q, [], M) r := by
  refine ZX.lo dl_707 rfl rfl rfl rfl ?_
  refine ZX.arg hX hq (k := 1) (by omega) rfl dl_708 dl_709 dl_710 dl_711 dl_712 ?_
  refine ZX.argb hX hq (k := 2) (by omega) rfl dl_713 dl_714 dl_715 dl_716 dl_717 dl_718 dl_721 dl_722 dl_725 rfl rfl ?_
  refine ZX.iv (As := zopA [(1, false), (2, true)] (zrow X q)) dl_726 rfl rfl rfl rfl hx (by decide) h1 ?_
  refine ZX.pu dl_729 rfl rfl ?_
  refine ZX.lo dl_730 rfl rfl rfl rfl ?_
  refine ZX.arg hX hq (k := 1) (by omega) rfl dl_731 dl_732 dl_733 dl_734 dl_735 ?_
  refine ZX.argb hX hq (k := 2) (by omega) rfl dl_736 dl_737 dl_738 dl_739 dl_740 dl_741 dl_744 dl_745 dl_748 rfl rfl ?_
  refine ZX.iv (As := zopA [(1, false), (2, true)] (zrow X q)) dl_749 rfl rfl rfl rfl hm (by decide) h2 ?_
  refine ZX.pu dl_752 rfl rfl ?_
  exact ZX.br dl_753 rfl rfl rfl n
theorem zcase_16 {v w : Int32} {M1 M2 : zM} {vx vm : List Value} (hX : X.length ≤ 3072) (hq : 6 * q + 6 ≤ X.length) (hx : zarr M 0 8 = some vx) (hm : zarr M1 386 9 = some vm) (h1 : ZC X d 2078 (.ref 0 :: zopA [(1, false), (2, false)] (zrow X q)) M (some (.int v), M1)) (h2 : ZC X d 2394 (.ref 386 :: zopA [(1, false), (2, false)] (zrow X q)) M1 (some (.int w), M2)) (n : zLX X d (1312, zml q, [], M2) r) : zLX X d (756, zml q, [], M) r := by
  refine ZX.lo dl_756 rfl rfl rfl rfl ?_
  refine ZX.arg hX hq (k := 1) (by omega) rfl dl_757 dl_758 dl_759 dl_760 dl_761 ?_
  refine ZX.arg hX hq (k := 2) (by omega) rfl dl_762 dl_763 dl_764 dl_765 dl_766 ?_
  refine ZX.iv (As := zopA [(1, false), (2, false)] (zrow X q)) dl_767 rfl rfl rfl rfl hx (by decide) h1 ?_
  refine ZX.pu dl_770 rfl rfl ?_
  refine ZX.lo dl_771 rfl rfl rfl rfl ?_
  refine ZX.arg hX hq (k := 1) (by omega) rfl dl_772 dl_773 dl_774 dl_775 dl_776 ?_
  refine ZX.arg hX hq (k := 2) (by omega) rfl dl_777 dl_778 dl_779 dl_780 dl_781 ?_
  refine ZX.iv (As := zopA [(1, false), (2, false)] (zrow X q)) dl_782 rfl rfl rfl rfl hm (by decide) h2 ?_
  refine ZX.pu dl_785 rfl rfl ?_
  exact ZX.br dl_786 rfl rfl rfl n
theorem zcase_17 {v w : Int32} {M1 M2 : zM} {vx vm : List Value} (hX : X.length ≤ 3072) (hq : 6 * q + 6 ≤ X.length) (hx : zarr M 0 8 = some vx) (hm : zarr M1 386 9 = some vm) (h1 : ZC X d 2079 (.ref 0 :: zopA [(1, false), (2, false)] (zrow X q)) M (some (.int v), M1)) (h2 : ZC X d 2395 (.ref 386 :: zopA [(1, false), (2, false)] (zrow X q)) M1 (some (.int w), M2)) (n : zLX X d (1312, zml q, [], M2) r) : zLX X d (789, zml q, [], M) r := by
  refine ZX.lo dl_789 rfl rfl rfl rfl ?_
  refine ZX.arg hX hq (k := 1) (by omega) rfl dl_790 dl_791 dl_792 dl_793 dl_794 ?_
  refine ZX.arg hX hq (k := 2) (by omega) rfl dl_795 dl_796 dl_797 dl_798 dl_799 ?_
  refine ZX.iv (As := zopA [(1, false), (2, false)] (zrow X q)) dl_800 rfl rfl rfl rfl hx (by decide) h1 ?_
  refine ZX.pu dl_803 rfl rfl ?_
  refine ZX.lo dl_804 rfl rfl rfl rfl ?_
  refine ZX.arg hX hq (k := 1) (by omega) rfl dl_805 dl_806 dl_807 dl_808 dl_809 ?_
  refine ZX.arg hX hq (k := 2) (by omega) rfl dl_810 dl_811 dl_812 dl_813 dl_814 ?_
  refine ZX.iv (As := zopA [(1, false), (2, false)] (zrow X q)) dl_815 rfl rfl rfl rfl hm (by decide) h2 ?_
  refine ZX.pu dl_818 rfl rfl ?_
  exact ZX.br dl_819 rfl rfl rfl n
theorem zcase_18 {v w : Int32} {M1 M2 : zM} {vx vm : List Value} (hX : X.length ≤ 3072) (hq : 6 * q + 6 ≤ X.length) (hx : zarr M 0 8 = some vx) (hm : zarr M1 386 9 = some vm) (h1 : ZC X d 2080 (.ref 0 :: zopA [] (zrow X q)) M (some (.int v), M1)) (h2 : ZC X d 2345 (.ref 386 :: zopA [] (zrow X q)) M1 (some (.int w), M2)) (n : zLX X d (1312, zml q, [], M2) r) : zLX X d (822, zml q, [], M) r := by
  refine ZX.lo dl_822 rfl rfl rfl rfl ?_
  refine ZX.iv (As := zopA [] (zrow X q)) dl_823 rfl rfl rfl rfl hx (by decide) h1 ?_
  refine ZX.pu dl_826 rfl rfl ?_
  refine ZX.lo dl_827 rfl rfl rfl rfl ?_
  refine ZX.iv (As := zopA [] (zrow X q)) dl_828 rfl rfl rfl rfl hm (by decide) h2 ?_
  refine ZX.pu dl_831 rfl rfl ?_
  exact ZX.br dl_832 rfl rfl rfl n
theorem zcase_19 {v w : Int32} {M1 M2 : zM} {vx vm : List Value} (hX : X.length ≤ 3072) (hq : 6 * q + 6 ≤ X.length) (hx : zarr M 0 8 = some vx) (hm : zarr M1 386 9 = some vm) (h1 : ZC X d 2081 (.ref 0 :: zopA [(1, false)] (zrow X q)) M (some (.int v), M1)) (h2 : ZC X d 2396 (.ref 386 :: zopA [(1, false)] (zrow X q)) M1 (some (.int w), M2)) (n : zLX X d (1312, zml q, [], M2) r) : zLX X d (835, zml q, [], M) r := by
  refine ZX.lo dl_835 rfl rfl rfl rfl ?_
  refine ZX.arg hX hq (k := 1) (by omega) rfl dl_836 dl_837 dl_838 dl_839 dl_840 ?_
  refine ZX.iv (As := zopA [(1, false)] (zrow X q)) dl_841 rfl rfl rfl rfl hx (by decide) h1 ?_
  refine ZX.pu dl_844 rfl rfl ?_
  refine ZX.lo dl_845 rfl rfl rfl rfl ?_
  refine ZX.arg hX hq (k := 1) (by omega) rfl dl_846 dl_847 dl_848 dl_849 dl_850 ?_
  refine ZX.iv (As := zopA [(1, false)] (zrow X q)) dl_851 rfl rfl rfl rfl hm (by decide) h2 ?_
  refine ZX.pu dl_854 rfl rfl ?_
  exact ZX.br dl_855 rfl rfl rfl n
theorem zcase_20 {v w : Int32} {M1 M2 : zM} {vx vm : List Value} (hX : X.length ≤ 3072) (hq : 6 * q + 6 ≤ X.length) (hx : zarr M 0 8 = some vx) (hm : zarr M1 386 9 = some vm) (h1 : ZC X d 2082 (.ref 0 :: zopA [(1, false), (2, false), (3, false)] (zrow X q)) M (some (.int v), M1)) (h2 : ZC X d 2397 (.ref 386 :: zopA [(1, false), (2, false), (3, false)] (zrow X q)) M1 (some (.int w), M2)) (n : zLX X d (1312, zml q, [], M2) r) : zLX X d (858, zml q, [], M) r := by
  refine ZX.lo dl_858 rfl rfl rfl rfl ?_
  refine ZX.arg hX hq (k := 1) (by omega) rfl dl_859 dl_860 dl_861 dl_862 dl_863 ?_
  refine ZX.arg hX hq (k := 2) (by omega) rfl dl_864 dl_865 dl_866 dl_867 dl_868 ?_
  refine ZX.arg hX hq (k := 3) (by omega) rfl dl_869 dl_870 dl_871 dl_872 dl_873 ?_
  refine ZX.iv (As := zopA [(1, false), (2, false), (3, false)] (zrow X q)) dl_874 rfl rfl rfl rfl hx (by decide) h1 ?_
  refine ZX.pu dl_877 rfl rfl ?_
  refine ZX.lo dl_878 rfl rfl rfl rfl ?_
  refine ZX.arg hX hq (k := 1) (by omega) rfl dl_879 dl_880 dl_881 dl_882 dl_883 ?_
  refine ZX.arg hX hq (k := 2) (by omega) rfl dl_884 dl_885 dl_886 dl_887 dl_888 ?_
  refine ZX.arg hX hq (k := 3) (by omega) rfl dl_889 dl_890 dl_891 dl_892 dl_893 ?_
  refine ZX.iv (As := zopA [(1, false), (2, false), (3, false)] (zrow X q)) dl_894 rfl rfl rfl rfl hm (by decide) h2 ?_
  refine ZX.pu dl_897 rfl rfl ?_
  exact ZX.br dl_898 rfl rfl rfl n
theorem zcase_21 {v w : Int32} {M1 M2 : zM} {vx vm : List Value} (hX : X.length ≤ 3072) (hq : 6 * q + 6 ≤ X.length) (hx : zarr M 0 8 = some vx) (hm : zarr M1 386 9 = some vm) (h1 : ZC X d 2083 (.ref 0 :: zopA [(1, false), (2, false)] (zrow X q)) M (some (.int v), M1)) (h2 : ZC X d 2398 (.ref 386 :: zopA [(1, false), (2, false)] (zrow X q)) M1 (some (.int w), M2)) (n : zLX X d (1312, zml q, [], M2) r) : zLX X d (901, zml q, [], M) r := by
  refine ZX.lo dl_901 rfl rfl rfl rfl ?_
  refine ZX.arg hX hq (k := 1) (by omega) rfl dl_902 dl_903 dl_904 dl_905 dl_906 ?_
  refine ZX.arg hX hq (k := 2) (by omega) rfl dl_907 dl_908 dl_909 dl_910 dl_911 ?_
  refine ZX.iv (As := zopA [(1, false), (2, false)] (zrow X q)) dl_912 rfl rfl rfl rfl hx (by decide) h1 ?_
  refine ZX.pu dl_915 rfl rfl ?_
  refine ZX.lo dl_916 rfl rfl rfl rfl ?_
  refine ZX.arg hX hq (k := 1) (by omega) rfl dl_917 dl_918 dl_919 dl_920 dl_921 ?_
  refine ZX.arg hX hq (k := 2) (by omega) rfl dl_922 dl_923 dl_924 dl_925 dl_926 ?_
  refine ZX.iv (As := zopA [(1, false), (2, false)] (zrow X q)) dl_927 rfl rfl rfl rfl hm (by decide) h2 ?_
  refine ZX.pu dl_930 rfl rfl ?_
  exact ZX.br dl_931 rfl rfl rfl n
theorem zcase_22 {v w : Int32} {M1 M2 : zM} {vx vm : List Value} (hX : X.length ≤ 3072) (hq : 6 * q + 6 ≤ X.length) (hx : zarr M 0 8 = some vx) (hm : zarr M1 386 9 = some vm) (h1 : ZC X d 2084 (.ref 0 :: zopA [(1, false), (2, false)] (zrow X q)) M (some (.int v), M1)) (h2 : ZC X d 2399 (.ref 386 :: zopA [(1, false), (2, false)] (zrow X q)) M1 (some (.int w), M2)) (n : zLX X d (1312, zml q, [], M2) r) : zLX X d (934, zml q, [], M) r := by
  refine ZX.lo dl_934 rfl rfl rfl rfl ?_
  refine ZX.arg hX hq (k := 1) (by omega) rfl dl_935 dl_936 dl_937 dl_938 dl_939 ?_
  refine ZX.arg hX hq (k := 2) (by omega) rfl dl_940 dl_941 dl_942 dl_943 dl_944 ?_
  refine ZX.iv (As := zopA [(1, false), (2, false)] (zrow X q)) dl_945 rfl rfl rfl rfl hx (by decide) h1 ?_
  refine ZX.pu dl_948 rfl rfl ?_
  refine ZX.lo dl_949 rfl rfl rfl rfl ?_
  refine ZX.arg hX hq (k := 1) (by omega) rfl dl_950 dl_951 dl_952 dl_953 dl_954 ?_
  refine ZX.arg hX hq (k := 2) (by omega) rfl dl_955 dl_956 dl_957 dl_958 dl_959 ?_
  refine ZX.iv (As := zopA [(1, false), (2, false)] (zrow X q)) dl_960 rfl rfl rfl rfl hm (by decide) h2 ?_
  refine ZX.pu dl_963 rfl rfl ?_
  exact ZX.br dl_964 rfl rfl rfl n
theorem zcase_23 {v w : Int32} {M1 M2 : zM} {vx vm : List Value} (hX : X.length ≤ 3072) (hq : 6 * q + 6 ≤ X.length) (hx : zarr M 0 8 = some vx) (hm : zarr M1 386 9 = some vm) (h1 : ZC X d 2085 (.ref 0 :: zopA [] (zrow X q)) M (some (.int v), M1)) (h2 : ZC X d 2400 (.ref 386 :: zopA [] (zrow X q)) M1 (some (.int w), M2)) (n : zLX X d (1312, zml q, [], M2) r) : zLX X d (967, zml q, [], M) r := by
  refine ZX.lo dl_967 rfl rfl rfl rfl ?_
  refine ZX.iv (As := zopA [] (zrow X q)) dl_968 rfl rfl rfl rfl hx (by decide) h1 ?_
  refine ZX.pu dl_971 rfl rfl ?_
  refine ZX.lo dl_972 rfl rfl rfl rfl ?_
  refine ZX.iv (As := zopA [] (zrow X q)) dl_973 rfl rfl rfl rfl hm (by decide) h2 ?_
  refine ZX.pu dl_976 rfl rfl ?_
  exact ZX.br dl_977 rfl rfl rfl n
theorem zcase_24 {v w : Int32} {M1 M2 : zM} {vx vm : List Value} (hX : X.length ≤ 3072) (hq : 6 * q + 6 ≤ X.length) (hx : zarr M 0 8 = some vx) (hm : zarr M1 386 9 = some vm) (h1 : ZC X d 2086 (.ref 0 :: zopA [(1, false)] (zrow X q)) M (some (.int v), M1)) (h2 : ZC X d 2402 (.ref 386 :: zopA [(1, false)] (zrow X q)) M1 (some (.int w), M2)) (n : zLX X d (1312, zml q, [], M2) r) : zLX X d (980, zml q, [], M) r := by
  refine ZX.lo dl_980 rfl rfl rfl rfl ?_
  refine ZX.arg hX hq (k := 1) (by omega) rfl dl_981 dl_982 dl_983 dl_984 dl_985 ?_
  refine ZX.iv (As := zopA [(1, false)] (zrow X q)) dl_986 rfl rfl rfl rfl hx (by decide) h1 ?_
  refine ZX.pu dl_989 rfl rfl ?_
  refine ZX.lo dl_990 rfl rfl rfl rfl ?_
  refine ZX.arg hX hq (k := 1) (by omega) rfl dl_991 dl_992 dl_993 dl_994 dl_995 ?_
  refine ZX.iv (As := zopA [(1, false)] (zrow X q)) dl_996 rfl rfl rfl rfl hm (by decide) h2 ?_
  refine ZX.pu dl_999 rfl rfl ?_
  exact ZX.br dl_1000 rfl rfl rfl n
theorem zcase_25 {v w : Int32} {M1 M2 : zM} {vx vm : List Value} (hX : X.length ≤ 3072) (hq : 6 * q + 6 ≤ X.length) (hx : zarr M 0 8 = some vx) (hm : zarr M1 386 9 = some vm) (h1 : ZC X d 2087 (.ref 0 :: zopA [(1, false)] (zrow X q)) M (some (.int v), M1)) (h2 : ZC X d 2405 (.ref 386 :: zopA [(1, false)] (zrow X q)) M1 (some (.int w), M2)) (n : zLX X d (1312, zml q, [], M2) r) : zLX X d (1003, zml q, [], M) r := by
  refine ZX.lo dl_1003 rfl rfl rfl rfl ?_
  refine ZX.arg hX hq (k := 1) (by omega) rfl dl_1004 dl_1005 dl_1006 dl_1007 dl_1008 ?_
  refine ZX.iv (As := zopA [(1, false)] (zrow X q)) dl_1009 rfl rfl rfl rfl hx (by decide) h1 ?_
  refine ZX.pu dl_1012 rfl rfl ?_
  refine ZX.lo dl_1013 rfl rfl rfl rfl ?_
  refine ZX.arg hX hq (k := 1) (by omega) rfl dl_1014 dl_1015 dl_1016 dl_1017 dl_1018 ?_
  refine ZX.iv (As := zopA [(1, false)] (zrow X q)) dl_1019 rfl rfl rfl rfl hm (by decide) h2 ?_
  refine ZX.pu dl_1022 rfl rfl ?_
  exact ZX.br dl_1023 rfl rfl rfl n
theorem zcase_26 {v w : Int32} {M1 M2 : zM} {vx vm : List Value} (hX : X.length ≤ 3072) (hq : 6 * q + 6 ≤ X.length) (hx : zarr M 0 8 = some vx) (hm : zarr M1 386 9 = some vm) (h1 : ZC X d 2088 (.ref 0 :: zopA [] (zrow X q)) M (some (.int v), M1)) (h2 : ZC X d 2407 (.ref 386 :: zopA [] (zrow X q)) M1 (some (.int w), M2)) (n : zLX X d (1312, zml q, [], M2) r) : zLX X d (1026, zml q, [], M) r := by
  refine ZX.lo dl_1026 rfl rfl rfl rfl ?_
  refine ZX.iv (As := zopA [] (zrow X q)) dl_1027 rfl rfl rfl rfl hx (by decide) h1 ?_
  refine ZX.pu dl_1030 rfl rfl ?_
  refine ZX.lo dl_1031 rfl rfl rfl rfl ?_
  refine ZX.iv (As := zopA [] (zrow X q)) dl_1032 rfl rfl rfl rfl hm (by decide) h2 ?_
  refine ZX.pu dl_1035 rfl rfl ?_
  exact ZX.br dl_1036 rfl rfl rfl n
theorem zcase_27 {v w : Int32} {M1 M2 : zM} {vx vm : List Value} (hX : X.length ≤ 3072) (hq : 6 * q + 6 ≤ X.length) (hx : zarr M 0 8 = some vx) (hm : zarr M1 386 9 = some vm) (h1 : ZC X d 2089 (.ref 0 :: zopA [(1, false)] (zrow X q)) M (some (.int v), M1)) (h2 : ZC X d 2408 (.ref 386 :: zopA [(1, false)] (zrow X q)) M1 (some (.int w), M2)) (n : zLX X d (1312, zml q, [], M2) r) : zLX X d (1039, zml q, [], M) r := by
  refine ZX.lo dl_1039 rfl rfl rfl rfl ?_
  refine ZX.arg hX hq (k := 1) (by omega) rfl dl_1040 dl_1041 dl_1042 dl_1043 dl_1044 ?_
  refine ZX.iv (As := zopA [(1, false)] (zrow X q)) dl_1045 rfl rfl rfl rfl hx (by decide) h1 ?_
  refine ZX.pu dl_1048 rfl rfl ?_
  refine ZX.lo dl_1049 rfl rfl rfl rfl ?_
  refine ZX.arg hX hq (k := 1) (by omega) rfl dl_1050 dl_1051 dl_1052 dl_1053 dl_1054 ?_
  refine ZX.iv (As := zopA [(1, false)] (zrow X q)) dl_1055 rfl rfl rfl rfl hm (by decide) h2 ?_
  refine ZX.pu dl_1058 rfl rfl ?_
  exact ZX.br dl_1059 rfl rfl rfl n
theorem zcase_28 {v w : Int32} {M1 M2 : zM} {vx vm : List Value} (hX : X.length ≤ 3072) (hq : 6 * q + 6 ≤ X.length) (hx : zarr M 0 8 = some vx) (hm : zarr M1 386 9 = some vm) (h1 : ZC X d 2090 (.ref 0 :: zopA [] (zrow X q)) M (some (.int v), M1)) (h2 : ZC X d 2410 (.ref 386 :: zopA [] (zrow X q)) M1 (some (.int w), M2)) (n : zLX X d (1312, zml q, [], M2) r) : zLX X d (1062, zml q, [], M) r := by
  refine ZX.lo dl_1062 rfl rfl rfl rfl ?_
  refine ZX.iv (As := zopA [] (zrow X q)) dl_1063 rfl rfl rfl rfl hx (by decide) h1 ?_
  refine ZX.pu dl_1066 rfl rfl ?_
  refine ZX.lo dl_1067 rfl rfl rfl rfl ?_
  refine ZX.iv (As := zopA [] (zrow X q)) dl_1068 rfl rfl rfl rfl hm (by decide) h2 ?_
  refine ZX.pu dl_1071 rfl rfl ?_
  exact ZX.br dl_1072 rfl rfl rfl n
theorem zcase_29 {v w : Int32} {M1 M2 : zM} {vx vm : List Value} (hX : X.length ≤ 3072) (hq : 6 * q + 6 ≤ X.length) (hx : zarr M 0 8 = some vx) (hm : zarr M1 386 9 = some vm) (h1 : ZC X d 2093 (.ref 0 :: zopA [(1, false), (2, false)] (zrow X q)) M (some (.int v), M1)) (h2 : ZC X d 2411 (.ref 386 :: zopA [(1, false), (2, false)] (zrow X q)) M1 (some (.int w), M2)) (n : zLX X d (1312, zml q, [], M2) r) : zLX X d (1075, zml q, [], M) r := by
  refine ZX.lo dl_1075 rfl rfl rfl rfl ?_
  refine ZX.arg hX hq (k := 1) (by omega) rfl dl_1076 dl_1077 dl_1078 dl_1079 dl_1080 ?_
  refine ZX.arg hX hq (k := 2) (by omega) rfl dl_1081 dl_1082 dl_1083 dl_1084 dl_1085 ?_
  refine ZX.iv (As := zopA [(1, false), (2, false)] (zrow X q)) dl_1086 rfl rfl rfl rfl hx (by decide) h1 ?_
  refine ZX.pu dl_1089 rfl rfl ?_
  refine ZX.lo dl_1090 rfl rfl rfl rfl ?_
  refine ZX.arg hX hq (k := 1) (by omega) rfl dl_1091 dl_1092 dl_1093 dl_1094 dl_1095 ?_
  refine ZX.arg hX hq (k := 2) (by omega) rfl dl_1096 dl_1097 dl_1098 dl_1099 dl_1100 ?_
  refine ZX.iv (As := zopA [(1, false), (2, false)] (zrow X q)) dl_1101 rfl rfl rfl rfl hm (by decide) h2 ?_
  refine ZX.pu dl_1104 rfl rfl ?_
  exact ZX.br dl_1105 rfl rfl rfl n
theorem zcase_30 {v w : Int32} {M1 M2 : zM} {vx vm : List Value} (hX : X.length ≤ 3072) (hq : 6 * q + 6 ≤ X.length) (hx : zarr M 0 8 = some vx) (hm : zarr M1 386 9 = some vm) (h1 : ZC X d 2095 (.ref 0 :: zopA [(1, false), (2, false)] (zrow X q)) M (some (.int v), M1)) (h2 : ZC X d 2414 (.ref 386 :: zopA [(1, false), (2, false)] (zrow X q)) M1 (some (.int w), M2)) (n : zLX X d (1312, zml q, [], M2) r) : zLX X d (1108, zml q, [], M) r := by
  refine ZX.lo dl_1108 rfl rfl rfl rfl ?_
  refine ZX.arg hX hq (k := 1) (by omega) rfl dl_1109 dl_1110 dl_1111 dl_1112 dl_1113 ?_
  refine ZX.arg hX hq (k := 2) (by omega) rfl dl_1114 dl_1115 dl_1116 dl_1117 dl_1118 ?_
  refine ZX.iv (As := zopA [(1, false), (2, false)] (zrow X q)) dl_1119 rfl rfl rfl rfl hx (by decide) h1 ?_
  refine ZX.pu dl_1122 rfl rfl ?_
  refine ZX.lo dl_1123 rfl rfl rfl rfl ?_
  refine ZX.arg hX hq (k := 1) (by omega) rfl dl_1124 dl_1125 dl_1126 dl_1127 dl_1128 ?_
  refine ZX.arg hX hq (k := 2) (by omega) rfl dl_1129 dl_1130 dl_1131 dl_1132 dl_1133 ?_
  refine ZX.iv (As := zopA [(1, false), (2, false)] (zrow X q)) dl_1134 rfl rfl rfl rfl hm (by decide) h2 ?_
  refine ZX.pu dl_1137 rfl rfl ?_
  exact ZX.br dl_1138 rfl rfl rfl n
theorem zcase_31 {v w : Int32} {M1 M2 : zM} {vx vm : List Value} (hX : X.length ≤ 3072) (hq : 6 * q + 6 ≤ X.length) (hx : zarr M 0 8 = some vx) (hm : zarr M1 386 9 = some vm) (h1 : ZC X d 2100 (.ref 0 :: zopA [(1, false)] (zrow X q)) M (some (.int v), M1)) (h2 : ZC X d 2420 (.ref 386 :: zopA [(1, false)] (zrow X q)) M1 (some (.int w), M2)) (n : zLX X d (1312, zml q, [], M2) r) : zLX X d (1141, zml q, [], M) r := by
  refine ZX.lo dl_1141 rfl rfl rfl rfl ?_
  refine ZX.arg hX hq (k := 1) (by omega) rfl dl_1142 dl_1143 dl_1144 dl_1145 dl_1146 ?_
  refine ZX.iv (As := zopA [(1, false)] (zrow X q)) dl_1147 rfl rfl rfl rfl hx (by decide) h1 ?_
  refine ZX.pu dl_1150 rfl rfl ?_
  refine ZX.lo dl_1151 rfl rfl rfl rfl ?_
  refine ZX.arg hX hq (k := 1) (by omega) rfl dl_1152 dl_1153 dl_1154 dl_1155 dl_1156 ?_
  refine ZX.iv (As := zopA [(1, false)] (zrow X q)) dl_1157 rfl rfl rfl rfl hm (by decide) h2 ?_
  refine ZX.pu dl_1160 rfl rfl ?_
  exact ZX.br dl_1161 rfl rfl rfl n
theorem zcase_32 {v w : Int32} {M1 M2 : zM} {vx vm : List Value} (hX : X.length ≤ 3072) (hq : 6 * q + 6 ≤ X.length) (hx : zarr M 0 8 = some vx) (hm : zarr M1 386 9 = some vm) (h1 : ZC X d 2102 (.ref 0 :: zopA [(1, false), (2, false)] (zrow X q)) M (some (.int v), M1)) (h2 : ZC X d 2421 (.ref 386 :: zopA [(1, false), (2, false)] (zrow X q)) M1 (some (.int w), M2)) (n : zLX X d (1312, zml q, [], M2) r) : zLX X d (1164, zml q, [], M) r := by
  refine ZX.lo dl_1164 rfl rfl rfl rfl ?_
  refine ZX.arg hX hq (k := 1) (by omega) rfl dl_1165 dl_1166 dl_1167 dl_1168 dl_1169 ?_
  refine ZX.arg hX hq (k := 2) (by omega) rfl dl_1170 dl_1171 dl_1172 dl_1173 dl_1174 ?_
  refine ZX.iv (As := zopA [(1, false), (2, false)] (zrow X q)) dl_1175 rfl rfl rfl rfl hx (by decide) h1 ?_
  refine ZX.pu dl_1178 rfl rfl ?_
  refine ZX.lo dl_1179 rfl rfl rfl rfl ?_
  refine ZX.arg hX hq (k := 1) (by omega) rfl dl_1180 dl_1181 dl_1182 dl_1183 dl_1184 ?_
  refine ZX.arg hX hq (k := 2) (by omega) rfl dl_1185 dl_1186 dl_1187 dl_1188 dl_1189 ?_
  refine ZX.iv (As := zopA [(1, false), (2, false)] (zrow X q)) dl_1190 rfl rfl rfl rfl hm (by decide) h2 ?_
  refine ZX.pu dl_1193 rfl rfl ?_
  exact ZX.br dl_1194 rfl rfl rfl n
theorem zcase_33 {v w : Int32} {M1 M2 : zM} {vx vm : List Value} (hX : X.length ≤ 3072) (hq : 6 * q + 6 ≤ X.length) (hx : zarr M 0 8 = some vx) (hm : zarr M1 386 9 = some vm) (h1 : ZC X d 2103 (.ref 0 :: zopA [(1, false), (2, false), (3, false)] (zrow X q)) M (some (.int v), M1)) (h2 : ZC X d 2422 (.ref 386 :: zopA [(1, false), (2, false), (3, false)] (zrow X q)) M1 (some (.int w), M2)) (n : zLX X d (1312, zml q, [], M2) r) : zLX X d (1197, zml q, [], M) r := by
  refine ZX.lo dl_1197 rfl rfl rfl rfl ?_
  refine ZX.arg hX hq (k := 1) (by omega) rfl dl_1198 dl_1199 dl_1200 dl_1201 dl_1202 ?_
  refine ZX.arg hX hq (k := 2) (by omega) rfl dl_1203 dl_1204 dl_1205 dl_1206 dl_1207 ?_
  refine ZX.arg hX hq (k := 3) (by omega) rfl dl_1208 dl_1209 dl_1210 dl_1211 dl_1212 ?_
  refine ZX.iv (As := zopA [(1, false), (2, false), (3, false)] (zrow X q)) dl_1213 rfl rfl rfl rfl hx (by decide) h1 ?_
  refine ZX.pu dl_1216 rfl rfl ?_
  refine ZX.lo dl_1217 rfl rfl rfl rfl ?_
  refine ZX.arg hX hq (k := 1) (by omega) rfl dl_1218 dl_1219 dl_1220 dl_1221 dl_1222 ?_
  refine ZX.arg hX hq (k := 2) (by omega) rfl dl_1223 dl_1224 dl_1225 dl_1226 dl_1227 ?_
  refine ZX.arg hX hq (k := 3) (by omega) rfl dl_1228 dl_1229 dl_1230 dl_1231 dl_1232 ?_
  refine ZX.iv (As := zopA [(1, false), (2, false), (3, false)] (zrow X q)) dl_1233 rfl rfl rfl rfl hm (by decide) h2 ?_
  refine ZX.pu dl_1236 rfl rfl ?_
  exact ZX.br dl_1237 rfl rfl rfl n
theorem zcase_34 {v w : Int32} {M1 M2 : zM} {vx vm : List Value} (hX : X.length ≤ 3072) (hq : 6 * q + 6 ≤ X.length) (hx : zarr M 0 8 = some vx) (hm : zarr M1 386 9 = some vm) (h1 : ZC X d 2105 (.ref 0 :: zopA [] (zrow X q)) M (some (.int v), M1)) (h2 : ZC X d 2423 (.ref 386 :: zopA [] (zrow X q)) M1 (some (.int w), M2)) (n : zLX X d (1312, zml q, [], M2) r) : zLX X d (1240, zml q, [], M) r := by
  refine ZX.lo dl_1240 rfl rfl rfl rfl ?_
  refine ZX.iv (As := zopA [] (zrow X q)) dl_1241 rfl rfl rfl rfl hx (by decide) h1 ?_
  refine ZX.pu dl_1244 rfl rfl ?_
  refine ZX.lo dl_1245 rfl rfl rfl rfl ?_
  refine ZX.iv (As := zopA [] (zrow X q)) dl_1246 rfl rfl rfl rfl hm (by decide) h2 ?_
  refine ZX.pu dl_1249 rfl rfl ?_
  exact ZX.br dl_1250 rfl rfl rfl n
theorem zcase_35 {v w : Int32} {M1 M2 : zM} {vx vm : List Value} (hX : X.length ≤ 3072) (hq : 6 * q + 6 ≤ X.length) (hx : zarr M 0 8 = some vx) (hm : zarr M1 386 9 = some vm) (h1 : ZC X d 2109 (.ref 0 :: zopA [(1, false)] (zrow X q)) M (some (.int v), M1)) (h2 : ZC X d 2425 (.ref 386 :: zopA [(1, false)] (zrow X q)) M1 (some (.int w), M2)) (n : zLX X d (1312, zml q, [], M2) r) : zLX X d (1253, zml q, [], M) r := by
  refine ZX.lo dl_1253 rfl rfl rfl rfl ?_
  refine ZX.arg hX hq (k := 1) (by omega) rfl dl_1254 dl_1255 dl_1256 dl_1257 dl_1258 ?_
  refine ZX.iv (As := zopA [(1, false)] (zrow X q)) dl_1259 rfl rfl rfl rfl hx (by decide) h1 ?_
  refine ZX.pu dl_1262 rfl rfl ?_
  refine ZX.lo dl_1263 rfl rfl rfl rfl ?_
  refine ZX.arg hX hq (k := 1) (by omega) rfl dl_1264 dl_1265 dl_1266 dl_1267 dl_1268 ?_
  refine ZX.iv (As := zopA [(1, false)] (zrow X q)) dl_1269 rfl rfl rfl rfl hm (by decide) h2 ?_
  refine ZX.pu dl_1272 rfl rfl ?_
  exact ZX.br dl_1273 rfl rfl rfl n
theorem zcase_36 {v w : Int32} {M1 M2 : zM} {vx vm : List Value} (hX : X.length ≤ 3072) (hq : 6 * q + 6 ≤ X.length) (hx : zarr M 0 8 = some vx) (hm : zarr M1 386 9 = some vm) (h1 : ZC X d 2110 (.ref 0 :: zopA [] (zrow X q)) M (some (.int v), M1)) (h2 : ZC X d 2426 (.ref 386 :: zopA [] (zrow X q)) M1 (some (.int w), M2)) (n : zLX X d (1312, zml q, [], M2) r) : zLX X d (1276, zml q, [], M) r := by
  refine ZX.lo dl_1276 rfl rfl rfl rfl ?_
  refine ZX.iv (As := zopA [] (zrow X q)) dl_1277 rfl rfl rfl rfl hx (by decide) h1 ?_
  refine ZX.pu dl_1280 rfl rfl ?_
  refine ZX.lo dl_1281 rfl rfl rfl rfl ?_
  refine ZX.iv (As := zopA [] (zrow X q)) dl_1282 rfl rfl rfl rfl hm (by decide) h2 ?_
  refine ZX.pu dl_1285 rfl rfl ?_
  exact ZX.br dl_1286 rfl rfl rfl n
theorem zcase_37 {v w : Int32} {M1 M2 : zM} {vx vm : List Value} (hX : X.length ≤ 3072) (hq : 6 * q + 6 ≤ X.length) (hx : zarr M 0 8 = some vx) (hm : zarr M1 386 9 = some vm) (h1 : ZC X d 2113 (.ref 0 :: zopA [(1, false)] (zrow X q)) M (some (.int v), M1)) (h2 : ZC X d 2344 (.ref 386 :: zopA [(1, false)] (zrow X q)) M1 (some (.int w), M2)) (n : zLX X d (1312, zml q, [], M2) r) : zLX X d (1289, zml q, [], M) r := by
  refine ZX.lo dl_1289 rfl rfl rfl rfl ?_
  refine ZX.arg hX hq (k := 1) (by omega) rfl dl_1290 dl_1291 dl_1292 dl_1293 dl_1294 ?_
  refine ZX.iv (As := zopA [(1, false)] (zrow X q)) dl_1295 rfl rfl rfl rfl hx (by decide) h1 ?_
  refine ZX.pu dl_1298 rfl rfl ?_
  refine ZX.lo dl_1299 rfl rfl rfl rfl ?_
  refine ZX.arg hX hq (k := 1) (by omega) rfl dl_1300 dl_1301 dl_1302 dl_1303 dl_1304 ?_
  refine ZX.iv (As := zopA [(1, false)] (zrow X q)) dl_1305 rfl rfl rfl rfl hm (by decide) h2 ?_
  refine ZX.pu dl_1308 rfl rfl ?_
  exact ZX.br dl_1309 rfl rfl rfl n
end ZLW

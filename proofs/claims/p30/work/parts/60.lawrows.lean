/-! the law's decode rows (wip/p2/mk20.py) -/
theorem dl_0 : decode code 0 = .ok (.new 7, 3) := by decide +kernel
theorem dl_3 : decode code 3 = .ok (.dup, 1) := by decide +kernel
theorem dl_4 : decode code 4 = .ok (.invokespecial 9, 3) := by decide +kernel
theorem dl_7 : decode code 7 = .ok (.astore_n 1, 1) := by decide +kernel
theorem dl_8 : decode code 8 = .ok (.new 10, 3) := by decide +kernel
theorem dl_11 : decode code 11 = .ok (.dup, 1) := by decide +kernel
theorem dl_12 : decode code 12 = .ok (.invokespecial 12, 3) := by decide +kernel
theorem dl_15 : decode code 15 = .ok (.astore_n 2, 1) := by decide +kernel
theorem dl_16 : decode code 16 = .ok (.iconst 0, 1) := by decide +kernel
theorem dl_17 : decode code 17 = .ok (.istore_n 3, 1) := by decide +kernel
theorem dl_18 : decode code 18 = .ok (.iload_n 3, 1) := by decide +kernel
theorem dl_19 : decode code 19 = .ok (.aload_n 0, 1) := by decide +kernel
theorem dl_20 : decode code 20 = .ok (.arraylength, 1) := by decide +kernel
theorem dl_21 : decode code 21 = .ok (.bipush 6, 2) := by decide +kernel
theorem dl_23 : decode code 23 = .ok (.isub, 1) := by decide +kernel
theorem dl_24 : decode code 24 = .ok (.if_icmp .gt 1294, 3) := by decide +kernel
theorem dl_27 : decode code 27 = .ok (.aload_n 0, 1) := by decide +kernel
theorem dl_28 : decode code 28 = .ok (.iload_n 3, 1) := by decide +kernel
theorem dl_29 : decode code 29 = .ok (.iaload, 1) := by decide +kernel
theorem dl_30 : decode code 30 = .ok (.bipush 63, 2) := by decide +kernel
theorem dl_32 : decode code 32 = .ok (.iand, 1) := by decide +kernel
theorem dl_33 : decode code 33 = .ok (.tableswitch 1279 0 37 #[167, 230, 253, 266, 289, 312, 355, 388, 411, 444, 477, 510, 569, 592, 625, 674, 723, 756, 789, 802, 825, 868, 901, 934, 947, 970, 993, 1006, 1029, 1042, 1075, 1108, 1131, 1164, 1207, 1220, 1243, 1256], 167) := by decide +kernel
theorem dl_200 : decode code 200 = .ok (.aload_n 1, 1) := by decide +kernel
theorem dl_201 : decode code 201 = .ok (.aload_n 0, 1) := by decide +kernel
theorem dl_202 : decode code 202 = .ok (.iload_n 3, 1) := by decide +kernel
theorem dl_203 : decode code 203 = .ok (.iconst 1, 1) := by decide +kernel
theorem dl_204 : decode code 204 = .ok (.iadd, 1) := by decide +kernel
theorem dl_205 : decode code 205 = .ok (.iaload, 1) := by decide +kernel
theorem dl_206 : decode code 206 = .ok (.aload_n 0, 1) := by decide +kernel
theorem dl_207 : decode code 207 = .ok (.iload_n 3, 1) := by decide +kernel
theorem dl_208 : decode code 208 = .ok (.iconst 2, 1) := by decide +kernel
theorem dl_209 : decode code 209 = .ok (.iadd, 1) := by decide +kernel
theorem dl_210 : decode code 210 = .ok (.iaload, 1) := by decide +kernel
theorem dl_211 : decode code 211 = .ok (.aload_n 0, 1) := by decide +kernel
theorem dl_212 : decode code 212 = .ok (.iload_n 3, 1) := by decide +kernel
theorem dl_213 : decode code 213 = .ok (.iconst 3, 1) := by decide +kernel
theorem dl_214 : decode code 214 = .ok (.iadd, 1) := by decide +kernel
theorem dl_215 : decode code 215 = .ok (.iaload, 1) := by decide +kernel
theorem dl_216 : decode code 216 = .ok (.aload_n 0, 1) := by decide +kernel
theorem dl_217 : decode code 217 = .ok (.iload_n 3, 1) := by decide +kernel
theorem dl_218 : decode code 218 = .ok (.iconst 4, 1) := by decide +kernel
theorem dl_219 : decode code 219 = .ok (.iadd, 1) := by decide +kernel
theorem dl_220 : decode code 220 = .ok (.iaload, 1) := by decide +kernel
theorem dl_221 : decode code 221 = .ok (.aload_n 0, 1) := by decide +kernel
theorem dl_222 : decode code 222 = .ok (.iload_n 3, 1) := by decide +kernel
theorem dl_223 : decode code 223 = .ok (.iconst 5, 1) := by decide +kernel
theorem dl_224 : decode code 224 = .ok (.iadd, 1) := by decide +kernel
theorem dl_225 : decode code 225 = .ok (.iaload, 1) := by decide +kernel
theorem dl_226 : decode code 226 = .ok (.invokevirtual 13, 3) := by decide +kernel
theorem dl_229 : decode code 229 = .ok (.pop, 1) := by decide +kernel
theorem dl_230 : decode code 230 = .ok (.aload_n 2, 1) := by decide +kernel
theorem dl_231 : decode code 231 = .ok (.aload_n 0, 1) := by decide +kernel
theorem dl_232 : decode code 232 = .ok (.iload_n 3, 1) := by decide +kernel
theorem dl_233 : decode code 233 = .ok (.iconst 1, 1) := by decide +kernel
theorem dl_234 : decode code 234 = .ok (.iadd, 1) := by decide +kernel
theorem dl_235 : decode code 235 = .ok (.iaload, 1) := by decide +kernel
theorem dl_236 : decode code 236 = .ok (.aload_n 0, 1) := by decide +kernel
theorem dl_237 : decode code 237 = .ok (.iload_n 3, 1) := by decide +kernel
theorem dl_238 : decode code 238 = .ok (.iconst 2, 1) := by decide +kernel
theorem dl_239 : decode code 239 = .ok (.iadd, 1) := by decide +kernel
theorem dl_240 : decode code 240 = .ok (.iaload, 1) := by decide +kernel
theorem dl_241 : decode code 241 = .ok (.aload_n 0, 1) := by decide +kernel
theorem dl_242 : decode code 242 = .ok (.iload_n 3, 1) := by decide +kernel
theorem dl_243 : decode code 243 = .ok (.iconst 3, 1) := by decide +kernel
theorem dl_244 : decode code 244 = .ok (.iadd, 1) := by decide +kernel
theorem dl_245 : decode code 245 = .ok (.iaload, 1) := by decide +kernel
theorem dl_246 : decode code 246 = .ok (.aload_n 0, 1) := by decide +kernel
theorem dl_247 : decode code 247 = .ok (.iload_n 3, 1) := by decide +kernel
theorem dl_248 : decode code 248 = .ok (.iconst 4, 1) := by decide +kernel
theorem dl_249 : decode code 249 = .ok (.iadd, 1) := by decide +kernel
theorem dl_250 : decode code 250 = .ok (.iaload, 1) := by decide +kernel
theorem dl_251 : decode code 251 = .ok (.aload_n 0, 1) := by decide +kernel
theorem dl_252 : decode code 252 = .ok (.iload_n 3, 1) := by decide +kernel
theorem dl_253 : decode code 253 = .ok (.iconst 5, 1) := by decide +kernel
theorem dl_254 : decode code 254 = .ok (.iadd, 1) := by decide +kernel
theorem dl_255 : decode code 255 = .ok (.iaload, 1) := by decide +kernel
theorem dl_256 : decode code 256 = .ok (.invokevirtual 17, 3) := by decide +kernel
theorem dl_259 : decode code 259 = .ok (.pop, 1) := by decide +kernel
theorem dl_260 : decode code 260 = .ok (.goto 1052, 3) := by decide +kernel
theorem dl_263 : decode code 263 = .ok (.aload_n 1, 1) := by decide +kernel
theorem dl_264 : decode code 264 = .ok (.aload_n 0, 1) := by decide +kernel
theorem dl_265 : decode code 265 = .ok (.iload_n 3, 1) := by decide +kernel
theorem dl_266 : decode code 266 = .ok (.iconst 1, 1) := by decide +kernel
theorem dl_267 : decode code 267 = .ok (.iadd, 1) := by decide +kernel
theorem dl_268 : decode code 268 = .ok (.iaload, 1) := by decide +kernel
theorem dl_269 : decode code 269 = .ok (.invokevirtual 18, 3) := by decide +kernel
theorem dl_272 : decode code 272 = .ok (.pop, 1) := by decide +kernel
theorem dl_273 : decode code 273 = .ok (.aload_n 2, 1) := by decide +kernel
theorem dl_274 : decode code 274 = .ok (.aload_n 0, 1) := by decide +kernel
theorem dl_275 : decode code 275 = .ok (.iload_n 3, 1) := by decide +kernel
theorem dl_276 : decode code 276 = .ok (.iconst 1, 1) := by decide +kernel
theorem dl_277 : decode code 277 = .ok (.iadd, 1) := by decide +kernel
theorem dl_278 : decode code 278 = .ok (.iaload, 1) := by decide +kernel
theorem dl_279 : decode code 279 = .ok (.invokevirtual 22, 3) := by decide +kernel
theorem dl_282 : decode code 282 = .ok (.pop, 1) := by decide +kernel
theorem dl_283 : decode code 283 = .ok (.goto 1029, 3) := by decide +kernel
theorem dl_286 : decode code 286 = .ok (.aload_n 1, 1) := by decide +kernel
theorem dl_287 : decode code 287 = .ok (.invokevirtual 23, 3) := by decide +kernel
theorem dl_290 : decode code 290 = .ok (.pop, 1) := by decide +kernel
theorem dl_291 : decode code 291 = .ok (.aload_n 2, 1) := by decide +kernel
theorem dl_292 : decode code 292 = .ok (.invokevirtual 27, 3) := by decide +kernel
theorem dl_295 : decode code 295 = .ok (.pop, 1) := by decide +kernel
theorem dl_296 : decode code 296 = .ok (.goto 1016, 3) := by decide +kernel
theorem dl_299 : decode code 299 = .ok (.aload_n 1, 1) := by decide +kernel
theorem dl_300 : decode code 300 = .ok (.aload_n 0, 1) := by decide +kernel
theorem dl_301 : decode code 301 = .ok (.iload_n 3, 1) := by decide +kernel
theorem dl_302 : decode code 302 = .ok (.iconst 1, 1) := by decide +kernel
theorem dl_303 : decode code 303 = .ok (.iadd, 1) := by decide +kernel
theorem dl_304 : decode code 304 = .ok (.iaload, 1) := by decide +kernel
theorem dl_305 : decode code 305 = .ok (.invokevirtual 28, 3) := by decide +kernel
theorem dl_308 : decode code 308 = .ok (.pop, 1) := by decide +kernel
theorem dl_309 : decode code 309 = .ok (.aload_n 2, 1) := by decide +kernel
theorem dl_310 : decode code 310 = .ok (.aload_n 0, 1) := by decide +kernel
theorem dl_311 : decode code 311 = .ok (.iload_n 3, 1) := by decide +kernel
theorem dl_312 : decode code 312 = .ok (.iconst 1, 1) := by decide +kernel
theorem dl_313 : decode code 313 = .ok (.iadd, 1) := by decide +kernel
theorem dl_314 : decode code 314 = .ok (.iaload, 1) := by decide +kernel
theorem dl_315 : decode code 315 = .ok (.invokevirtual 32, 3) := by decide +kernel
theorem dl_318 : decode code 318 = .ok (.pop, 1) := by decide +kernel
theorem dl_319 : decode code 319 = .ok (.goto 993, 3) := by decide +kernel
theorem dl_322 : decode code 322 = .ok (.aload_n 1, 1) := by decide +kernel
theorem dl_323 : decode code 323 = .ok (.aload_n 0, 1) := by decide +kernel
theorem dl_324 : decode code 324 = .ok (.iload_n 3, 1) := by decide +kernel
theorem dl_325 : decode code 325 = .ok (.iconst 1, 1) := by decide +kernel
theorem dl_326 : decode code 326 = .ok (.iadd, 1) := by decide +kernel
theorem dl_327 : decode code 327 = .ok (.iaload, 1) := by decide +kernel
theorem dl_328 : decode code 328 = .ok (.invokevirtual 33, 3) := by decide +kernel
theorem dl_331 : decode code 331 = .ok (.pop, 1) := by decide +kernel
theorem dl_332 : decode code 332 = .ok (.aload_n 2, 1) := by decide +kernel
theorem dl_333 : decode code 333 = .ok (.aload_n 0, 1) := by decide +kernel
theorem dl_334 : decode code 334 = .ok (.iload_n 3, 1) := by decide +kernel
theorem dl_335 : decode code 335 = .ok (.iconst 1, 1) := by decide +kernel
theorem dl_336 : decode code 336 = .ok (.iadd, 1) := by decide +kernel
theorem dl_337 : decode code 337 = .ok (.iaload, 1) := by decide +kernel
theorem dl_338 : decode code 338 = .ok (.invokevirtual 36, 3) := by decide +kernel
theorem dl_341 : decode code 341 = .ok (.pop, 1) := by decide +kernel
theorem dl_342 : decode code 342 = .ok (.goto 970, 3) := by decide +kernel
theorem dl_345 : decode code 345 = .ok (.aload_n 1, 1) := by decide +kernel
theorem dl_346 : decode code 346 = .ok (.aload_n 0, 1) := by decide +kernel
theorem dl_347 : decode code 347 = .ok (.iload_n 3, 1) := by decide +kernel
theorem dl_348 : decode code 348 = .ok (.iconst 1, 1) := by decide +kernel
theorem dl_349 : decode code 349 = .ok (.iadd, 1) := by decide +kernel
theorem dl_350 : decode code 350 = .ok (.iaload, 1) := by decide +kernel
theorem dl_351 : decode code 351 = .ok (.aload_n 0, 1) := by decide +kernel
theorem dl_352 : decode code 352 = .ok (.iload_n 3, 1) := by decide +kernel
theorem dl_353 : decode code 353 = .ok (.iconst 2, 1) := by decide +kernel
theorem dl_354 : decode code 354 = .ok (.iadd, 1) := by decide +kernel
theorem dl_355 : decode code 355 = .ok (.iaload, 1) := by decide +kernel
theorem dl_356 : decode code 356 = .ok (.aload_n 0, 1) := by decide +kernel
theorem dl_357 : decode code 357 = .ok (.iload_n 3, 1) := by decide +kernel
theorem dl_358 : decode code 358 = .ok (.iconst 3, 1) := by decide +kernel
theorem dl_359 : decode code 359 = .ok (.iadd, 1) := by decide +kernel
theorem dl_360 : decode code 360 = .ok (.iaload, 1) := by decide +kernel
theorem dl_361 : decode code 361 = .ok (.invokevirtual 37, 3) := by decide +kernel
theorem dl_364 : decode code 364 = .ok (.pop, 1) := by decide +kernel
theorem dl_365 : decode code 365 = .ok (.aload_n 2, 1) := by decide +kernel
theorem dl_366 : decode code 366 = .ok (.aload_n 0, 1) := by decide +kernel
theorem dl_367 : decode code 367 = .ok (.iload_n 3, 1) := by decide +kernel
theorem dl_368 : decode code 368 = .ok (.iconst 1, 1) := by decide +kernel
theorem dl_369 : decode code 369 = .ok (.iadd, 1) := by decide +kernel
theorem dl_370 : decode code 370 = .ok (.iaload, 1) := by decide +kernel
theorem dl_371 : decode code 371 = .ok (.aload_n 0, 1) := by decide +kernel
theorem dl_372 : decode code 372 = .ok (.iload_n 3, 1) := by decide +kernel
theorem dl_373 : decode code 373 = .ok (.iconst 2, 1) := by decide +kernel
theorem dl_374 : decode code 374 = .ok (.iadd, 1) := by decide +kernel
theorem dl_375 : decode code 375 = .ok (.iaload, 1) := by decide +kernel
theorem dl_376 : decode code 376 = .ok (.aload_n 0, 1) := by decide +kernel
theorem dl_377 : decode code 377 = .ok (.iload_n 3, 1) := by decide +kernel
theorem dl_378 : decode code 378 = .ok (.iconst 3, 1) := by decide +kernel
theorem dl_379 : decode code 379 = .ok (.iadd, 1) := by decide +kernel
theorem dl_380 : decode code 380 = .ok (.iaload, 1) := by decide +kernel
theorem dl_381 : decode code 381 = .ok (.invokevirtual 41, 3) := by decide +kernel
theorem dl_384 : decode code 384 = .ok (.pop, 1) := by decide +kernel
theorem dl_385 : decode code 385 = .ok (.goto 927, 3) := by decide +kernel
theorem dl_388 : decode code 388 = .ok (.aload_n 1, 1) := by decide +kernel
theorem dl_389 : decode code 389 = .ok (.aload_n 0, 1) := by decide +kernel
theorem dl_390 : decode code 390 = .ok (.iload_n 3, 1) := by decide +kernel
theorem dl_391 : decode code 391 = .ok (.iconst 1, 1) := by decide +kernel
theorem dl_392 : decode code 392 = .ok (.iadd, 1) := by decide +kernel
theorem dl_393 : decode code 393 = .ok (.iaload, 1) := by decide +kernel
theorem dl_394 : decode code 394 = .ok (.aload_n 0, 1) := by decide +kernel
theorem dl_395 : decode code 395 = .ok (.iload_n 3, 1) := by decide +kernel
theorem dl_396 : decode code 396 = .ok (.iconst 2, 1) := by decide +kernel
theorem dl_397 : decode code 397 = .ok (.iadd, 1) := by decide +kernel
theorem dl_398 : decode code 398 = .ok (.iaload, 1) := by decide +kernel
theorem dl_399 : decode code 399 = .ok (.invokevirtual 42, 3) := by decide +kernel
theorem dl_402 : decode code 402 = .ok (.pop, 1) := by decide +kernel
theorem dl_403 : decode code 403 = .ok (.aload_n 2, 1) := by decide +kernel
theorem dl_404 : decode code 404 = .ok (.aload_n 0, 1) := by decide +kernel
theorem dl_405 : decode code 405 = .ok (.iload_n 3, 1) := by decide +kernel
theorem dl_406 : decode code 406 = .ok (.iconst 1, 1) := by decide +kernel
theorem dl_407 : decode code 407 = .ok (.iadd, 1) := by decide +kernel
theorem dl_408 : decode code 408 = .ok (.iaload, 1) := by decide +kernel
theorem dl_409 : decode code 409 = .ok (.aload_n 0, 1) := by decide +kernel
theorem dl_410 : decode code 410 = .ok (.iload_n 3, 1) := by decide +kernel
theorem dl_411 : decode code 411 = .ok (.iconst 2, 1) := by decide +kernel
theorem dl_412 : decode code 412 = .ok (.iadd, 1) := by decide +kernel
theorem dl_413 : decode code 413 = .ok (.iaload, 1) := by decide +kernel
theorem dl_414 : decode code 414 = .ok (.invokevirtual 46, 3) := by decide +kernel
theorem dl_417 : decode code 417 = .ok (.pop, 1) := by decide +kernel
theorem dl_418 : decode code 418 = .ok (.goto 894, 3) := by decide +kernel
theorem dl_421 : decode code 421 = .ok (.aload_n 1, 1) := by decide +kernel
theorem dl_422 : decode code 422 = .ok (.aload_n 0, 1) := by decide +kernel
theorem dl_423 : decode code 423 = .ok (.iload_n 3, 1) := by decide +kernel
theorem dl_424 : decode code 424 = .ok (.iconst 1, 1) := by decide +kernel
theorem dl_425 : decode code 425 = .ok (.iadd, 1) := by decide +kernel
theorem dl_426 : decode code 426 = .ok (.iaload, 1) := by decide +kernel
theorem dl_427 : decode code 427 = .ok (.invokevirtual 47, 3) := by decide +kernel
theorem dl_430 : decode code 430 = .ok (.pop, 1) := by decide +kernel
theorem dl_431 : decode code 431 = .ok (.aload_n 2, 1) := by decide +kernel
theorem dl_432 : decode code 432 = .ok (.aload_n 0, 1) := by decide +kernel
theorem dl_433 : decode code 433 = .ok (.iload_n 3, 1) := by decide +kernel
theorem dl_434 : decode code 434 = .ok (.iconst 1, 1) := by decide +kernel
theorem dl_435 : decode code 435 = .ok (.iadd, 1) := by decide +kernel
theorem dl_436 : decode code 436 = .ok (.iaload, 1) := by decide +kernel
theorem dl_437 : decode code 437 = .ok (.invokevirtual 50, 3) := by decide +kernel
theorem dl_440 : decode code 440 = .ok (.pop, 1) := by decide +kernel
theorem dl_441 : decode code 441 = .ok (.goto 871, 3) := by decide +kernel
theorem dl_444 : decode code 444 = .ok (.aload_n 1, 1) := by decide +kernel
theorem dl_445 : decode code 445 = .ok (.aload_n 0, 1) := by decide +kernel
theorem dl_446 : decode code 446 = .ok (.iload_n 3, 1) := by decide +kernel
theorem dl_447 : decode code 447 = .ok (.iconst 1, 1) := by decide +kernel
theorem dl_448 : decode code 448 = .ok (.iadd, 1) := by decide +kernel
theorem dl_449 : decode code 449 = .ok (.iaload, 1) := by decide +kernel
theorem dl_450 : decode code 450 = .ok (.aload_n 0, 1) := by decide +kernel
theorem dl_451 : decode code 451 = .ok (.iload_n 3, 1) := by decide +kernel
theorem dl_452 : decode code 452 = .ok (.iconst 2, 1) := by decide +kernel
theorem dl_453 : decode code 453 = .ok (.iadd, 1) := by decide +kernel
theorem dl_454 : decode code 454 = .ok (.iaload, 1) := by decide +kernel
theorem dl_455 : decode code 455 = .ok (.invokevirtual 51, 3) := by decide +kernel
theorem dl_458 : decode code 458 = .ok (.pop, 1) := by decide +kernel
theorem dl_459 : decode code 459 = .ok (.aload_n 2, 1) := by decide +kernel
theorem dl_460 : decode code 460 = .ok (.aload_n 0, 1) := by decide +kernel
theorem dl_461 : decode code 461 = .ok (.iload_n 3, 1) := by decide +kernel
theorem dl_462 : decode code 462 = .ok (.iconst 1, 1) := by decide +kernel
theorem dl_463 : decode code 463 = .ok (.iadd, 1) := by decide +kernel
theorem dl_464 : decode code 464 = .ok (.iaload, 1) := by decide +kernel
theorem dl_465 : decode code 465 = .ok (.aload_n 0, 1) := by decide +kernel
theorem dl_466 : decode code 466 = .ok (.iload_n 3, 1) := by decide +kernel
theorem dl_467 : decode code 467 = .ok (.iconst 2, 1) := by decide +kernel
theorem dl_468 : decode code 468 = .ok (.iadd, 1) := by decide +kernel
theorem dl_469 : decode code 469 = .ok (.iaload, 1) := by decide +kernel
theorem dl_470 : decode code 470 = .ok (.invokevirtual 54, 3) := by decide +kernel
theorem dl_473 : decode code 473 = .ok (.pop, 1) := by decide +kernel
theorem dl_474 : decode code 474 = .ok (.goto 838, 3) := by decide +kernel
theorem dl_477 : decode code 477 = .ok (.aload_n 1, 1) := by decide +kernel
theorem dl_478 : decode code 478 = .ok (.aload_n 0, 1) := by decide +kernel
theorem dl_479 : decode code 479 = .ok (.iload_n 3, 1) := by decide +kernel
theorem dl_480 : decode code 480 = .ok (.iconst 1, 1) := by decide +kernel
theorem dl_481 : decode code 481 = .ok (.iadd, 1) := by decide +kernel
theorem dl_482 : decode code 482 = .ok (.iaload, 1) := by decide +kernel
theorem dl_483 : decode code 483 = .ok (.aload_n 0, 1) := by decide +kernel
theorem dl_484 : decode code 484 = .ok (.iload_n 3, 1) := by decide +kernel
theorem dl_485 : decode code 485 = .ok (.iconst 2, 1) := by decide +kernel
theorem dl_486 : decode code 486 = .ok (.iadd, 1) := by decide +kernel
theorem dl_487 : decode code 487 = .ok (.iaload, 1) := by decide +kernel
theorem dl_488 : decode code 488 = .ok (.invokevirtual 55, 3) := by decide +kernel
theorem dl_491 : decode code 491 = .ok (.pop, 1) := by decide +kernel
theorem dl_492 : decode code 492 = .ok (.aload_n 2, 1) := by decide +kernel
theorem dl_493 : decode code 493 = .ok (.aload_n 0, 1) := by decide +kernel
theorem dl_494 : decode code 494 = .ok (.iload_n 3, 1) := by decide +kernel
theorem dl_495 : decode code 495 = .ok (.iconst 1, 1) := by decide +kernel
theorem dl_496 : decode code 496 = .ok (.iadd, 1) := by decide +kernel
theorem dl_497 : decode code 497 = .ok (.iaload, 1) := by decide +kernel
theorem dl_498 : decode code 498 = .ok (.aload_n 0, 1) := by decide +kernel
theorem dl_499 : decode code 499 = .ok (.iload_n 3, 1) := by decide +kernel
theorem dl_500 : decode code 500 = .ok (.iconst 2, 1) := by decide +kernel
theorem dl_501 : decode code 501 = .ok (.iadd, 1) := by decide +kernel
theorem dl_502 : decode code 502 = .ok (.iaload, 1) := by decide +kernel
theorem dl_503 : decode code 503 = .ok (.invokevirtual 58, 3) := by decide +kernel
theorem dl_506 : decode code 506 = .ok (.pop, 1) := by decide +kernel
theorem dl_507 : decode code 507 = .ok (.goto 805, 3) := by decide +kernel
theorem dl_510 : decode code 510 = .ok (.aload_n 1, 1) := by decide +kernel
theorem dl_511 : decode code 511 = .ok (.aload_n 0, 1) := by decide +kernel
theorem dl_512 : decode code 512 = .ok (.iload_n 3, 1) := by decide +kernel
theorem dl_513 : decode code 513 = .ok (.iconst 1, 1) := by decide +kernel
theorem dl_514 : decode code 514 = .ok (.iadd, 1) := by decide +kernel
theorem dl_515 : decode code 515 = .ok (.iaload, 1) := by decide +kernel
theorem dl_516 : decode code 516 = .ok (.aload_n 0, 1) := by decide +kernel
theorem dl_517 : decode code 517 = .ok (.iload_n 3, 1) := by decide +kernel
theorem dl_518 : decode code 518 = .ok (.iconst 2, 1) := by decide +kernel
theorem dl_519 : decode code 519 = .ok (.iadd, 1) := by decide +kernel
theorem dl_520 : decode code 520 = .ok (.iaload, 1) := by decide +kernel
theorem dl_521 : decode code 521 = .ok (.invokevirtual 59, 3) := by decide +kernel
theorem dl_524 : decode code 524 = .ok (.pop, 1) := by decide +kernel
theorem dl_525 : decode code 525 = .ok (.aload_n 2, 1) := by decide +kernel
theorem dl_526 : decode code 526 = .ok (.aload_n 0, 1) := by decide +kernel
theorem dl_527 : decode code 527 = .ok (.iload_n 3, 1) := by decide +kernel
theorem dl_528 : decode code 528 = .ok (.iconst 1, 1) := by decide +kernel
theorem dl_529 : decode code 529 = .ok (.iadd, 1) := by decide +kernel
theorem dl_530 : decode code 530 = .ok (.iaload, 1) := by decide +kernel
theorem dl_531 : decode code 531 = .ok (.aload_n 0, 1) := by decide +kernel
theorem dl_532 : decode code 532 = .ok (.iload_n 3, 1) := by decide +kernel
theorem dl_533 : decode code 533 = .ok (.iconst 2, 1) := by decide +kernel
theorem dl_534 : decode code 534 = .ok (.iadd, 1) := by decide +kernel
theorem dl_535 : decode code 535 = .ok (.iaload, 1) := by decide +kernel
theorem dl_536 : decode code 536 = .ok (.invokevirtual 62, 3) := by decide +kernel
theorem dl_539 : decode code 539 = .ok (.pop, 1) := by decide +kernel
theorem dl_540 : decode code 540 = .ok (.goto 772, 3) := by decide +kernel
theorem dl_543 : decode code 543 = .ok (.aload_n 1, 1) := by decide +kernel
theorem dl_544 : decode code 544 = .ok (.aload_n 0, 1) := by decide +kernel
theorem dl_545 : decode code 545 = .ok (.iload_n 3, 1) := by decide +kernel
theorem dl_546 : decode code 546 = .ok (.iconst 1, 1) := by decide +kernel
theorem dl_547 : decode code 547 = .ok (.iadd, 1) := by decide +kernel
theorem dl_548 : decode code 548 = .ok (.iaload, 1) := by decide +kernel
theorem dl_549 : decode code 549 = .ok (.aload_n 0, 1) := by decide +kernel
theorem dl_550 : decode code 550 = .ok (.iload_n 3, 1) := by decide +kernel
theorem dl_551 : decode code 551 = .ok (.iconst 2, 1) := by decide +kernel
theorem dl_552 : decode code 552 = .ok (.iadd, 1) := by decide +kernel
theorem dl_553 : decode code 553 = .ok (.iaload, 1) := by decide +kernel
theorem dl_554 : decode code 554 = .ok (.aload_n 0, 1) := by decide +kernel
theorem dl_555 : decode code 555 = .ok (.iload_n 3, 1) := by decide +kernel
theorem dl_556 : decode code 556 = .ok (.iconst 3, 1) := by decide +kernel
theorem dl_557 : decode code 557 = .ok (.iadd, 1) := by decide +kernel
theorem dl_558 : decode code 558 = .ok (.iaload, 1) := by decide +kernel
theorem dl_559 : decode code 559 = .ok (.ifCond .eq 7, 3) := by decide +kernel
theorem dl_562 : decode code 562 = .ok (.iconst 1, 1) := by decide +kernel
theorem dl_563 : decode code 563 = .ok (.goto 4, 3) := by decide +kernel
theorem dl_566 : decode code 566 = .ok (.iconst 0, 1) := by decide +kernel
theorem dl_567 : decode code 567 = .ok (.invokevirtual 63, 3) := by decide +kernel
theorem dl_570 : decode code 570 = .ok (.pop, 1) := by decide +kernel
theorem dl_571 : decode code 571 = .ok (.aload_n 2, 1) := by decide +kernel
theorem dl_572 : decode code 572 = .ok (.aload_n 0, 1) := by decide +kernel
theorem dl_573 : decode code 573 = .ok (.iload_n 3, 1) := by decide +kernel
theorem dl_574 : decode code 574 = .ok (.iconst 1, 1) := by decide +kernel
theorem dl_575 : decode code 575 = .ok (.iadd, 1) := by decide +kernel
theorem dl_576 : decode code 576 = .ok (.iaload, 1) := by decide +kernel
theorem dl_577 : decode code 577 = .ok (.aload_n 0, 1) := by decide +kernel
theorem dl_578 : decode code 578 = .ok (.iload_n 3, 1) := by decide +kernel
theorem dl_579 : decode code 579 = .ok (.iconst 2, 1) := by decide +kernel
theorem dl_580 : decode code 580 = .ok (.iadd, 1) := by decide +kernel
theorem dl_581 : decode code 581 = .ok (.iaload, 1) := by decide +kernel
theorem dl_582 : decode code 582 = .ok (.aload_n 0, 1) := by decide +kernel
theorem dl_583 : decode code 583 = .ok (.iload_n 3, 1) := by decide +kernel
theorem dl_584 : decode code 584 = .ok (.iconst 3, 1) := by decide +kernel
theorem dl_585 : decode code 585 = .ok (.iadd, 1) := by decide +kernel
theorem dl_586 : decode code 586 = .ok (.iaload, 1) := by decide +kernel
theorem dl_587 : decode code 587 = .ok (.ifCond .eq 7, 3) := by decide +kernel
theorem dl_590 : decode code 590 = .ok (.iconst 1, 1) := by decide +kernel
theorem dl_591 : decode code 591 = .ok (.goto 4, 3) := by decide +kernel
theorem dl_594 : decode code 594 = .ok (.iconst 0, 1) := by decide +kernel
theorem dl_595 : decode code 595 = .ok (.invokevirtual 67, 3) := by decide +kernel
theorem dl_598 : decode code 598 = .ok (.pop, 1) := by decide +kernel
theorem dl_599 : decode code 599 = .ok (.goto 713, 3) := by decide +kernel
theorem dl_602 : decode code 602 = .ok (.aload_n 1, 1) := by decide +kernel
theorem dl_603 : decode code 603 = .ok (.aload_n 0, 1) := by decide +kernel
theorem dl_604 : decode code 604 = .ok (.iload_n 3, 1) := by decide +kernel
theorem dl_605 : decode code 605 = .ok (.iconst 1, 1) := by decide +kernel
theorem dl_606 : decode code 606 = .ok (.iadd, 1) := by decide +kernel
theorem dl_607 : decode code 607 = .ok (.iaload, 1) := by decide +kernel
theorem dl_608 : decode code 608 = .ok (.invokevirtual 68, 3) := by decide +kernel
theorem dl_611 : decode code 611 = .ok (.pop, 1) := by decide +kernel
theorem dl_612 : decode code 612 = .ok (.aload_n 2, 1) := by decide +kernel
theorem dl_613 : decode code 613 = .ok (.aload_n 0, 1) := by decide +kernel
theorem dl_614 : decode code 614 = .ok (.iload_n 3, 1) := by decide +kernel
theorem dl_615 : decode code 615 = .ok (.iconst 1, 1) := by decide +kernel
theorem dl_616 : decode code 616 = .ok (.iadd, 1) := by decide +kernel
theorem dl_617 : decode code 617 = .ok (.iaload, 1) := by decide +kernel
theorem dl_618 : decode code 618 = .ok (.invokevirtual 71, 3) := by decide +kernel
theorem dl_621 : decode code 621 = .ok (.pop, 1) := by decide +kernel
theorem dl_622 : decode code 622 = .ok (.goto 690, 3) := by decide +kernel
theorem dl_625 : decode code 625 = .ok (.aload_n 1, 1) := by decide +kernel
theorem dl_626 : decode code 626 = .ok (.aload_n 0, 1) := by decide +kernel
theorem dl_627 : decode code 627 = .ok (.iload_n 3, 1) := by decide +kernel
theorem dl_628 : decode code 628 = .ok (.iconst 1, 1) := by decide +kernel
theorem dl_629 : decode code 629 = .ok (.iadd, 1) := by decide +kernel
theorem dl_630 : decode code 630 = .ok (.iaload, 1) := by decide +kernel
theorem dl_631 : decode code 631 = .ok (.aload_n 0, 1) := by decide +kernel
theorem dl_632 : decode code 632 = .ok (.iload_n 3, 1) := by decide +kernel
theorem dl_633 : decode code 633 = .ok (.iconst 2, 1) := by decide +kernel
theorem dl_634 : decode code 634 = .ok (.iadd, 1) := by decide +kernel
theorem dl_635 : decode code 635 = .ok (.iaload, 1) := by decide +kernel
theorem dl_636 : decode code 636 = .ok (.invokevirtual 72, 3) := by decide +kernel
theorem dl_639 : decode code 639 = .ok (.pop, 1) := by decide +kernel
theorem dl_640 : decode code 640 = .ok (.aload_n 2, 1) := by decide +kernel
theorem dl_641 : decode code 641 = .ok (.aload_n 0, 1) := by decide +kernel
theorem dl_642 : decode code 642 = .ok (.iload_n 3, 1) := by decide +kernel
theorem dl_643 : decode code 643 = .ok (.iconst 1, 1) := by decide +kernel
theorem dl_644 : decode code 644 = .ok (.iadd, 1) := by decide +kernel
theorem dl_645 : decode code 645 = .ok (.iaload, 1) := by decide +kernel
theorem dl_646 : decode code 646 = .ok (.aload_n 0, 1) := by decide +kernel
theorem dl_647 : decode code 647 = .ok (.iload_n 3, 1) := by decide +kernel
theorem dl_648 : decode code 648 = .ok (.iconst 2, 1) := by decide +kernel
theorem dl_649 : decode code 649 = .ok (.iadd, 1) := by decide +kernel
theorem dl_650 : decode code 650 = .ok (.iaload, 1) := by decide +kernel
theorem dl_651 : decode code 651 = .ok (.invokevirtual 75, 3) := by decide +kernel
theorem dl_654 : decode code 654 = .ok (.pop, 1) := by decide +kernel
theorem dl_655 : decode code 655 = .ok (.goto 657, 3) := by decide +kernel
theorem dl_658 : decode code 658 = .ok (.aload_n 1, 1) := by decide +kernel
theorem dl_659 : decode code 659 = .ok (.aload_n 0, 1) := by decide +kernel
theorem dl_660 : decode code 660 = .ok (.iload_n 3, 1) := by decide +kernel
theorem dl_661 : decode code 661 = .ok (.iconst 1, 1) := by decide +kernel
theorem dl_662 : decode code 662 = .ok (.iadd, 1) := by decide +kernel
theorem dl_663 : decode code 663 = .ok (.iaload, 1) := by decide +kernel
theorem dl_664 : decode code 664 = .ok (.aload_n 0, 1) := by decide +kernel
theorem dl_665 : decode code 665 = .ok (.iload_n 3, 1) := by decide +kernel
theorem dl_666 : decode code 666 = .ok (.iconst 2, 1) := by decide +kernel
theorem dl_667 : decode code 667 = .ok (.iadd, 1) := by decide +kernel
theorem dl_668 : decode code 668 = .ok (.iaload, 1) := by decide +kernel
theorem dl_669 : decode code 669 = .ok (.ifCond .eq 7, 3) := by decide +kernel
theorem dl_672 : decode code 672 = .ok (.iconst 1, 1) := by decide +kernel
theorem dl_673 : decode code 673 = .ok (.goto 4, 3) := by decide +kernel
theorem dl_676 : decode code 676 = .ok (.iconst 0, 1) := by decide +kernel
theorem dl_677 : decode code 677 = .ok (.invokevirtual 76, 3) := by decide +kernel
theorem dl_680 : decode code 680 = .ok (.pop, 1) := by decide +kernel
theorem dl_681 : decode code 681 = .ok (.aload_n 2, 1) := by decide +kernel
theorem dl_682 : decode code 682 = .ok (.aload_n 0, 1) := by decide +kernel
theorem dl_683 : decode code 683 = .ok (.iload_n 3, 1) := by decide +kernel
theorem dl_684 : decode code 684 = .ok (.iconst 1, 1) := by decide +kernel
theorem dl_685 : decode code 685 = .ok (.iadd, 1) := by decide +kernel
theorem dl_686 : decode code 686 = .ok (.iaload, 1) := by decide +kernel
theorem dl_687 : decode code 687 = .ok (.aload_n 0, 1) := by decide +kernel
theorem dl_688 : decode code 688 = .ok (.iload_n 3, 1) := by decide +kernel
theorem dl_689 : decode code 689 = .ok (.iconst 2, 1) := by decide +kernel
theorem dl_690 : decode code 690 = .ok (.iadd, 1) := by decide +kernel
theorem dl_691 : decode code 691 = .ok (.iaload, 1) := by decide +kernel
theorem dl_692 : decode code 692 = .ok (.ifCond .eq 7, 3) := by decide +kernel
theorem dl_695 : decode code 695 = .ok (.iconst 1, 1) := by decide +kernel
theorem dl_696 : decode code 696 = .ok (.goto 4, 3) := by decide +kernel
theorem dl_699 : decode code 699 = .ok (.iconst 0, 1) := by decide +kernel
theorem dl_700 : decode code 700 = .ok (.invokevirtual 80, 3) := by decide +kernel
theorem dl_703 : decode code 703 = .ok (.pop, 1) := by decide +kernel
theorem dl_704 : decode code 704 = .ok (.goto 608, 3) := by decide +kernel
theorem dl_707 : decode code 707 = .ok (.aload_n 1, 1) := by decide +kernel
theorem dl_708 : decode code 708 = .ok (.aload_n 0, 1) := by decide +kernel
theorem dl_709 : decode code 709 = .ok (.iload_n 3, 1) := by decide +kernel
theorem dl_710 : decode code 710 = .ok (.iconst 1, 1) := by decide +kernel
theorem dl_711 : decode code 711 = .ok (.iadd, 1) := by decide +kernel
theorem dl_712 : decode code 712 = .ok (.iaload, 1) := by decide +kernel
theorem dl_713 : decode code 713 = .ok (.aload_n 0, 1) := by decide +kernel
theorem dl_714 : decode code 714 = .ok (.iload_n 3, 1) := by decide +kernel
theorem dl_715 : decode code 715 = .ok (.iconst 2, 1) := by decide +kernel
theorem dl_716 : decode code 716 = .ok (.iadd, 1) := by decide +kernel
theorem dl_717 : decode code 717 = .ok (.iaload, 1) := by decide +kernel
theorem dl_718 : decode code 718 = .ok (.ifCond .eq 7, 3) := by decide +kernel
theorem dl_721 : decode code 721 = .ok (.iconst 1, 1) := by decide +kernel
theorem dl_722 : decode code 722 = .ok (.goto 4, 3) := by decide +kernel
theorem dl_725 : decode code 725 = .ok (.iconst 0, 1) := by decide +kernel
theorem dl_726 : decode code 726 = .ok (.invokevirtual 81, 3) := by decide +kernel
theorem dl_729 : decode code 729 = .ok (.pop, 1) := by decide +kernel
theorem dl_730 : decode code 730 = .ok (.aload_n 2, 1) := by decide +kernel
theorem dl_731 : decode code 731 = .ok (.aload_n 0, 1) := by decide +kernel
theorem dl_732 : decode code 732 = .ok (.iload_n 3, 1) := by decide +kernel
theorem dl_733 : decode code 733 = .ok (.iconst 1, 1) := by decide +kernel
theorem dl_734 : decode code 734 = .ok (.iadd, 1) := by decide +kernel
theorem dl_735 : decode code 735 = .ok (.iaload, 1) := by decide +kernel
theorem dl_736 : decode code 736 = .ok (.aload_n 0, 1) := by decide +kernel
theorem dl_737 : decode code 737 = .ok (.iload_n 3, 1) := by decide +kernel
theorem dl_738 : decode code 738 = .ok (.iconst 2, 1) := by decide +kernel
theorem dl_739 : decode code 739 = .ok (.iadd, 1) := by decide +kernel
theorem dl_740 : decode code 740 = .ok (.iaload, 1) := by decide +kernel
theorem dl_741 : decode code 741 = .ok (.ifCond .eq 7, 3) := by decide +kernel
theorem dl_744 : decode code 744 = .ok (.iconst 1, 1) := by decide +kernel
theorem dl_745 : decode code 745 = .ok (.goto 4, 3) := by decide +kernel
theorem dl_748 : decode code 748 = .ok (.iconst 0, 1) := by decide +kernel
theorem dl_749 : decode code 749 = .ok (.invokevirtual 84, 3) := by decide +kernel
theorem dl_752 : decode code 752 = .ok (.pop, 1) := by decide +kernel
theorem dl_753 : decode code 753 = .ok (.goto 559, 3) := by decide +kernel
theorem dl_756 : decode code 756 = .ok (.aload_n 1, 1) := by decide +kernel
theorem dl_757 : decode code 757 = .ok (.aload_n 0, 1) := by decide +kernel
theorem dl_758 : decode code 758 = .ok (.iload_n 3, 1) := by decide +kernel
theorem dl_759 : decode code 759 = .ok (.iconst 1, 1) := by decide +kernel
theorem dl_760 : decode code 760 = .ok (.iadd, 1) := by decide +kernel
theorem dl_761 : decode code 761 = .ok (.iaload, 1) := by decide +kernel
theorem dl_762 : decode code 762 = .ok (.aload_n 0, 1) := by decide +kernel
theorem dl_763 : decode code 763 = .ok (.iload_n 3, 1) := by decide +kernel
theorem dl_764 : decode code 764 = .ok (.iconst 2, 1) := by decide +kernel
theorem dl_765 : decode code 765 = .ok (.iadd, 1) := by decide +kernel
theorem dl_766 : decode code 766 = .ok (.iaload, 1) := by decide +kernel
theorem dl_767 : decode code 767 = .ok (.invokevirtual 85, 3) := by decide +kernel
theorem dl_770 : decode code 770 = .ok (.pop, 1) := by decide +kernel
theorem dl_771 : decode code 771 = .ok (.aload_n 2, 1) := by decide +kernel
theorem dl_772 : decode code 772 = .ok (.aload_n 0, 1) := by decide +kernel
theorem dl_773 : decode code 773 = .ok (.iload_n 3, 1) := by decide +kernel
theorem dl_774 : decode code 774 = .ok (.iconst 1, 1) := by decide +kernel
theorem dl_775 : decode code 775 = .ok (.iadd, 1) := by decide +kernel
theorem dl_776 : decode code 776 = .ok (.iaload, 1) := by decide +kernel
theorem dl_777 : decode code 777 = .ok (.aload_n 0, 1) := by decide +kernel
theorem dl_778 : decode code 778 = .ok (.iload_n 3, 1) := by decide +kernel
theorem dl_779 : decode code 779 = .ok (.iconst 2, 1) := by decide +kernel
theorem dl_780 : decode code 780 = .ok (.iadd, 1) := by decide +kernel
theorem dl_781 : decode code 781 = .ok (.iaload, 1) := by decide +kernel
theorem dl_782 : decode code 782 = .ok (.invokevirtual 88, 3) := by decide +kernel
theorem dl_785 : decode code 785 = .ok (.pop, 1) := by decide +kernel
theorem dl_786 : decode code 786 = .ok (.goto 526, 3) := by decide +kernel
theorem dl_789 : decode code 789 = .ok (.aload_n 1, 1) := by decide +kernel
theorem dl_790 : decode code 790 = .ok (.aload_n 0, 1) := by decide +kernel
theorem dl_791 : decode code 791 = .ok (.iload_n 3, 1) := by decide +kernel
theorem dl_792 : decode code 792 = .ok (.iconst 1, 1) := by decide +kernel
theorem dl_793 : decode code 793 = .ok (.iadd, 1) := by decide +kernel
theorem dl_794 : decode code 794 = .ok (.iaload, 1) := by decide +kernel
theorem dl_795 : decode code 795 = .ok (.aload_n 0, 1) := by decide +kernel
theorem dl_796 : decode code 796 = .ok (.iload_n 3, 1) := by decide +kernel
theorem dl_797 : decode code 797 = .ok (.iconst 2, 1) := by decide +kernel
theorem dl_798 : decode code 798 = .ok (.iadd, 1) := by decide +kernel
theorem dl_799 : decode code 799 = .ok (.iaload, 1) := by decide +kernel
theorem dl_800 : decode code 800 = .ok (.invokevirtual 89, 3) := by decide +kernel
theorem dl_803 : decode code 803 = .ok (.pop, 1) := by decide +kernel
theorem dl_804 : decode code 804 = .ok (.aload_n 2, 1) := by decide +kernel
theorem dl_805 : decode code 805 = .ok (.aload_n 0, 1) := by decide +kernel
theorem dl_806 : decode code 806 = .ok (.iload_n 3, 1) := by decide +kernel
theorem dl_807 : decode code 807 = .ok (.iconst 1, 1) := by decide +kernel
theorem dl_808 : decode code 808 = .ok (.iadd, 1) := by decide +kernel
theorem dl_809 : decode code 809 = .ok (.iaload, 1) := by decide +kernel
theorem dl_810 : decode code 810 = .ok (.aload_n 0, 1) := by decide +kernel
theorem dl_811 : decode code 811 = .ok (.iload_n 3, 1) := by decide +kernel
theorem dl_812 : decode code 812 = .ok (.iconst 2, 1) := by decide +kernel
theorem dl_813 : decode code 813 = .ok (.iadd, 1) := by decide +kernel
theorem dl_814 : decode code 814 = .ok (.iaload, 1) := by decide +kernel
theorem dl_815 : decode code 815 = .ok (.invokevirtual 93, 3) := by decide +kernel
theorem dl_818 : decode code 818 = .ok (.pop, 1) := by decide +kernel
theorem dl_819 : decode code 819 = .ok (.goto 493, 3) := by decide +kernel
theorem dl_822 : decode code 822 = .ok (.aload_n 1, 1) := by decide +kernel
theorem dl_823 : decode code 823 = .ok (.invokevirtual 94, 3) := by decide +kernel
theorem dl_826 : decode code 826 = .ok (.pop, 1) := by decide +kernel
theorem dl_827 : decode code 827 = .ok (.aload_n 2, 1) := by decide +kernel
theorem dl_828 : decode code 828 = .ok (.invokevirtual 98, 3) := by decide +kernel
theorem dl_831 : decode code 831 = .ok (.pop, 1) := by decide +kernel
theorem dl_832 : decode code 832 = .ok (.goto 480, 3) := by decide +kernel
theorem dl_835 : decode code 835 = .ok (.aload_n 1, 1) := by decide +kernel
theorem dl_836 : decode code 836 = .ok (.aload_n 0, 1) := by decide +kernel
theorem dl_837 : decode code 837 = .ok (.iload_n 3, 1) := by decide +kernel
theorem dl_838 : decode code 838 = .ok (.iconst 1, 1) := by decide +kernel
theorem dl_839 : decode code 839 = .ok (.iadd, 1) := by decide +kernel
theorem dl_840 : decode code 840 = .ok (.iaload, 1) := by decide +kernel
theorem dl_841 : decode code 841 = .ok (.invokevirtual 99, 3) := by decide +kernel
theorem dl_844 : decode code 844 = .ok (.pop, 1) := by decide +kernel
theorem dl_845 : decode code 845 = .ok (.aload_n 2, 1) := by decide +kernel
theorem dl_846 : decode code 846 = .ok (.aload_n 0, 1) := by decide +kernel
theorem dl_847 : decode code 847 = .ok (.iload_n 3, 1) := by decide +kernel
theorem dl_848 : decode code 848 = .ok (.iconst 1, 1) := by decide +kernel
theorem dl_849 : decode code 849 = .ok (.iadd, 1) := by decide +kernel
theorem dl_850 : decode code 850 = .ok (.iaload, 1) := by decide +kernel
theorem dl_851 : decode code 851 = .ok (.invokevirtual 102, 3) := by decide +kernel
theorem dl_854 : decode code 854 = .ok (.pop, 1) := by decide +kernel
theorem dl_855 : decode code 855 = .ok (.goto 457, 3) := by decide +kernel
theorem dl_858 : decode code 858 = .ok (.aload_n 1, 1) := by decide +kernel
theorem dl_859 : decode code 859 = .ok (.aload_n 0, 1) := by decide +kernel
theorem dl_860 : decode code 860 = .ok (.iload_n 3, 1) := by decide +kernel
theorem dl_861 : decode code 861 = .ok (.iconst 1, 1) := by decide +kernel
theorem dl_862 : decode code 862 = .ok (.iadd, 1) := by decide +kernel
theorem dl_863 : decode code 863 = .ok (.iaload, 1) := by decide +kernel
theorem dl_864 : decode code 864 = .ok (.aload_n 0, 1) := by decide +kernel
theorem dl_865 : decode code 865 = .ok (.iload_n 3, 1) := by decide +kernel
theorem dl_866 : decode code 866 = .ok (.iconst 2, 1) := by decide +kernel
theorem dl_867 : decode code 867 = .ok (.iadd, 1) := by decide +kernel
theorem dl_868 : decode code 868 = .ok (.iaload, 1) := by decide +kernel
theorem dl_869 : decode code 869 = .ok (.aload_n 0, 1) := by decide +kernel
theorem dl_870 : decode code 870 = .ok (.iload_n 3, 1) := by decide +kernel
theorem dl_871 : decode code 871 = .ok (.iconst 3, 1) := by decide +kernel
theorem dl_872 : decode code 872 = .ok (.iadd, 1) := by decide +kernel
theorem dl_873 : decode code 873 = .ok (.iaload, 1) := by decide +kernel
theorem dl_874 : decode code 874 = .ok (.invokevirtual 103, 3) := by decide +kernel
theorem dl_877 : decode code 877 = .ok (.pop, 1) := by decide +kernel
theorem dl_878 : decode code 878 = .ok (.aload_n 2, 1) := by decide +kernel
theorem dl_879 : decode code 879 = .ok (.aload_n 0, 1) := by decide +kernel
theorem dl_880 : decode code 880 = .ok (.iload_n 3, 1) := by decide +kernel
theorem dl_881 : decode code 881 = .ok (.iconst 1, 1) := by decide +kernel
theorem dl_882 : decode code 882 = .ok (.iadd, 1) := by decide +kernel
theorem dl_883 : decode code 883 = .ok (.iaload, 1) := by decide +kernel
theorem dl_884 : decode code 884 = .ok (.aload_n 0, 1) := by decide +kernel
theorem dl_885 : decode code 885 = .ok (.iload_n 3, 1) := by decide +kernel
theorem dl_886 : decode code 886 = .ok (.iconst 2, 1) := by decide +kernel
theorem dl_887 : decode code 887 = .ok (.iadd, 1) := by decide +kernel
theorem dl_888 : decode code 888 = .ok (.iaload, 1) := by decide +kernel
theorem dl_889 : decode code 889 = .ok (.aload_n 0, 1) := by decide +kernel
theorem dl_890 : decode code 890 = .ok (.iload_n 3, 1) := by decide +kernel
theorem dl_891 : decode code 891 = .ok (.iconst 3, 1) := by decide +kernel
theorem dl_892 : decode code 892 = .ok (.iadd, 1) := by decide +kernel
theorem dl_893 : decode code 893 = .ok (.iaload, 1) := by decide +kernel
theorem dl_894 : decode code 894 = .ok (.invokevirtual 106, 3) := by decide +kernel
theorem dl_897 : decode code 897 = .ok (.pop, 1) := by decide +kernel
theorem dl_898 : decode code 898 = .ok (.goto 414, 3) := by decide +kernel
theorem dl_901 : decode code 901 = .ok (.aload_n 1, 1) := by decide +kernel
theorem dl_902 : decode code 902 = .ok (.aload_n 0, 1) := by decide +kernel
theorem dl_903 : decode code 903 = .ok (.iload_n 3, 1) := by decide +kernel
theorem dl_904 : decode code 904 = .ok (.iconst 1, 1) := by decide +kernel
theorem dl_905 : decode code 905 = .ok (.iadd, 1) := by decide +kernel
theorem dl_906 : decode code 906 = .ok (.iaload, 1) := by decide +kernel
theorem dl_907 : decode code 907 = .ok (.aload_n 0, 1) := by decide +kernel
theorem dl_908 : decode code 908 = .ok (.iload_n 3, 1) := by decide +kernel
theorem dl_909 : decode code 909 = .ok (.iconst 2, 1) := by decide +kernel
theorem dl_910 : decode code 910 = .ok (.iadd, 1) := by decide +kernel
theorem dl_911 : decode code 911 = .ok (.iaload, 1) := by decide +kernel
theorem dl_912 : decode code 912 = .ok (.invokevirtual 107, 3) := by decide +kernel
theorem dl_915 : decode code 915 = .ok (.pop, 1) := by decide +kernel
theorem dl_916 : decode code 916 = .ok (.aload_n 2, 1) := by decide +kernel
theorem dl_917 : decode code 917 = .ok (.aload_n 0, 1) := by decide +kernel
theorem dl_918 : decode code 918 = .ok (.iload_n 3, 1) := by decide +kernel
theorem dl_919 : decode code 919 = .ok (.iconst 1, 1) := by decide +kernel
theorem dl_920 : decode code 920 = .ok (.iadd, 1) := by decide +kernel
theorem dl_921 : decode code 921 = .ok (.iaload, 1) := by decide +kernel
theorem dl_922 : decode code 922 = .ok (.aload_n 0, 1) := by decide +kernel
theorem dl_923 : decode code 923 = .ok (.iload_n 3, 1) := by decide +kernel
theorem dl_924 : decode code 924 = .ok (.iconst 2, 1) := by decide +kernel
theorem dl_925 : decode code 925 = .ok (.iadd, 1) := by decide +kernel
theorem dl_926 : decode code 926 = .ok (.iaload, 1) := by decide +kernel
theorem dl_927 : decode code 927 = .ok (.invokevirtual 110, 3) := by decide +kernel
theorem dl_930 : decode code 930 = .ok (.pop, 1) := by decide +kernel
theorem dl_931 : decode code 931 = .ok (.goto 381, 3) := by decide +kernel
theorem dl_934 : decode code 934 = .ok (.aload_n 1, 1) := by decide +kernel
theorem dl_935 : decode code 935 = .ok (.aload_n 0, 1) := by decide +kernel
theorem dl_936 : decode code 936 = .ok (.iload_n 3, 1) := by decide +kernel
theorem dl_937 : decode code 937 = .ok (.iconst 1, 1) := by decide +kernel
theorem dl_938 : decode code 938 = .ok (.iadd, 1) := by decide +kernel
theorem dl_939 : decode code 939 = .ok (.iaload, 1) := by decide +kernel
theorem dl_940 : decode code 940 = .ok (.aload_n 0, 1) := by decide +kernel
theorem dl_941 : decode code 941 = .ok (.iload_n 3, 1) := by decide +kernel
theorem dl_942 : decode code 942 = .ok (.iconst 2, 1) := by decide +kernel
theorem dl_943 : decode code 943 = .ok (.iadd, 1) := by decide +kernel
theorem dl_944 : decode code 944 = .ok (.iaload, 1) := by decide +kernel
theorem dl_945 : decode code 945 = .ok (.invokevirtual 111, 3) := by decide +kernel
theorem dl_948 : decode code 948 = .ok (.pop, 1) := by decide +kernel
theorem dl_949 : decode code 949 = .ok (.aload_n 2, 1) := by decide +kernel
theorem dl_950 : decode code 950 = .ok (.aload_n 0, 1) := by decide +kernel
theorem dl_951 : decode code 951 = .ok (.iload_n 3, 1) := by decide +kernel
theorem dl_952 : decode code 952 = .ok (.iconst 1, 1) := by decide +kernel
theorem dl_953 : decode code 953 = .ok (.iadd, 1) := by decide +kernel
theorem dl_954 : decode code 954 = .ok (.iaload, 1) := by decide +kernel
theorem dl_955 : decode code 955 = .ok (.aload_n 0, 1) := by decide +kernel
theorem dl_956 : decode code 956 = .ok (.iload_n 3, 1) := by decide +kernel
theorem dl_957 : decode code 957 = .ok (.iconst 2, 1) := by decide +kernel
theorem dl_958 : decode code 958 = .ok (.iadd, 1) := by decide +kernel
theorem dl_959 : decode code 959 = .ok (.iaload, 1) := by decide +kernel
theorem dl_960 : decode code 960 = .ok (.invokevirtual 114, 3) := by decide +kernel
theorem dl_963 : decode code 963 = .ok (.pop, 1) := by decide +kernel
theorem dl_964 : decode code 964 = .ok (.goto 348, 3) := by decide +kernel
theorem dl_967 : decode code 967 = .ok (.aload_n 1, 1) := by decide +kernel
theorem dl_968 : decode code 968 = .ok (.invokevirtual 115, 3) := by decide +kernel
theorem dl_971 : decode code 971 = .ok (.pop, 1) := by decide +kernel
theorem dl_972 : decode code 972 = .ok (.aload_n 2, 1) := by decide +kernel
theorem dl_973 : decode code 973 = .ok (.invokevirtual 118, 3) := by decide +kernel
theorem dl_976 : decode code 976 = .ok (.pop, 1) := by decide +kernel
theorem dl_977 : decode code 977 = .ok (.goto 335, 3) := by decide +kernel
theorem dl_980 : decode code 980 = .ok (.aload_n 1, 1) := by decide +kernel
theorem dl_981 : decode code 981 = .ok (.aload_n 0, 1) := by decide +kernel
theorem dl_982 : decode code 982 = .ok (.iload_n 3, 1) := by decide +kernel
theorem dl_983 : decode code 983 = .ok (.iconst 1, 1) := by decide +kernel
theorem dl_984 : decode code 984 = .ok (.iadd, 1) := by decide +kernel
theorem dl_985 : decode code 985 = .ok (.iaload, 1) := by decide +kernel
theorem dl_986 : decode code 986 = .ok (.invokevirtual 119, 3) := by decide +kernel
theorem dl_989 : decode code 989 = .ok (.pop, 1) := by decide +kernel
theorem dl_990 : decode code 990 = .ok (.aload_n 2, 1) := by decide +kernel
theorem dl_991 : decode code 991 = .ok (.aload_n 0, 1) := by decide +kernel
theorem dl_992 : decode code 992 = .ok (.iload_n 3, 1) := by decide +kernel
theorem dl_993 : decode code 993 = .ok (.iconst 1, 1) := by decide +kernel
theorem dl_994 : decode code 994 = .ok (.iadd, 1) := by decide +kernel
theorem dl_995 : decode code 995 = .ok (.iaload, 1) := by decide +kernel
theorem dl_996 : decode code 996 = .ok (.invokevirtual 122, 3) := by decide +kernel
theorem dl_999 : decode code 999 = .ok (.pop, 1) := by decide +kernel
theorem dl_1000 : decode code 1000 = .ok (.goto 312, 3) := by decide +kernel
theorem dl_1003 : decode code 1003 = .ok (.aload_n 1, 1) := by decide +kernel
theorem dl_1004 : decode code 1004 = .ok (.aload_n 0, 1) := by decide +kernel
theorem dl_1005 : decode code 1005 = .ok (.iload_n 3, 1) := by decide +kernel
theorem dl_1006 : decode code 1006 = .ok (.iconst 1, 1) := by decide +kernel
theorem dl_1007 : decode code 1007 = .ok (.iadd, 1) := by decide +kernel
theorem dl_1008 : decode code 1008 = .ok (.iaload, 1) := by decide +kernel
theorem dl_1009 : decode code 1009 = .ok (.invokevirtual 123, 3) := by decide +kernel
theorem dl_1012 : decode code 1012 = .ok (.pop, 1) := by decide +kernel
theorem dl_1013 : decode code 1013 = .ok (.aload_n 2, 1) := by decide +kernel
theorem dl_1014 : decode code 1014 = .ok (.aload_n 0, 1) := by decide +kernel
theorem dl_1015 : decode code 1015 = .ok (.iload_n 3, 1) := by decide +kernel
theorem dl_1016 : decode code 1016 = .ok (.iconst 1, 1) := by decide +kernel
theorem dl_1017 : decode code 1017 = .ok (.iadd, 1) := by decide +kernel
theorem dl_1018 : decode code 1018 = .ok (.iaload, 1) := by decide +kernel
theorem dl_1019 : decode code 1019 = .ok (.invokevirtual 126, 3) := by decide +kernel
theorem dl_1022 : decode code 1022 = .ok (.pop, 1) := by decide +kernel
theorem dl_1023 : decode code 1023 = .ok (.goto 289, 3) := by decide +kernel
theorem dl_1026 : decode code 1026 = .ok (.aload_n 1, 1) := by decide +kernel
theorem dl_1027 : decode code 1027 = .ok (.invokevirtual 127, 3) := by decide +kernel
theorem dl_1030 : decode code 1030 = .ok (.pop, 1) := by decide +kernel
theorem dl_1031 : decode code 1031 = .ok (.aload_n 2, 1) := by decide +kernel
theorem dl_1032 : decode code 1032 = .ok (.invokevirtual 130, 3) := by decide +kernel
theorem dl_1035 : decode code 1035 = .ok (.pop, 1) := by decide +kernel
theorem dl_1036 : decode code 1036 = .ok (.goto 276, 3) := by decide +kernel
theorem dl_1039 : decode code 1039 = .ok (.aload_n 1, 1) := by decide +kernel
theorem dl_1040 : decode code 1040 = .ok (.aload_n 0, 1) := by decide +kernel
theorem dl_1041 : decode code 1041 = .ok (.iload_n 3, 1) := by decide +kernel
theorem dl_1042 : decode code 1042 = .ok (.iconst 1, 1) := by decide +kernel
theorem dl_1043 : decode code 1043 = .ok (.iadd, 1) := by decide +kernel
theorem dl_1044 : decode code 1044 = .ok (.iaload, 1) := by decide +kernel
theorem dl_1045 : decode code 1045 = .ok (.invokevirtual 131, 3) := by decide +kernel
theorem dl_1048 : decode code 1048 = .ok (.pop, 1) := by decide +kernel
theorem dl_1049 : decode code 1049 = .ok (.aload_n 2, 1) := by decide +kernel
theorem dl_1050 : decode code 1050 = .ok (.aload_n 0, 1) := by decide +kernel
theorem dl_1051 : decode code 1051 = .ok (.iload_n 3, 1) := by decide +kernel
theorem dl_1052 : decode code 1052 = .ok (.iconst 1, 1) := by decide +kernel
theorem dl_1053 : decode code 1053 = .ok (.iadd, 1) := by decide +kernel
theorem dl_1054 : decode code 1054 = .ok (.iaload, 1) := by decide +kernel
theorem dl_1055 : decode code 1055 = .ok (.invokevirtual 134, 3) := by decide +kernel
theorem dl_1058 : decode code 1058 = .ok (.pop, 1) := by decide +kernel
theorem dl_1059 : decode code 1059 = .ok (.goto 253, 3) := by decide +kernel
theorem dl_1062 : decode code 1062 = .ok (.aload_n 1, 1) := by decide +kernel
theorem dl_1063 : decode code 1063 = .ok (.invokevirtual 135, 3) := by decide +kernel
theorem dl_1066 : decode code 1066 = .ok (.aload_n 2, 1) := by decide +kernel
theorem dl_1067 : decode code 1067 = .ok (.invokevirtual 138, 3) := by decide +kernel
theorem dl_1070 : decode code 1070 = .ok (.if_icmp .eq 242, 3) := by decide +kernel
theorem dl_1073 : decode code 1073 = .ok (.iconst 0, 1) := by decide +kernel
theorem dl_1074 : decode code 1074 = .ok (.ireturn, 1) := by decide +kernel
theorem dl_1075 : decode code 1075 = .ok (.aload_n 1, 1) := by decide +kernel
theorem dl_1076 : decode code 1076 = .ok (.aload_n 0, 1) := by decide +kernel
theorem dl_1077 : decode code 1077 = .ok (.iload_n 3, 1) := by decide +kernel
theorem dl_1078 : decode code 1078 = .ok (.iconst 1, 1) := by decide +kernel
theorem dl_1079 : decode code 1079 = .ok (.iadd, 1) := by decide +kernel
theorem dl_1080 : decode code 1080 = .ok (.iaload, 1) := by decide +kernel
theorem dl_1081 : decode code 1081 = .ok (.aload_n 0, 1) := by decide +kernel
theorem dl_1082 : decode code 1082 = .ok (.iload_n 3, 1) := by decide +kernel
theorem dl_1083 : decode code 1083 = .ok (.iconst 2, 1) := by decide +kernel
theorem dl_1084 : decode code 1084 = .ok (.iadd, 1) := by decide +kernel
theorem dl_1085 : decode code 1085 = .ok (.iaload, 1) := by decide +kernel
theorem dl_1086 : decode code 1086 = .ok (.invokevirtual 139, 3) := by decide +kernel
theorem dl_1089 : decode code 1089 = .ok (.pop, 1) := by decide +kernel
theorem dl_1090 : decode code 1090 = .ok (.aload_n 2, 1) := by decide +kernel
theorem dl_1091 : decode code 1091 = .ok (.aload_n 0, 1) := by decide +kernel
theorem dl_1092 : decode code 1092 = .ok (.iload_n 3, 1) := by decide +kernel
theorem dl_1093 : decode code 1093 = .ok (.iconst 1, 1) := by decide +kernel
theorem dl_1094 : decode code 1094 = .ok (.iadd, 1) := by decide +kernel
theorem dl_1095 : decode code 1095 = .ok (.iaload, 1) := by decide +kernel
theorem dl_1096 : decode code 1096 = .ok (.aload_n 0, 1) := by decide +kernel
theorem dl_1097 : decode code 1097 = .ok (.iload_n 3, 1) := by decide +kernel
theorem dl_1098 : decode code 1098 = .ok (.iconst 2, 1) := by decide +kernel
theorem dl_1099 : decode code 1099 = .ok (.iadd, 1) := by decide +kernel
theorem dl_1100 : decode code 1100 = .ok (.iaload, 1) := by decide +kernel
theorem dl_1101 : decode code 1101 = .ok (.invokevirtual 142, 3) := by decide +kernel
theorem dl_1104 : decode code 1104 = .ok (.pop, 1) := by decide +kernel
theorem dl_1105 : decode code 1105 = .ok (.goto 207, 3) := by decide +kernel
theorem dl_1108 : decode code 1108 = .ok (.aload_n 1, 1) := by decide +kernel
theorem dl_1109 : decode code 1109 = .ok (.aload_n 0, 1) := by decide +kernel
theorem dl_1110 : decode code 1110 = .ok (.iload_n 3, 1) := by decide +kernel
theorem dl_1111 : decode code 1111 = .ok (.iconst 1, 1) := by decide +kernel
theorem dl_1112 : decode code 1112 = .ok (.iadd, 1) := by decide +kernel
theorem dl_1113 : decode code 1113 = .ok (.iaload, 1) := by decide +kernel
theorem dl_1114 : decode code 1114 = .ok (.aload_n 0, 1) := by decide +kernel
theorem dl_1115 : decode code 1115 = .ok (.iload_n 3, 1) := by decide +kernel
theorem dl_1116 : decode code 1116 = .ok (.iconst 2, 1) := by decide +kernel
theorem dl_1117 : decode code 1117 = .ok (.iadd, 1) := by decide +kernel
theorem dl_1118 : decode code 1118 = .ok (.iaload, 1) := by decide +kernel
theorem dl_1119 : decode code 1119 = .ok (.invokevirtual 143, 3) := by decide +kernel
theorem dl_1122 : decode code 1122 = .ok (.pop, 1) := by decide +kernel
theorem dl_1123 : decode code 1123 = .ok (.aload_n 2, 1) := by decide +kernel
theorem dl_1124 : decode code 1124 = .ok (.aload_n 0, 1) := by decide +kernel
theorem dl_1125 : decode code 1125 = .ok (.iload_n 3, 1) := by decide +kernel
theorem dl_1126 : decode code 1126 = .ok (.iconst 1, 1) := by decide +kernel
theorem dl_1127 : decode code 1127 = .ok (.iadd, 1) := by decide +kernel
theorem dl_1128 : decode code 1128 = .ok (.iaload, 1) := by decide +kernel
theorem dl_1129 : decode code 1129 = .ok (.aload_n 0, 1) := by decide +kernel
theorem dl_1130 : decode code 1130 = .ok (.iload_n 3, 1) := by decide +kernel
theorem dl_1131 : decode code 1131 = .ok (.iconst 2, 1) := by decide +kernel
theorem dl_1132 : decode code 1132 = .ok (.iadd, 1) := by decide +kernel
theorem dl_1133 : decode code 1133 = .ok (.iaload, 1) := by decide +kernel
theorem dl_1134 : decode code 1134 = .ok (.invokevirtual 146, 3) := by decide +kernel
theorem dl_1137 : decode code 1137 = .ok (.pop, 1) := by decide +kernel
theorem dl_1138 : decode code 1138 = .ok (.goto 174, 3) := by decide +kernel
theorem dl_1141 : decode code 1141 = .ok (.aload_n 1, 1) := by decide +kernel
theorem dl_1142 : decode code 1142 = .ok (.aload_n 0, 1) := by decide +kernel
theorem dl_1143 : decode code 1143 = .ok (.iload_n 3, 1) := by decide +kernel
theorem dl_1144 : decode code 1144 = .ok (.iconst 1, 1) := by decide +kernel
theorem dl_1145 : decode code 1145 = .ok (.iadd, 1) := by decide +kernel
theorem dl_1146 : decode code 1146 = .ok (.iaload, 1) := by decide +kernel
theorem dl_1147 : decode code 1147 = .ok (.invokevirtual 147, 3) := by decide +kernel
theorem dl_1150 : decode code 1150 = .ok (.pop, 1) := by decide +kernel
theorem dl_1151 : decode code 1151 = .ok (.aload_n 2, 1) := by decide +kernel
theorem dl_1152 : decode code 1152 = .ok (.aload_n 0, 1) := by decide +kernel
theorem dl_1153 : decode code 1153 = .ok (.iload_n 3, 1) := by decide +kernel
theorem dl_1154 : decode code 1154 = .ok (.iconst 1, 1) := by decide +kernel
theorem dl_1155 : decode code 1155 = .ok (.iadd, 1) := by decide +kernel
theorem dl_1156 : decode code 1156 = .ok (.iaload, 1) := by decide +kernel
theorem dl_1157 : decode code 1157 = .ok (.invokevirtual 150, 3) := by decide +kernel
theorem dl_1160 : decode code 1160 = .ok (.pop, 1) := by decide +kernel
theorem dl_1161 : decode code 1161 = .ok (.goto 151, 3) := by decide +kernel
theorem dl_1164 : decode code 1164 = .ok (.aload_n 1, 1) := by decide +kernel
theorem dl_1165 : decode code 1165 = .ok (.aload_n 0, 1) := by decide +kernel
theorem dl_1166 : decode code 1166 = .ok (.iload_n 3, 1) := by decide +kernel
theorem dl_1167 : decode code 1167 = .ok (.iconst 1, 1) := by decide +kernel
theorem dl_1168 : decode code 1168 = .ok (.iadd, 1) := by decide +kernel
theorem dl_1169 : decode code 1169 = .ok (.iaload, 1) := by decide +kernel
theorem dl_1170 : decode code 1170 = .ok (.aload_n 0, 1) := by decide +kernel
theorem dl_1171 : decode code 1171 = .ok (.iload_n 3, 1) := by decide +kernel
theorem dl_1172 : decode code 1172 = .ok (.iconst 2, 1) := by decide +kernel
theorem dl_1173 : decode code 1173 = .ok (.iadd, 1) := by decide +kernel
theorem dl_1174 : decode code 1174 = .ok (.iaload, 1) := by decide +kernel
theorem dl_1175 : decode code 1175 = .ok (.invokevirtual 151, 3) := by decide +kernel
theorem dl_1178 : decode code 1178 = .ok (.pop, 1) := by decide +kernel
theorem dl_1179 : decode code 1179 = .ok (.aload_n 2, 1) := by decide +kernel
theorem dl_1180 : decode code 1180 = .ok (.aload_n 0, 1) := by decide +kernel
theorem dl_1181 : decode code 1181 = .ok (.iload_n 3, 1) := by decide +kernel
theorem dl_1182 : decode code 1182 = .ok (.iconst 1, 1) := by decide +kernel
theorem dl_1183 : decode code 1183 = .ok (.iadd, 1) := by decide +kernel
theorem dl_1184 : decode code 1184 = .ok (.iaload, 1) := by decide +kernel
theorem dl_1185 : decode code 1185 = .ok (.aload_n 0, 1) := by decide +kernel
theorem dl_1186 : decode code 1186 = .ok (.iload_n 3, 1) := by decide +kernel
theorem dl_1187 : decode code 1187 = .ok (.iconst 2, 1) := by decide +kernel
theorem dl_1188 : decode code 1188 = .ok (.iadd, 1) := by decide +kernel
theorem dl_1189 : decode code 1189 = .ok (.iaload, 1) := by decide +kernel
theorem dl_1190 : decode code 1190 = .ok (.invokevirtual 154, 3) := by decide +kernel
theorem dl_1193 : decode code 1193 = .ok (.pop, 1) := by decide +kernel
theorem dl_1194 : decode code 1194 = .ok (.goto 118, 3) := by decide +kernel
theorem dl_1197 : decode code 1197 = .ok (.aload_n 1, 1) := by decide +kernel
theorem dl_1198 : decode code 1198 = .ok (.aload_n 0, 1) := by decide +kernel
theorem dl_1199 : decode code 1199 = .ok (.iload_n 3, 1) := by decide +kernel
theorem dl_1200 : decode code 1200 = .ok (.iconst 1, 1) := by decide +kernel
theorem dl_1201 : decode code 1201 = .ok (.iadd, 1) := by decide +kernel
theorem dl_1202 : decode code 1202 = .ok (.iaload, 1) := by decide +kernel
theorem dl_1203 : decode code 1203 = .ok (.aload_n 0, 1) := by decide +kernel
theorem dl_1204 : decode code 1204 = .ok (.iload_n 3, 1) := by decide +kernel
theorem dl_1205 : decode code 1205 = .ok (.iconst 2, 1) := by decide +kernel
theorem dl_1206 : decode code 1206 = .ok (.iadd, 1) := by decide +kernel
theorem dl_1207 : decode code 1207 = .ok (.iaload, 1) := by decide +kernel
theorem dl_1208 : decode code 1208 = .ok (.aload_n 0, 1) := by decide +kernel
theorem dl_1209 : decode code 1209 = .ok (.iload_n 3, 1) := by decide +kernel
theorem dl_1210 : decode code 1210 = .ok (.iconst 3, 1) := by decide +kernel
theorem dl_1211 : decode code 1211 = .ok (.iadd, 1) := by decide +kernel
theorem dl_1212 : decode code 1212 = .ok (.iaload, 1) := by decide +kernel
theorem dl_1213 : decode code 1213 = .ok (.invokevirtual 155, 3) := by decide +kernel
theorem dl_1216 : decode code 1216 = .ok (.pop, 1) := by decide +kernel
theorem dl_1217 : decode code 1217 = .ok (.aload_n 2, 1) := by decide +kernel
theorem dl_1218 : decode code 1218 = .ok (.aload_n 0, 1) := by decide +kernel
theorem dl_1219 : decode code 1219 = .ok (.iload_n 3, 1) := by decide +kernel
theorem dl_1220 : decode code 1220 = .ok (.iconst 1, 1) := by decide +kernel
theorem dl_1221 : decode code 1221 = .ok (.iadd, 1) := by decide +kernel
theorem dl_1222 : decode code 1222 = .ok (.iaload, 1) := by decide +kernel
theorem dl_1223 : decode code 1223 = .ok (.aload_n 0, 1) := by decide +kernel
theorem dl_1224 : decode code 1224 = .ok (.iload_n 3, 1) := by decide +kernel
theorem dl_1225 : decode code 1225 = .ok (.iconst 2, 1) := by decide +kernel
theorem dl_1226 : decode code 1226 = .ok (.iadd, 1) := by decide +kernel
theorem dl_1227 : decode code 1227 = .ok (.iaload, 1) := by decide +kernel
theorem dl_1228 : decode code 1228 = .ok (.aload_n 0, 1) := by decide +kernel
theorem dl_1229 : decode code 1229 = .ok (.iload_n 3, 1) := by decide +kernel
theorem dl_1230 : decode code 1230 = .ok (.iconst 3, 1) := by decide +kernel
theorem dl_1231 : decode code 1231 = .ok (.iadd, 1) := by decide +kernel
theorem dl_1232 : decode code 1232 = .ok (.iaload, 1) := by decide +kernel
theorem dl_1233 : decode code 1233 = .ok (.invokevirtual 158, 3) := by decide +kernel
theorem dl_1236 : decode code 1236 = .ok (.pop, 1) := by decide +kernel
theorem dl_1237 : decode code 1237 = .ok (.goto 75, 3) := by decide +kernel
theorem dl_1240 : decode code 1240 = .ok (.aload_n 1, 1) := by decide +kernel
theorem dl_1241 : decode code 1241 = .ok (.invokevirtual 159, 3) := by decide +kernel
theorem dl_1244 : decode code 1244 = .ok (.pop, 1) := by decide +kernel
theorem dl_1245 : decode code 1245 = .ok (.aload_n 2, 1) := by decide +kernel
theorem dl_1246 : decode code 1246 = .ok (.invokevirtual 162, 3) := by decide +kernel
theorem dl_1249 : decode code 1249 = .ok (.pop, 1) := by decide +kernel
theorem dl_1250 : decode code 1250 = .ok (.goto 62, 3) := by decide +kernel
theorem dl_1253 : decode code 1253 = .ok (.aload_n 1, 1) := by decide +kernel
theorem dl_1254 : decode code 1254 = .ok (.aload_n 0, 1) := by decide +kernel
theorem dl_1255 : decode code 1255 = .ok (.iload_n 3, 1) := by decide +kernel
theorem dl_1256 : decode code 1256 = .ok (.iconst 1, 1) := by decide +kernel
theorem dl_1257 : decode code 1257 = .ok (.iadd, 1) := by decide +kernel
theorem dl_1258 : decode code 1258 = .ok (.iaload, 1) := by decide +kernel
theorem dl_1259 : decode code 1259 = .ok (.invokevirtual 163, 3) := by decide +kernel
theorem dl_1262 : decode code 1262 = .ok (.pop, 1) := by decide +kernel
theorem dl_1263 : decode code 1263 = .ok (.aload_n 2, 1) := by decide +kernel
theorem dl_1264 : decode code 1264 = .ok (.aload_n 0, 1) := by decide +kernel
theorem dl_1265 : decode code 1265 = .ok (.iload_n 3, 1) := by decide +kernel
theorem dl_1266 : decode code 1266 = .ok (.iconst 1, 1) := by decide +kernel
theorem dl_1267 : decode code 1267 = .ok (.iadd, 1) := by decide +kernel
theorem dl_1268 : decode code 1268 = .ok (.iaload, 1) := by decide +kernel
theorem dl_1269 : decode code 1269 = .ok (.invokevirtual 166, 3) := by decide +kernel
theorem dl_1272 : decode code 1272 = .ok (.pop, 1) := by decide +kernel
theorem dl_1273 : decode code 1273 = .ok (.goto 39, 3) := by decide +kernel
theorem dl_1276 : decode code 1276 = .ok (.aload_n 1, 1) := by decide +kernel
theorem dl_1277 : decode code 1277 = .ok (.invokevirtual 167, 3) := by decide +kernel
theorem dl_1280 : decode code 1280 = .ok (.pop, 1) := by decide +kernel
theorem dl_1281 : decode code 1281 = .ok (.aload_n 2, 1) := by decide +kernel
theorem dl_1282 : decode code 1282 = .ok (.invokevirtual 170, 3) := by decide +kernel
theorem dl_1285 : decode code 1285 = .ok (.pop, 1) := by decide +kernel
theorem dl_1286 : decode code 1286 = .ok (.goto 26, 3) := by decide +kernel
theorem dl_1289 : decode code 1289 = .ok (.aload_n 1, 1) := by decide +kernel
theorem dl_1290 : decode code 1290 = .ok (.aload_n 0, 1) := by decide +kernel
theorem dl_1291 : decode code 1291 = .ok (.iload_n 3, 1) := by decide +kernel
theorem dl_1292 : decode code 1292 = .ok (.iconst 1, 1) := by decide +kernel
theorem dl_1293 : decode code 1293 = .ok (.iadd, 1) := by decide +kernel
theorem dl_1294 : decode code 1294 = .ok (.iaload, 1) := by decide +kernel
theorem dl_1295 : decode code 1295 = .ok (.invokevirtual 171, 3) := by decide +kernel
theorem dl_1298 : decode code 1298 = .ok (.pop, 1) := by decide +kernel
theorem dl_1299 : decode code 1299 = .ok (.aload_n 2, 1) := by decide +kernel
theorem dl_1300 : decode code 1300 = .ok (.aload_n 0, 1) := by decide +kernel
theorem dl_1301 : decode code 1301 = .ok (.iload_n 3, 1) := by decide +kernel
theorem dl_1302 : decode code 1302 = .ok (.iconst 1, 1) := by decide +kernel
theorem dl_1303 : decode code 1303 = .ok (.iadd, 1) := by decide +kernel
theorem dl_1304 : decode code 1304 = .ok (.iaload, 1) := by decide +kernel
theorem dl_1305 : decode code 1305 = .ok (.invokevirtual 174, 3) := by decide +kernel
theorem dl_1308 : decode code 1308 = .ok (.pop, 1) := by decide +kernel
theorem dl_1309 : decode code 1309 = .ok (.goto 3, 3) := by decide +kernel
theorem dl_1312 : decode code 1312 = .ok (.iinc 3 6, 3) := by decide +kernel
theorem dl_1315 : decode code 1315 = .ok (.goto (-1297), 3) := by decide +kernel
theorem dl_1318 : decode code 1318 = .ok (.iconst 1, 1) := by decide +kernel
theorem dl_1319 : decode code 1319 = .ok (.ireturn, 1) := by decide +kernel

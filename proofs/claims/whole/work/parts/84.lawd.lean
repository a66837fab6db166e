/-! part 84: the law's instructions -/
set_option maxRecDepth 100000 in
theorem dl_0 : dk code 0 = some (.new 7) := by decide +kernel
set_option maxRecDepth 100000 in
theorem dl_3 : dk code 3 = some (.dup) := by decide +kernel
set_option maxRecDepth 100000 in
theorem dl_4 : dk code 4 = some (.invokespecial 9) := by decide +kernel
set_option maxRecDepth 100000 in
theorem dl_7 : dk code 7 = some (.astore_n 1) := by decide +kernel
set_option maxRecDepth 100000 in
theorem dl_8 : dk code 8 = some (.new 10) := by decide +kernel
set_option maxRecDepth 100000 in
theorem dl_11 : dk code 11 = some (.dup) := by decide +kernel
set_option maxRecDepth 100000 in
theorem dl_12 : dk code 12 = some (.invokespecial 12) := by decide +kernel
set_option maxRecDepth 100000 in
theorem dl_15 : dk code 15 = some (.astore_n 2) := by decide +kernel
set_option maxRecDepth 100000 in
theorem dl_16 : dk code 16 = some (.iconst 0) := by decide +kernel
set_option maxRecDepth 100000 in
theorem dl_17 : dk code 17 = some (.istore_n 3) := by decide +kernel
set_option maxRecDepth 100000 in
theorem dl_18 : dk code 18 = some (.iload_n 3) := by decide +kernel
set_option maxRecDepth 100000 in
theorem dl_19 : dk code 19 = some (.aload_n 0) := by decide +kernel
set_option maxRecDepth 100000 in
theorem dl_20 : dk code 20 = some (.arraylength) := by decide +kernel
set_option maxRecDepth 100000 in
theorem dl_21 : dk code 21 = some (.bipush 8) := by decide +kernel
set_option maxRecDepth 100000 in
theorem dl_23 : dk code 23 = some (.isub) := by decide +kernel
set_option maxRecDepth 100000 in
theorem dl_24 : dk code 24 = some (.if_icmp .gt 2097) := by decide +kernel
set_option maxRecDepth 100000 in
theorem dl_27 : dk code 27 = some (.aload_n 0) := by decide +kernel
set_option maxRecDepth 100000 in
theorem dl_28 : dk code 28 = some (.iload_n 3) := by decide +kernel
set_option maxRecDepth 100000 in
theorem dl_29 : dk code 29 = some (.iaload) := by decide +kernel
set_option maxRecDepth 100000 in
theorem dl_30 : dk code 30 = some (.bipush 63) := by decide +kernel
set_option maxRecDepth 100000 in
theorem dl_32 : dk code 32 = some (.iand) := by decide +kernel
set_option maxRecDepth 100000 in
theorem dl_33 : dk code 33 = some (.tableswitch 2082 0 47 #[207, 266, 325, 358, 407, 450, 483, 526, 613, 646, 689, 742, 795, 818, 851, 884, 918, 971, 1014, 1058, 1091, 1124, 1157, 1190, 1203, 1262, 1315, 1368, 1401, 1434, 1457, 1500, 1533, 1576, 1619, 1662, 1705, 1738, 1781, 1804, 1847, 1891, 1954, 1977, 2000, 2033, 2046, 2059]) := by decide +kernel
set_option maxRecDepth 100000 in
theorem dl_240 : dk code 240 = some (.aload_n 1) := by decide +kernel
set_option maxRecDepth 100000 in
theorem dl_241 : dk code 241 = some (.aload_n 0) := by decide +kernel
set_option maxRecDepth 100000 in
theorem dl_242 : dk code 242 = some (.iload_n 3) := by decide +kernel
set_option maxRecDepth 100000 in
theorem dl_243 : dk code 243 = some (.iconst 1) := by decide +kernel
set_option maxRecDepth 100000 in
theorem dl_244 : dk code 244 = some (.iadd) := by decide +kernel
set_option maxRecDepth 100000 in
theorem dl_245 : dk code 245 = some (.iaload) := by decide +kernel
set_option maxRecDepth 100000 in
theorem dl_246 : dk code 246 = some (.aload_n 0) := by decide +kernel
set_option maxRecDepth 100000 in
theorem dl_247 : dk code 247 = some (.iload_n 3) := by decide +kernel
set_option maxRecDepth 100000 in
theorem dl_248 : dk code 248 = some (.iconst 2) := by decide +kernel
set_option maxRecDepth 100000 in
theorem dl_249 : dk code 249 = some (.iadd) := by decide +kernel
set_option maxRecDepth 100000 in
theorem dl_250 : dk code 250 = some (.iaload) := by decide +kernel
set_option maxRecDepth 100000 in
theorem dl_251 : dk code 251 = some (.aload_n 0) := by decide +kernel
set_option maxRecDepth 100000 in
theorem dl_252 : dk code 252 = some (.iload_n 3) := by decide +kernel
set_option maxRecDepth 100000 in
theorem dl_253 : dk code 253 = some (.iconst 3) := by decide +kernel
set_option maxRecDepth 100000 in
theorem dl_254 : dk code 254 = some (.iadd) := by decide +kernel
set_option maxRecDepth 100000 in
theorem dl_255 : dk code 255 = some (.iaload) := by decide +kernel
set_option maxRecDepth 100000 in
theorem dl_256 : dk code 256 = some (.ifCond .eq 7) := by decide +kernel
set_option maxRecDepth 100000 in
theorem dl_259 : dk code 259 = some (.iconst 1) := by decide +kernel
set_option maxRecDepth 100000 in
theorem dl_260 : dk code 260 = some (.goto 4) := by decide +kernel
set_option maxRecDepth 100000 in
theorem dl_263 : dk code 263 = some (.iconst 0) := by decide +kernel
set_option maxRecDepth 100000 in
theorem dl_264 : dk code 264 = some (.invokevirtual 13) := by decide +kernel
set_option maxRecDepth 100000 in
theorem dl_267 : dk code 267 = some (.aload_n 2) := by decide +kernel
set_option maxRecDepth 100000 in
theorem dl_268 : dk code 268 = some (.aload_n 0) := by decide +kernel
set_option maxRecDepth 100000 in
theorem dl_269 : dk code 269 = some (.iload_n 3) := by decide +kernel
set_option maxRecDepth 100000 in
theorem dl_270 : dk code 270 = some (.iconst 1) := by decide +kernel
set_option maxRecDepth 100000 in
theorem dl_271 : dk code 271 = some (.iadd) := by decide +kernel
set_option maxRecDepth 100000 in
theorem dl_272 : dk code 272 = some (.iaload) := by decide +kernel
set_option maxRecDepth 100000 in
theorem dl_273 : dk code 273 = some (.aload_n 0) := by decide +kernel
set_option maxRecDepth 100000 in
theorem dl_274 : dk code 274 = some (.iload_n 3) := by decide +kernel
set_option maxRecDepth 100000 in
theorem dl_275 : dk code 275 = some (.iconst 2) := by decide +kernel
set_option maxRecDepth 100000 in
theorem dl_276 : dk code 276 = some (.iadd) := by decide +kernel
set_option maxRecDepth 100000 in
theorem dl_277 : dk code 277 = some (.iaload) := by decide +kernel
set_option maxRecDepth 100000 in
theorem dl_278 : dk code 278 = some (.aload_n 0) := by decide +kernel
set_option maxRecDepth 100000 in
theorem dl_279 : dk code 279 = some (.iload_n 3) := by decide +kernel
set_option maxRecDepth 100000 in
theorem dl_280 : dk code 280 = some (.iconst 3) := by decide +kernel
set_option maxRecDepth 100000 in
theorem dl_281 : dk code 281 = some (.iadd) := by decide +kernel
set_option maxRecDepth 100000 in
theorem dl_282 : dk code 282 = some (.iaload) := by decide +kernel
set_option maxRecDepth 100000 in
theorem dl_283 : dk code 283 = some (.ifCond .eq 7) := by decide +kernel
set_option maxRecDepth 100000 in
theorem dl_286 : dk code 286 = some (.iconst 1) := by decide +kernel
set_option maxRecDepth 100000 in
theorem dl_287 : dk code 287 = some (.goto 4) := by decide +kernel
set_option maxRecDepth 100000 in
theorem dl_290 : dk code 290 = some (.iconst 0) := by decide +kernel
set_option maxRecDepth 100000 in
theorem dl_291 : dk code 291 = some (.invokevirtual 17) := by decide +kernel
set_option maxRecDepth 100000 in
theorem dl_294 : dk code 294 = some (.if_icmp .eq 1821) := by decide +kernel
set_option maxRecDepth 100000 in
theorem dl_297 : dk code 297 = some (.iconst 0) := by decide +kernel
set_option maxRecDepth 100000 in
theorem dl_298 : dk code 298 = some (.ireturn) := by decide +kernel
set_option maxRecDepth 100000 in
theorem dl_299 : dk code 299 = some (.aload_n 1) := by decide +kernel
set_option maxRecDepth 100000 in
theorem dl_300 : dk code 300 = some (.aload_n 0) := by decide +kernel
set_option maxRecDepth 100000 in
theorem dl_301 : dk code 301 = some (.iload_n 3) := by decide +kernel
set_option maxRecDepth 100000 in
theorem dl_302 : dk code 302 = some (.iconst 1) := by decide +kernel
set_option maxRecDepth 100000 in
theorem dl_303 : dk code 303 = some (.iadd) := by decide +kernel
set_option maxRecDepth 100000 in
theorem dl_304 : dk code 304 = some (.iaload) := by decide +kernel
set_option maxRecDepth 100000 in
theorem dl_305 : dk code 305 = some (.aload_n 0) := by decide +kernel
set_option maxRecDepth 100000 in
theorem dl_306 : dk code 306 = some (.iload_n 3) := by decide +kernel
set_option maxRecDepth 100000 in
theorem dl_307 : dk code 307 = some (.iconst 2) := by decide +kernel
set_option maxRecDepth 100000 in
theorem dl_308 : dk code 308 = some (.iadd) := by decide +kernel
set_option maxRecDepth 100000 in
theorem dl_309 : dk code 309 = some (.iaload) := by decide +kernel
set_option maxRecDepth 100000 in
theorem dl_310 : dk code 310 = some (.aload_n 0) := by decide +kernel
set_option maxRecDepth 100000 in
theorem dl_311 : dk code 311 = some (.iload_n 3) := by decide +kernel
set_option maxRecDepth 100000 in
theorem dl_312 : dk code 312 = some (.iconst 3) := by decide +kernel
set_option maxRecDepth 100000 in
theorem dl_313 : dk code 313 = some (.iadd) := by decide +kernel
set_option maxRecDepth 100000 in
theorem dl_314 : dk code 314 = some (.iaload) := by decide +kernel
set_option maxRecDepth 100000 in
theorem dl_315 : dk code 315 = some (.ifCond .eq 7) := by decide +kernel
set_option maxRecDepth 100000 in
theorem dl_318 : dk code 318 = some (.iconst 1) := by decide +kernel
set_option maxRecDepth 100000 in
theorem dl_319 : dk code 319 = some (.goto 4) := by decide +kernel
set_option maxRecDepth 100000 in
theorem dl_322 : dk code 322 = some (.iconst 0) := by decide +kernel
set_option maxRecDepth 100000 in
theorem dl_323 : dk code 323 = some (.invokevirtual 18) := by decide +kernel
set_option maxRecDepth 100000 in
theorem dl_326 : dk code 326 = some (.aload_n 2) := by decide +kernel
set_option maxRecDepth 100000 in
theorem dl_327 : dk code 327 = some (.aload_n 0) := by decide +kernel
set_option maxRecDepth 100000 in
theorem dl_328 : dk code 328 = some (.iload_n 3) := by decide +kernel
set_option maxRecDepth 100000 in
theorem dl_329 : dk code 329 = some (.iconst 1) := by decide +kernel
set_option maxRecDepth 100000 in
theorem dl_330 : dk code 330 = some (.iadd) := by decide +kernel
set_option maxRecDepth 100000 in
theorem dl_331 : dk code 331 = some (.iaload) := by decide +kernel
set_option maxRecDepth 100000 in
theorem dl_332 : dk code 332 = some (.aload_n 0) := by decide +kernel
set_option maxRecDepth 100000 in
theorem dl_333 : dk code 333 = some (.iload_n 3) := by decide +kernel
set_option maxRecDepth 100000 in
theorem dl_334 : dk code 334 = some (.iconst 2) := by decide +kernel
set_option maxRecDepth 100000 in
theorem dl_335 : dk code 335 = some (.iadd) := by decide +kernel
set_option maxRecDepth 100000 in
theorem dl_336 : dk code 336 = some (.iaload) := by decide +kernel
set_option maxRecDepth 100000 in
theorem dl_337 : dk code 337 = some (.aload_n 0) := by decide +kernel
set_option maxRecDepth 100000 in
theorem dl_338 : dk code 338 = some (.iload_n 3) := by decide +kernel
set_option maxRecDepth 100000 in
theorem dl_339 : dk code 339 = some (.iconst 3) := by decide +kernel
set_option maxRecDepth 100000 in
theorem dl_340 : dk code 340 = some (.iadd) := by decide +kernel
set_option maxRecDepth 100000 in
theorem dl_341 : dk code 341 = some (.iaload) := by decide +kernel
set_option maxRecDepth 100000 in
theorem dl_342 : dk code 342 = some (.ifCond .eq 7) := by decide +kernel
set_option maxRecDepth 100000 in
theorem dl_345 : dk code 345 = some (.iconst 1) := by decide +kernel
set_option maxRecDepth 100000 in
theorem dl_346 : dk code 346 = some (.goto 4) := by decide +kernel
set_option maxRecDepth 100000 in
theorem dl_349 : dk code 349 = some (.iconst 0) := by decide +kernel
set_option maxRecDepth 100000 in
theorem dl_350 : dk code 350 = some (.invokevirtual 21) := by decide +kernel
set_option maxRecDepth 100000 in
theorem dl_353 : dk code 353 = some (.if_icmp .eq 1762) := by decide +kernel
set_option maxRecDepth 100000 in
theorem dl_356 : dk code 356 = some (.iconst 0) := by decide +kernel
set_option maxRecDepth 100000 in
theorem dl_357 : dk code 357 = some (.ireturn) := by decide +kernel
set_option maxRecDepth 100000 in
theorem dl_358 : dk code 358 = some (.aload_n 1) := by decide +kernel
set_option maxRecDepth 100000 in
theorem dl_359 : dk code 359 = some (.aload_n 0) := by decide +kernel
set_option maxRecDepth 100000 in
theorem dl_360 : dk code 360 = some (.iload_n 3) := by decide +kernel
set_option maxRecDepth 100000 in
theorem dl_361 : dk code 361 = some (.iconst 1) := by decide +kernel
set_option maxRecDepth 100000 in
theorem dl_362 : dk code 362 = some (.iadd) := by decide +kernel
set_option maxRecDepth 100000 in
theorem dl_363 : dk code 363 = some (.iaload) := by decide +kernel
set_option maxRecDepth 100000 in
theorem dl_364 : dk code 364 = some (.aload_n 0) := by decide +kernel
set_option maxRecDepth 100000 in
theorem dl_365 : dk code 365 = some (.iload_n 3) := by decide +kernel
set_option maxRecDepth 100000 in
theorem dl_366 : dk code 366 = some (.iconst 2) := by decide +kernel
set_option maxRecDepth 100000 in
theorem dl_367 : dk code 367 = some (.iadd) := by decide +kernel
set_option maxRecDepth 100000 in
theorem dl_368 : dk code 368 = some (.iaload) := by decide +kernel
set_option maxRecDepth 100000 in
theorem dl_369 : dk code 369 = some (.invokevirtual 22) := by decide +kernel
set_option maxRecDepth 100000 in
theorem dl_372 : dk code 372 = some (.aload_n 2) := by decide +kernel
set_option maxRecDepth 100000 in
theorem dl_373 : dk code 373 = some (.aload_n 0) := by decide +kernel
set_option maxRecDepth 100000 in
theorem dl_374 : dk code 374 = some (.iload_n 3) := by decide +kernel
set_option maxRecDepth 100000 in
theorem dl_375 : dk code 375 = some (.iconst 1) := by decide +kernel
set_option maxRecDepth 100000 in
theorem dl_376 : dk code 376 = some (.iadd) := by decide +kernel
set_option maxRecDepth 100000 in
theorem dl_377 : dk code 377 = some (.iaload) := by decide +kernel
set_option maxRecDepth 100000 in
theorem dl_378 : dk code 378 = some (.aload_n 0) := by decide +kernel
set_option maxRecDepth 100000 in
theorem dl_379 : dk code 379 = some (.iload_n 3) := by decide +kernel
set_option maxRecDepth 100000 in
theorem dl_380 : dk code 380 = some (.iconst 2) := by decide +kernel
set_option maxRecDepth 100000 in
theorem dl_381 : dk code 381 = some (.iadd) := by decide +kernel
set_option maxRecDepth 100000 in
theorem dl_382 : dk code 382 = some (.iaload) := by decide +kernel
set_option maxRecDepth 100000 in
theorem dl_383 : dk code 383 = some (.invokevirtual 26) := by decide +kernel
set_option maxRecDepth 100000 in
theorem dl_386 : dk code 386 = some (.if_icmp .eq 1729) := by decide +kernel
set_option maxRecDepth 100000 in
theorem dl_389 : dk code 389 = some (.iconst 0) := by decide +kernel
set_option maxRecDepth 100000 in
theorem dl_390 : dk code 390 = some (.ireturn) := by decide +kernel
set_option maxRecDepth 100000 in
theorem dl_391 : dk code 391 = some (.aload_n 1) := by decide +kernel
set_option maxRecDepth 100000 in
theorem dl_392 : dk code 392 = some (.aload_n 0) := by decide +kernel
set_option maxRecDepth 100000 in
theorem dl_393 : dk code 393 = some (.iload_n 3) := by decide +kernel
set_option maxRecDepth 100000 in
theorem dl_394 : dk code 394 = some (.iconst 1) := by decide +kernel
set_option maxRecDepth 100000 in
theorem dl_395 : dk code 395 = some (.iadd) := by decide +kernel
set_option maxRecDepth 100000 in
theorem dl_396 : dk code 396 = some (.iaload) := by decide +kernel
set_option maxRecDepth 100000 in
theorem dl_397 : dk code 397 = some (.aload_n 0) := by decide +kernel
set_option maxRecDepth 100000 in
theorem dl_398 : dk code 398 = some (.iload_n 3) := by decide +kernel
set_option maxRecDepth 100000 in
theorem dl_399 : dk code 399 = some (.iconst 2) := by decide +kernel
set_option maxRecDepth 100000 in
theorem dl_400 : dk code 400 = some (.iadd) := by decide +kernel
set_option maxRecDepth 100000 in
theorem dl_401 : dk code 401 = some (.iaload) := by decide +kernel
set_option maxRecDepth 100000 in
theorem dl_402 : dk code 402 = some (.ifCond .eq 7) := by decide +kernel
set_option maxRecDepth 100000 in
theorem dl_405 : dk code 405 = some (.iconst 1) := by decide +kernel
set_option maxRecDepth 100000 in
theorem dl_406 : dk code 406 = some (.goto 4) := by decide +kernel
set_option maxRecDepth 100000 in
theorem dl_409 : dk code 409 = some (.iconst 0) := by decide +kernel
set_option maxRecDepth 100000 in
theorem dl_410 : dk code 410 = some (.invokevirtual 27) := by decide +kernel
set_option maxRecDepth 100000 in
theorem dl_413 : dk code 413 = some (.aload_n 2) := by decide +kernel
set_option maxRecDepth 100000 in
theorem dl_414 : dk code 414 = some (.aload_n 0) := by decide +kernel
set_option maxRecDepth 100000 in
theorem dl_415 : dk code 415 = some (.iload_n 3) := by decide +kernel
set_option maxRecDepth 100000 in
theorem dl_416 : dk code 416 = some (.iconst 1) := by decide +kernel
set_option maxRecDepth 100000 in
theorem dl_417 : dk code 417 = some (.iadd) := by decide +kernel
set_option maxRecDepth 100000 in
theorem dl_418 : dk code 418 = some (.iaload) := by decide +kernel
set_option maxRecDepth 100000 in
theorem dl_419 : dk code 419 = some (.aload_n 0) := by decide +kernel
set_option maxRecDepth 100000 in
theorem dl_420 : dk code 420 = some (.iload_n 3) := by decide +kernel
set_option maxRecDepth 100000 in
theorem dl_421 : dk code 421 = some (.iconst 2) := by decide +kernel
set_option maxRecDepth 100000 in
theorem dl_422 : dk code 422 = some (.iadd) := by decide +kernel
set_option maxRecDepth 100000 in
theorem dl_423 : dk code 423 = some (.iaload) := by decide +kernel
set_option maxRecDepth 100000 in
theorem dl_424 : dk code 424 = some (.ifCond .eq 7) := by decide +kernel
set_option maxRecDepth 100000 in
theorem dl_427 : dk code 427 = some (.iconst 1) := by decide +kernel
set_option maxRecDepth 100000 in
theorem dl_428 : dk code 428 = some (.goto 4) := by decide +kernel
set_option maxRecDepth 100000 in
theorem dl_431 : dk code 431 = some (.iconst 0) := by decide +kernel
set_option maxRecDepth 100000 in
theorem dl_432 : dk code 432 = some (.invokevirtual 31) := by decide +kernel
set_option maxRecDepth 100000 in
theorem dl_435 : dk code 435 = some (.if_icmp .eq 1680) := by decide +kernel
set_option maxRecDepth 100000 in
theorem dl_438 : dk code 438 = some (.iconst 0) := by decide +kernel
set_option maxRecDepth 100000 in
theorem dl_439 : dk code 439 = some (.ireturn) := by decide +kernel
set_option maxRecDepth 100000 in
theorem dl_440 : dk code 440 = some (.aload_n 1) := by decide +kernel
set_option maxRecDepth 100000 in
theorem dl_441 : dk code 441 = some (.aload_n 0) := by decide +kernel
set_option maxRecDepth 100000 in
theorem dl_442 : dk code 442 = some (.iload_n 3) := by decide +kernel
set_option maxRecDepth 100000 in
theorem dl_443 : dk code 443 = some (.iconst 1) := by decide +kernel
set_option maxRecDepth 100000 in
theorem dl_444 : dk code 444 = some (.iadd) := by decide +kernel
set_option maxRecDepth 100000 in
theorem dl_445 : dk code 445 = some (.iaload) := by decide +kernel
set_option maxRecDepth 100000 in
theorem dl_446 : dk code 446 = some (.aload_n 0) := by decide +kernel
set_option maxRecDepth 100000 in
theorem dl_447 : dk code 447 = some (.iload_n 3) := by decide +kernel
set_option maxRecDepth 100000 in
theorem dl_448 : dk code 448 = some (.iconst 2) := by decide +kernel
set_option maxRecDepth 100000 in
theorem dl_449 : dk code 449 = some (.iadd) := by decide +kernel
set_option maxRecDepth 100000 in
theorem dl_450 : dk code 450 = some (.iaload) := by decide +kernel
set_option maxRecDepth 100000 in
theorem dl_451 : dk code 451 = some (.aload_n 0) := by decide +kernel
set_option maxRecDepth 100000 in
theorem dl_452 : dk code 452 = some (.iload_n 3) := by decide +kernel
set_option maxRecDepth 100000 in
theorem dl_453 : dk code 453 = some (.iconst 3) := by decide +kernel
set_option maxRecDepth 100000 in
theorem dl_454 : dk code 454 = some (.iadd) := by decide +kernel
set_option maxRecDepth 100000 in
theorem dl_455 : dk code 455 = some (.iaload) := by decide +kernel
set_option maxRecDepth 100000 in
theorem dl_456 : dk code 456 = some (.invokevirtual 32) := by decide +kernel
set_option maxRecDepth 100000 in
theorem dl_459 : dk code 459 = some (.aload_n 2) := by decide +kernel
set_option maxRecDepth 100000 in
theorem dl_460 : dk code 460 = some (.aload_n 0) := by decide +kernel
set_option maxRecDepth 100000 in
theorem dl_461 : dk code 461 = some (.iload_n 3) := by decide +kernel
set_option maxRecDepth 100000 in
theorem dl_462 : dk code 462 = some (.iconst 1) := by decide +kernel
set_option maxRecDepth 100000 in
theorem dl_463 : dk code 463 = some (.iadd) := by decide +kernel
set_option maxRecDepth 100000 in
theorem dl_464 : dk code 464 = some (.iaload) := by decide +kernel
set_option maxRecDepth 100000 in
theorem dl_465 : dk code 465 = some (.aload_n 0) := by decide +kernel
set_option maxRecDepth 100000 in
theorem dl_466 : dk code 466 = some (.iload_n 3) := by decide +kernel
set_option maxRecDepth 100000 in
theorem dl_467 : dk code 467 = some (.iconst 2) := by decide +kernel
set_option maxRecDepth 100000 in
theorem dl_468 : dk code 468 = some (.iadd) := by decide +kernel
set_option maxRecDepth 100000 in
theorem dl_469 : dk code 469 = some (.iaload) := by decide +kernel
set_option maxRecDepth 100000 in
theorem dl_470 : dk code 470 = some (.aload_n 0) := by decide +kernel
set_option maxRecDepth 100000 in
theorem dl_471 : dk code 471 = some (.iload_n 3) := by decide +kernel
set_option maxRecDepth 100000 in
theorem dl_472 : dk code 472 = some (.iconst 3) := by decide +kernel
set_option maxRecDepth 100000 in
theorem dl_473 : dk code 473 = some (.iadd) := by decide +kernel
set_option maxRecDepth 100000 in
theorem dl_474 : dk code 474 = some (.iaload) := by decide +kernel
set_option maxRecDepth 100000 in
theorem dl_475 : dk code 475 = some (.invokevirtual 36) := by decide +kernel
set_option maxRecDepth 100000 in
theorem dl_478 : dk code 478 = some (.if_icmp .eq 1637) := by decide +kernel
set_option maxRecDepth 100000 in
theorem dl_481 : dk code 481 = some (.iconst 0) := by decide +kernel
set_option maxRecDepth 100000 in
theorem dl_482 : dk code 482 = some (.ireturn) := by decide +kernel
set_option maxRecDepth 100000 in
theorem dl_483 : dk code 483 = some (.aload_n 1) := by decide +kernel
set_option maxRecDepth 100000 in
theorem dl_484 : dk code 484 = some (.aload_n 0) := by decide +kernel
set_option maxRecDepth 100000 in
theorem dl_485 : dk code 485 = some (.iload_n 3) := by decide +kernel
set_option maxRecDepth 100000 in
theorem dl_486 : dk code 486 = some (.iconst 1) := by decide +kernel
set_option maxRecDepth 100000 in
theorem dl_487 : dk code 487 = some (.iadd) := by decide +kernel
set_option maxRecDepth 100000 in
theorem dl_488 : dk code 488 = some (.iaload) := by decide +kernel
set_option maxRecDepth 100000 in
theorem dl_489 : dk code 489 = some (.aload_n 0) := by decide +kernel
set_option maxRecDepth 100000 in
theorem dl_490 : dk code 490 = some (.iload_n 3) := by decide +kernel
set_option maxRecDepth 100000 in
theorem dl_491 : dk code 491 = some (.iconst 2) := by decide +kernel
set_option maxRecDepth 100000 in
theorem dl_492 : dk code 492 = some (.iadd) := by decide +kernel
set_option maxRecDepth 100000 in
theorem dl_493 : dk code 493 = some (.iaload) := by decide +kernel
set_option maxRecDepth 100000 in
theorem dl_494 : dk code 494 = some (.invokevirtual 37) := by decide +kernel
set_option maxRecDepth 100000 in
theorem dl_497 : dk code 497 = some (.aload_n 2) := by decide +kernel
set_option maxRecDepth 100000 in
theorem dl_498 : dk code 498 = some (.aload_n 0) := by decide +kernel
set_option maxRecDepth 100000 in
theorem dl_499 : dk code 499 = some (.iload_n 3) := by decide +kernel
set_option maxRecDepth 100000 in
theorem dl_500 : dk code 500 = some (.iconst 1) := by decide +kernel
set_option maxRecDepth 100000 in
theorem dl_501 : dk code 501 = some (.iadd) := by decide +kernel
set_option maxRecDepth 100000 in
theorem dl_502 : dk code 502 = some (.iaload) := by decide +kernel
set_option maxRecDepth 100000 in
theorem dl_503 : dk code 503 = some (.aload_n 0) := by decide +kernel
set_option maxRecDepth 100000 in
theorem dl_504 : dk code 504 = some (.iload_n 3) := by decide +kernel
set_option maxRecDepth 100000 in
theorem dl_505 : dk code 505 = some (.iconst 2) := by decide +kernel
set_option maxRecDepth 100000 in
theorem dl_506 : dk code 506 = some (.iadd) := by decide +kernel
set_option maxRecDepth 100000 in
theorem dl_507 : dk code 507 = some (.iaload) := by decide +kernel
set_option maxRecDepth 100000 in
theorem dl_508 : dk code 508 = some (.invokevirtual 40) := by decide +kernel
set_option maxRecDepth 100000 in
theorem dl_511 : dk code 511 = some (.if_icmp .eq 1604) := by decide +kernel
set_option maxRecDepth 100000 in
theorem dl_514 : dk code 514 = some (.iconst 0) := by decide +kernel
set_option maxRecDepth 100000 in
theorem dl_515 : dk code 515 = some (.ireturn) := by decide +kernel
set_option maxRecDepth 100000 in
theorem dl_516 : dk code 516 = some (.aload_n 1) := by decide +kernel
set_option maxRecDepth 100000 in
theorem dl_517 : dk code 517 = some (.aload_n 0) := by decide +kernel
set_option maxRecDepth 100000 in
theorem dl_518 : dk code 518 = some (.iload_n 3) := by decide +kernel
set_option maxRecDepth 100000 in
theorem dl_519 : dk code 519 = some (.iconst 1) := by decide +kernel
set_option maxRecDepth 100000 in
theorem dl_520 : dk code 520 = some (.iadd) := by decide +kernel
set_option maxRecDepth 100000 in
theorem dl_521 : dk code 521 = some (.iaload) := by decide +kernel
set_option maxRecDepth 100000 in
theorem dl_522 : dk code 522 = some (.aload_n 0) := by decide +kernel
set_option maxRecDepth 100000 in
theorem dl_523 : dk code 523 = some (.iload_n 3) := by decide +kernel
set_option maxRecDepth 100000 in
theorem dl_524 : dk code 524 = some (.iconst 2) := by decide +kernel
set_option maxRecDepth 100000 in
theorem dl_525 : dk code 525 = some (.iadd) := by decide +kernel
set_option maxRecDepth 100000 in
theorem dl_526 : dk code 526 = some (.iaload) := by decide +kernel
set_option maxRecDepth 100000 in
theorem dl_527 : dk code 527 = some (.aload_n 0) := by decide +kernel
set_option maxRecDepth 100000 in
theorem dl_528 : dk code 528 = some (.iload_n 3) := by decide +kernel
set_option maxRecDepth 100000 in
theorem dl_529 : dk code 529 = some (.iconst 3) := by decide +kernel
set_option maxRecDepth 100000 in
theorem dl_530 : dk code 530 = some (.iadd) := by decide +kernel
set_option maxRecDepth 100000 in
theorem dl_531 : dk code 531 = some (.iaload) := by decide +kernel
set_option maxRecDepth 100000 in
theorem dl_532 : dk code 532 = some (.invokevirtual 41) := by decide +kernel
set_option maxRecDepth 100000 in
theorem dl_535 : dk code 535 = some (.aload_n 2) := by decide +kernel
set_option maxRecDepth 100000 in
theorem dl_536 : dk code 536 = some (.aload_n 0) := by decide +kernel
set_option maxRecDepth 100000 in
theorem dl_537 : dk code 537 = some (.iload_n 3) := by decide +kernel
set_option maxRecDepth 100000 in
theorem dl_538 : dk code 538 = some (.iconst 1) := by decide +kernel
set_option maxRecDepth 100000 in
theorem dl_539 : dk code 539 = some (.iadd) := by decide +kernel
set_option maxRecDepth 100000 in
theorem dl_540 : dk code 540 = some (.iaload) := by decide +kernel
set_option maxRecDepth 100000 in
theorem dl_541 : dk code 541 = some (.aload_n 0) := by decide +kernel
set_option maxRecDepth 100000 in
theorem dl_542 : dk code 542 = some (.iload_n 3) := by decide +kernel
set_option maxRecDepth 100000 in
theorem dl_543 : dk code 543 = some (.iconst 2) := by decide +kernel
set_option maxRecDepth 100000 in
theorem dl_544 : dk code 544 = some (.iadd) := by decide +kernel
set_option maxRecDepth 100000 in
theorem dl_545 : dk code 545 = some (.iaload) := by decide +kernel
set_option maxRecDepth 100000 in
theorem dl_546 : dk code 546 = some (.aload_n 0) := by decide +kernel
set_option maxRecDepth 100000 in
theorem dl_547 : dk code 547 = some (.iload_n 3) := by decide +kernel
set_option maxRecDepth 100000 in
theorem dl_548 : dk code 548 = some (.iconst 3) := by decide +kernel
set_option maxRecDepth 100000 in
theorem dl_549 : dk code 549 = some (.iadd) := by decide +kernel
set_option maxRecDepth 100000 in
theorem dl_550 : dk code 550 = some (.iaload) := by decide +kernel
set_option maxRecDepth 100000 in
theorem dl_551 : dk code 551 = some (.invokevirtual 44) := by decide +kernel
set_option maxRecDepth 100000 in
theorem dl_554 : dk code 554 = some (.if_icmp .eq 1561) := by decide +kernel
set_option maxRecDepth 100000 in
theorem dl_557 : dk code 557 = some (.iconst 0) := by decide +kernel
set_option maxRecDepth 100000 in
theorem dl_558 : dk code 558 = some (.ireturn) := by decide +kernel
set_option maxRecDepth 100000 in
theorem dl_559 : dk code 559 = some (.aload_n 1) := by decide +kernel
set_option maxRecDepth 100000 in
theorem dl_560 : dk code 560 = some (.aload_n 0) := by decide +kernel
set_option maxRecDepth 100000 in
theorem dl_561 : dk code 561 = some (.iload_n 3) := by decide +kernel
set_option maxRecDepth 100000 in
theorem dl_562 : dk code 562 = some (.iconst 1) := by decide +kernel
set_option maxRecDepth 100000 in
theorem dl_563 : dk code 563 = some (.iadd) := by decide +kernel
set_option maxRecDepth 100000 in
theorem dl_564 : dk code 564 = some (.iaload) := by decide +kernel
set_option maxRecDepth 100000 in
theorem dl_565 : dk code 565 = some (.aload_n 0) := by decide +kernel
set_option maxRecDepth 100000 in
theorem dl_566 : dk code 566 = some (.iload_n 3) := by decide +kernel
set_option maxRecDepth 100000 in
theorem dl_567 : dk code 567 = some (.iconst 2) := by decide +kernel
set_option maxRecDepth 100000 in
theorem dl_568 : dk code 568 = some (.iadd) := by decide +kernel
set_option maxRecDepth 100000 in
theorem dl_569 : dk code 569 = some (.iaload) := by decide +kernel
set_option maxRecDepth 100000 in
theorem dl_570 : dk code 570 = some (.aload_n 0) := by decide +kernel
set_option maxRecDepth 100000 in
theorem dl_571 : dk code 571 = some (.iload_n 3) := by decide +kernel
set_option maxRecDepth 100000 in
theorem dl_572 : dk code 572 = some (.iconst 3) := by decide +kernel
set_option maxRecDepth 100000 in
theorem dl_573 : dk code 573 = some (.iadd) := by decide +kernel
set_option maxRecDepth 100000 in
theorem dl_574 : dk code 574 = some (.iaload) := by decide +kernel
set_option maxRecDepth 100000 in
theorem dl_575 : dk code 575 = some (.aload_n 0) := by decide +kernel
set_option maxRecDepth 100000 in
theorem dl_576 : dk code 576 = some (.iload_n 3) := by decide +kernel
set_option maxRecDepth 100000 in
theorem dl_577 : dk code 577 = some (.iconst 4) := by decide +kernel
set_option maxRecDepth 100000 in
theorem dl_578 : dk code 578 = some (.iadd) := by decide +kernel
set_option maxRecDepth 100000 in
theorem dl_579 : dk code 579 = some (.iaload) := by decide +kernel
set_option maxRecDepth 100000 in
theorem dl_580 : dk code 580 = some (.aload_n 0) := by decide +kernel
set_option maxRecDepth 100000 in
theorem dl_581 : dk code 581 = some (.iload_n 3) := by decide +kernel
set_option maxRecDepth 100000 in
theorem dl_582 : dk code 582 = some (.iconst 5) := by decide +kernel
set_option maxRecDepth 100000 in
theorem dl_583 : dk code 583 = some (.iadd) := by decide +kernel
set_option maxRecDepth 100000 in
theorem dl_584 : dk code 584 = some (.iaload) := by decide +kernel
set_option maxRecDepth 100000 in
theorem dl_585 : dk code 585 = some (.aload_n 0) := by decide +kernel
set_option maxRecDepth 100000 in
theorem dl_586 : dk code 586 = some (.iload_n 3) := by decide +kernel
set_option maxRecDepth 100000 in
theorem dl_587 : dk code 587 = some (.bipush 6) := by decide +kernel
set_option maxRecDepth 100000 in
theorem dl_589 : dk code 589 = some (.iadd) := by decide +kernel
set_option maxRecDepth 100000 in
theorem dl_590 : dk code 590 = some (.iaload) := by decide +kernel
set_option maxRecDepth 100000 in
theorem dl_591 : dk code 591 = some (.aload_n 0) := by decide +kernel
set_option maxRecDepth 100000 in
theorem dl_592 : dk code 592 = some (.iload_n 3) := by decide +kernel
set_option maxRecDepth 100000 in
theorem dl_593 : dk code 593 = some (.bipush 7) := by decide +kernel
set_option maxRecDepth 100000 in
theorem dl_595 : dk code 595 = some (.iadd) := by decide +kernel
set_option maxRecDepth 100000 in
theorem dl_596 : dk code 596 = some (.iaload) := by decide +kernel
set_option maxRecDepth 100000 in
theorem dl_597 : dk code 597 = some (.invokevirtual 45) := by decide +kernel
set_option maxRecDepth 100000 in
theorem dl_600 : dk code 600 = some (.aload_n 2) := by decide +kernel
set_option maxRecDepth 100000 in
theorem dl_601 : dk code 601 = some (.aload_n 0) := by decide +kernel
set_option maxRecDepth 100000 in
theorem dl_602 : dk code 602 = some (.iload_n 3) := by decide +kernel
set_option maxRecDepth 100000 in
theorem dl_603 : dk code 603 = some (.iconst 1) := by decide +kernel
set_option maxRecDepth 100000 in
theorem dl_604 : dk code 604 = some (.iadd) := by decide +kernel
set_option maxRecDepth 100000 in
theorem dl_605 : dk code 605 = some (.iaload) := by decide +kernel
set_option maxRecDepth 100000 in
theorem dl_606 : dk code 606 = some (.aload_n 0) := by decide +kernel
set_option maxRecDepth 100000 in
theorem dl_607 : dk code 607 = some (.iload_n 3) := by decide +kernel
set_option maxRecDepth 100000 in
theorem dl_608 : dk code 608 = some (.iconst 2) := by decide +kernel
set_option maxRecDepth 100000 in
theorem dl_609 : dk code 609 = some (.iadd) := by decide +kernel
set_option maxRecDepth 100000 in
theorem dl_610 : dk code 610 = some (.iaload) := by decide +kernel
set_option maxRecDepth 100000 in
theorem dl_611 : dk code 611 = some (.aload_n 0) := by decide +kernel
set_option maxRecDepth 100000 in
theorem dl_612 : dk code 612 = some (.iload_n 3) := by decide +kernel
set_option maxRecDepth 100000 in
theorem dl_613 : dk code 613 = some (.iconst 3) := by decide +kernel
set_option maxRecDepth 100000 in
theorem dl_614 : dk code 614 = some (.iadd) := by decide +kernel
set_option maxRecDepth 100000 in
theorem dl_615 : dk code 615 = some (.iaload) := by decide +kernel
set_option maxRecDepth 100000 in
theorem dl_616 : dk code 616 = some (.aload_n 0) := by decide +kernel
set_option maxRecDepth 100000 in
theorem dl_617 : dk code 617 = some (.iload_n 3) := by decide +kernel
set_option maxRecDepth 100000 in
theorem dl_618 : dk code 618 = some (.iconst 4) := by decide +kernel
set_option maxRecDepth 100000 in
theorem dl_619 : dk code 619 = some (.iadd) := by decide +kernel
set_option maxRecDepth 100000 in
theorem dl_620 : dk code 620 = some (.iaload) := by decide +kernel
set_option maxRecDepth 100000 in
theorem dl_621 : dk code 621 = some (.aload_n 0) := by decide +kernel
set_option maxRecDepth 100000 in
theorem dl_622 : dk code 622 = some (.iload_n 3) := by decide +kernel
set_option maxRecDepth 100000 in
theorem dl_623 : dk code 623 = some (.iconst 5) := by decide +kernel
set_option maxRecDepth 100000 in
theorem dl_624 : dk code 624 = some (.iadd) := by decide +kernel
set_option maxRecDepth 100000 in
theorem dl_625 : dk code 625 = some (.iaload) := by decide +kernel
set_option maxRecDepth 100000 in
theorem dl_626 : dk code 626 = some (.aload_n 0) := by decide +kernel
set_option maxRecDepth 100000 in
theorem dl_627 : dk code 627 = some (.iload_n 3) := by decide +kernel
set_option maxRecDepth 100000 in
theorem dl_628 : dk code 628 = some (.bipush 6) := by decide +kernel
set_option maxRecDepth 100000 in
theorem dl_630 : dk code 630 = some (.iadd) := by decide +kernel
set_option maxRecDepth 100000 in
theorem dl_631 : dk code 631 = some (.iaload) := by decide +kernel
set_option maxRecDepth 100000 in
theorem dl_632 : dk code 632 = some (.aload_n 0) := by decide +kernel
set_option maxRecDepth 100000 in
theorem dl_633 : dk code 633 = some (.iload_n 3) := by decide +kernel
set_option maxRecDepth 100000 in
theorem dl_634 : dk code 634 = some (.bipush 7) := by decide +kernel
set_option maxRecDepth 100000 in
theorem dl_636 : dk code 636 = some (.iadd) := by decide +kernel
set_option maxRecDepth 100000 in
theorem dl_637 : dk code 637 = some (.iaload) := by decide +kernel
set_option maxRecDepth 100000 in
theorem dl_638 : dk code 638 = some (.invokevirtual 49) := by decide +kernel
set_option maxRecDepth 100000 in
theorem dl_641 : dk code 641 = some (.if_icmp .eq 1474) := by decide +kernel
set_option maxRecDepth 100000 in
theorem dl_644 : dk code 644 = some (.iconst 0) := by decide +kernel
set_option maxRecDepth 100000 in
theorem dl_645 : dk code 645 = some (.ireturn) := by decide +kernel
set_option maxRecDepth 100000 in
theorem dl_646 : dk code 646 = some (.aload_n 1) := by decide +kernel
set_option maxRecDepth 100000 in
theorem dl_647 : dk code 647 = some (.aload_n 0) := by decide +kernel
set_option maxRecDepth 100000 in
theorem dl_648 : dk code 648 = some (.iload_n 3) := by decide +kernel
set_option maxRecDepth 100000 in
theorem dl_649 : dk code 649 = some (.iconst 1) := by decide +kernel
set_option maxRecDepth 100000 in
theorem dl_650 : dk code 650 = some (.iadd) := by decide +kernel
set_option maxRecDepth 100000 in
theorem dl_651 : dk code 651 = some (.iaload) := by decide +kernel
set_option maxRecDepth 100000 in
theorem dl_652 : dk code 652 = some (.aload_n 0) := by decide +kernel
set_option maxRecDepth 100000 in
theorem dl_653 : dk code 653 = some (.iload_n 3) := by decide +kernel
set_option maxRecDepth 100000 in
theorem dl_654 : dk code 654 = some (.iconst 2) := by decide +kernel
set_option maxRecDepth 100000 in
theorem dl_655 : dk code 655 = some (.iadd) := by decide +kernel
set_option maxRecDepth 100000 in
theorem dl_656 : dk code 656 = some (.iaload) := by decide +kernel
set_option maxRecDepth 100000 in
theorem dl_657 : dk code 657 = some (.invokevirtual 50) := by decide +kernel
set_option maxRecDepth 100000 in
theorem dl_660 : dk code 660 = some (.aload_n 2) := by decide +kernel
set_option maxRecDepth 100000 in
theorem dl_661 : dk code 661 = some (.aload_n 0) := by decide +kernel
set_option maxRecDepth 100000 in
theorem dl_662 : dk code 662 = some (.iload_n 3) := by decide +kernel
set_option maxRecDepth 100000 in
theorem dl_663 : dk code 663 = some (.iconst 1) := by decide +kernel
set_option maxRecDepth 100000 in
theorem dl_664 : dk code 664 = some (.iadd) := by decide +kernel
set_option maxRecDepth 100000 in
theorem dl_665 : dk code 665 = some (.iaload) := by decide +kernel
set_option maxRecDepth 100000 in
theorem dl_666 : dk code 666 = some (.aload_n 0) := by decide +kernel
set_option maxRecDepth 100000 in
theorem dl_667 : dk code 667 = some (.iload_n 3) := by decide +kernel
set_option maxRecDepth 100000 in
theorem dl_668 : dk code 668 = some (.iconst 2) := by decide +kernel
set_option maxRecDepth 100000 in
theorem dl_669 : dk code 669 = some (.iadd) := by decide +kernel
set_option maxRecDepth 100000 in
theorem dl_670 : dk code 670 = some (.iaload) := by decide +kernel
set_option maxRecDepth 100000 in
theorem dl_671 : dk code 671 = some (.invokevirtual 53) := by decide +kernel
set_option maxRecDepth 100000 in
theorem dl_674 : dk code 674 = some (.if_icmp .eq 1441) := by decide +kernel
set_option maxRecDepth 100000 in
theorem dl_677 : dk code 677 = some (.iconst 0) := by decide +kernel
set_option maxRecDepth 100000 in
theorem dl_678 : dk code 678 = some (.ireturn) := by decide +kernel
set_option maxRecDepth 100000 in
theorem dl_679 : dk code 679 = some (.aload_n 1) := by decide +kernel
set_option maxRecDepth 100000 in
theorem dl_680 : dk code 680 = some (.aload_n 0) := by decide +kernel
set_option maxRecDepth 100000 in
theorem dl_681 : dk code 681 = some (.iload_n 3) := by decide +kernel
set_option maxRecDepth 100000 in
theorem dl_682 : dk code 682 = some (.iconst 1) := by decide +kernel
set_option maxRecDepth 100000 in
theorem dl_683 : dk code 683 = some (.iadd) := by decide +kernel
set_option maxRecDepth 100000 in
theorem dl_684 : dk code 684 = some (.iaload) := by decide +kernel
set_option maxRecDepth 100000 in
theorem dl_685 : dk code 685 = some (.aload_n 0) := by decide +kernel
set_option maxRecDepth 100000 in
theorem dl_686 : dk code 686 = some (.iload_n 3) := by decide +kernel
set_option maxRecDepth 100000 in
theorem dl_687 : dk code 687 = some (.iconst 2) := by decide +kernel
set_option maxRecDepth 100000 in
theorem dl_688 : dk code 688 = some (.iadd) := by decide +kernel
set_option maxRecDepth 100000 in
theorem dl_689 : dk code 689 = some (.iaload) := by decide +kernel
set_option maxRecDepth 100000 in
theorem dl_690 : dk code 690 = some (.aload_n 0) := by decide +kernel
set_option maxRecDepth 100000 in
theorem dl_691 : dk code 691 = some (.iload_n 3) := by decide +kernel
set_option maxRecDepth 100000 in
theorem dl_692 : dk code 692 = some (.iconst 3) := by decide +kernel
set_option maxRecDepth 100000 in
theorem dl_693 : dk code 693 = some (.iadd) := by decide +kernel
set_option maxRecDepth 100000 in
theorem dl_694 : dk code 694 = some (.iaload) := by decide +kernel
set_option maxRecDepth 100000 in
theorem dl_695 : dk code 695 = some (.invokevirtual 54) := by decide +kernel
set_option maxRecDepth 100000 in
theorem dl_698 : dk code 698 = some (.aload_n 2) := by decide +kernel
set_option maxRecDepth 100000 in
theorem dl_699 : dk code 699 = some (.aload_n 0) := by decide +kernel
set_option maxRecDepth 100000 in
theorem dl_700 : dk code 700 = some (.iload_n 3) := by decide +kernel
set_option maxRecDepth 100000 in
theorem dl_701 : dk code 701 = some (.iconst 1) := by decide +kernel
set_option maxRecDepth 100000 in
theorem dl_702 : dk code 702 = some (.iadd) := by decide +kernel
set_option maxRecDepth 100000 in
theorem dl_703 : dk code 703 = some (.iaload) := by decide +kernel
set_option maxRecDepth 100000 in
theorem dl_704 : dk code 704 = some (.aload_n 0) := by decide +kernel
set_option maxRecDepth 100000 in
theorem dl_705 : dk code 705 = some (.iload_n 3) := by decide +kernel
set_option maxRecDepth 100000 in
theorem dl_706 : dk code 706 = some (.iconst 2) := by decide +kernel
set_option maxRecDepth 100000 in
theorem dl_707 : dk code 707 = some (.iadd) := by decide +kernel
set_option maxRecDepth 100000 in
theorem dl_708 : dk code 708 = some (.iaload) := by decide +kernel
set_option maxRecDepth 100000 in
theorem dl_709 : dk code 709 = some (.aload_n 0) := by decide +kernel
set_option maxRecDepth 100000 in
theorem dl_710 : dk code 710 = some (.iload_n 3) := by decide +kernel
set_option maxRecDepth 100000 in
theorem dl_711 : dk code 711 = some (.iconst 3) := by decide +kernel
set_option maxRecDepth 100000 in
theorem dl_712 : dk code 712 = some (.iadd) := by decide +kernel
set_option maxRecDepth 100000 in
theorem dl_713 : dk code 713 = some (.iaload) := by decide +kernel
set_option maxRecDepth 100000 in
theorem dl_714 : dk code 714 = some (.invokevirtual 57) := by decide +kernel
set_option maxRecDepth 100000 in
theorem dl_717 : dk code 717 = some (.if_icmp .eq 1398) := by decide +kernel
set_option maxRecDepth 100000 in
theorem dl_720 : dk code 720 = some (.iconst 0) := by decide +kernel
set_option maxRecDepth 100000 in
theorem dl_721 : dk code 721 = some (.ireturn) := by decide +kernel
set_option maxRecDepth 100000 in
theorem dl_722 : dk code 722 = some (.aload_n 1) := by decide +kernel
set_option maxRecDepth 100000 in
theorem dl_723 : dk code 723 = some (.aload_n 0) := by decide +kernel
set_option maxRecDepth 100000 in
theorem dl_724 : dk code 724 = some (.iload_n 3) := by decide +kernel
set_option maxRecDepth 100000 in
theorem dl_725 : dk code 725 = some (.iconst 1) := by decide +kernel
set_option maxRecDepth 100000 in
theorem dl_726 : dk code 726 = some (.iadd) := by decide +kernel
set_option maxRecDepth 100000 in
theorem dl_727 : dk code 727 = some (.iaload) := by decide +kernel
set_option maxRecDepth 100000 in
theorem dl_728 : dk code 728 = some (.aload_n 0) := by decide +kernel
set_option maxRecDepth 100000 in
theorem dl_729 : dk code 729 = some (.iload_n 3) := by decide +kernel
set_option maxRecDepth 100000 in
theorem dl_730 : dk code 730 = some (.iconst 2) := by decide +kernel
set_option maxRecDepth 100000 in
theorem dl_731 : dk code 731 = some (.iadd) := by decide +kernel
set_option maxRecDepth 100000 in
theorem dl_732 : dk code 732 = some (.iaload) := by decide +kernel
set_option maxRecDepth 100000 in
theorem dl_733 : dk code 733 = some (.aload_n 0) := by decide +kernel
set_option maxRecDepth 100000 in
theorem dl_734 : dk code 734 = some (.iload_n 3) := by decide +kernel
set_option maxRecDepth 100000 in
theorem dl_735 : dk code 735 = some (.iconst 3) := by decide +kernel
set_option maxRecDepth 100000 in
theorem dl_736 : dk code 736 = some (.iadd) := by decide +kernel
set_option maxRecDepth 100000 in
theorem dl_737 : dk code 737 = some (.iaload) := by decide +kernel
set_option maxRecDepth 100000 in
theorem dl_738 : dk code 738 = some (.aload_n 0) := by decide +kernel
set_option maxRecDepth 100000 in
theorem dl_739 : dk code 739 = some (.iload_n 3) := by decide +kernel
set_option maxRecDepth 100000 in
theorem dl_740 : dk code 740 = some (.iconst 4) := by decide +kernel
set_option maxRecDepth 100000 in
theorem dl_741 : dk code 741 = some (.iadd) := by decide +kernel
set_option maxRecDepth 100000 in
theorem dl_742 : dk code 742 = some (.iaload) := by decide +kernel
set_option maxRecDepth 100000 in
theorem dl_743 : dk code 743 = some (.invokevirtual 58) := by decide +kernel
set_option maxRecDepth 100000 in
theorem dl_746 : dk code 746 = some (.aload_n 2) := by decide +kernel
set_option maxRecDepth 100000 in
theorem dl_747 : dk code 747 = some (.aload_n 0) := by decide +kernel
set_option maxRecDepth 100000 in
theorem dl_748 : dk code 748 = some (.iload_n 3) := by decide +kernel
set_option maxRecDepth 100000 in
theorem dl_749 : dk code 749 = some (.iconst 1) := by decide +kernel
set_option maxRecDepth 100000 in
theorem dl_750 : dk code 750 = some (.iadd) := by decide +kernel
set_option maxRecDepth 100000 in
theorem dl_751 : dk code 751 = some (.iaload) := by decide +kernel
set_option maxRecDepth 100000 in
theorem dl_752 : dk code 752 = some (.aload_n 0) := by decide +kernel
set_option maxRecDepth 100000 in
theorem dl_753 : dk code 753 = some (.iload_n 3) := by decide +kernel
set_option maxRecDepth 100000 in
theorem dl_754 : dk code 754 = some (.iconst 2) := by decide +kernel
set_option maxRecDepth 100000 in
theorem dl_755 : dk code 755 = some (.iadd) := by decide +kernel
set_option maxRecDepth 100000 in
theorem dl_756 : dk code 756 = some (.iaload) := by decide +kernel
set_option maxRecDepth 100000 in
theorem dl_757 : dk code 757 = some (.aload_n 0) := by decide +kernel
set_option maxRecDepth 100000 in
theorem dl_758 : dk code 758 = some (.iload_n 3) := by decide +kernel
set_option maxRecDepth 100000 in
theorem dl_759 : dk code 759 = some (.iconst 3) := by decide +kernel
set_option maxRecDepth 100000 in
theorem dl_760 : dk code 760 = some (.iadd) := by decide +kernel
set_option maxRecDepth 100000 in
theorem dl_761 : dk code 761 = some (.iaload) := by decide +kernel
set_option maxRecDepth 100000 in
theorem dl_762 : dk code 762 = some (.aload_n 0) := by decide +kernel
set_option maxRecDepth 100000 in
theorem dl_763 : dk code 763 = some (.iload_n 3) := by decide +kernel
set_option maxRecDepth 100000 in
theorem dl_764 : dk code 764 = some (.iconst 4) := by decide +kernel
set_option maxRecDepth 100000 in
theorem dl_765 : dk code 765 = some (.iadd) := by decide +kernel
set_option maxRecDepth 100000 in
theorem dl_766 : dk code 766 = some (.iaload) := by decide +kernel
set_option maxRecDepth 100000 in
theorem dl_767 : dk code 767 = some (.invokevirtual 62) := by decide +kernel
set_option maxRecDepth 100000 in
theorem dl_770 : dk code 770 = some (.if_icmp .eq 1345) := by decide +kernel
set_option maxRecDepth 100000 in
theorem dl_773 : dk code 773 = some (.iconst 0) := by decide +kernel
set_option maxRecDepth 100000 in
theorem dl_774 : dk code 774 = some (.ireturn) := by decide +kernel
set_option maxRecDepth 100000 in
theorem dl_775 : dk code 775 = some (.aload_n 1) := by decide +kernel
set_option maxRecDepth 100000 in
theorem dl_776 : dk code 776 = some (.aload_n 0) := by decide +kernel
set_option maxRecDepth 100000 in
theorem dl_777 : dk code 777 = some (.iload_n 3) := by decide +kernel
set_option maxRecDepth 100000 in
theorem dl_778 : dk code 778 = some (.iconst 1) := by decide +kernel
set_option maxRecDepth 100000 in
theorem dl_779 : dk code 779 = some (.iadd) := by decide +kernel
set_option maxRecDepth 100000 in
theorem dl_780 : dk code 780 = some (.iaload) := by decide +kernel
set_option maxRecDepth 100000 in
theorem dl_781 : dk code 781 = some (.aload_n 0) := by decide +kernel
set_option maxRecDepth 100000 in
theorem dl_782 : dk code 782 = some (.iload_n 3) := by decide +kernel
set_option maxRecDepth 100000 in
theorem dl_783 : dk code 783 = some (.iconst 2) := by decide +kernel
set_option maxRecDepth 100000 in
theorem dl_784 : dk code 784 = some (.iadd) := by decide +kernel
set_option maxRecDepth 100000 in
theorem dl_785 : dk code 785 = some (.iaload) := by decide +kernel
set_option maxRecDepth 100000 in
theorem dl_786 : dk code 786 = some (.aload_n 0) := by decide +kernel
set_option maxRecDepth 100000 in
theorem dl_787 : dk code 787 = some (.iload_n 3) := by decide +kernel
set_option maxRecDepth 100000 in
theorem dl_788 : dk code 788 = some (.iconst 3) := by decide +kernel
set_option maxRecDepth 100000 in
theorem dl_789 : dk code 789 = some (.iadd) := by decide +kernel
set_option maxRecDepth 100000 in
theorem dl_790 : dk code 790 = some (.iaload) := by decide +kernel
set_option maxRecDepth 100000 in
theorem dl_791 : dk code 791 = some (.aload_n 0) := by decide +kernel
set_option maxRecDepth 100000 in
theorem dl_792 : dk code 792 = some (.iload_n 3) := by decide +kernel
set_option maxRecDepth 100000 in
theorem dl_793 : dk code 793 = some (.iconst 4) := by decide +kernel
set_option maxRecDepth 100000 in
theorem dl_794 : dk code 794 = some (.iadd) := by decide +kernel
set_option maxRecDepth 100000 in
theorem dl_795 : dk code 795 = some (.iaload) := by decide +kernel
set_option maxRecDepth 100000 in
theorem dl_796 : dk code 796 = some (.invokevirtual 63) := by decide +kernel
set_option maxRecDepth 100000 in
theorem dl_799 : dk code 799 = some (.aload_n 2) := by decide +kernel
set_option maxRecDepth 100000 in
theorem dl_800 : dk code 800 = some (.aload_n 0) := by decide +kernel
set_option maxRecDepth 100000 in
theorem dl_801 : dk code 801 = some (.iload_n 3) := by decide +kernel
set_option maxRecDepth 100000 in
theorem dl_802 : dk code 802 = some (.iconst 1) := by decide +kernel
set_option maxRecDepth 100000 in
theorem dl_803 : dk code 803 = some (.iadd) := by decide +kernel
set_option maxRecDepth 100000 in
theorem dl_804 : dk code 804 = some (.iaload) := by decide +kernel
set_option maxRecDepth 100000 in
theorem dl_805 : dk code 805 = some (.aload_n 0) := by decide +kernel
set_option maxRecDepth 100000 in
theorem dl_806 : dk code 806 = some (.iload_n 3) := by decide +kernel
set_option maxRecDepth 100000 in
theorem dl_807 : dk code 807 = some (.iconst 2) := by decide +kernel
set_option maxRecDepth 100000 in
theorem dl_808 : dk code 808 = some (.iadd) := by decide +kernel
set_option maxRecDepth 100000 in
theorem dl_809 : dk code 809 = some (.iaload) := by decide +kernel
set_option maxRecDepth 100000 in
theorem dl_810 : dk code 810 = some (.aload_n 0) := by decide +kernel
set_option maxRecDepth 100000 in
theorem dl_811 : dk code 811 = some (.iload_n 3) := by decide +kernel
set_option maxRecDepth 100000 in
theorem dl_812 : dk code 812 = some (.iconst 3) := by decide +kernel
set_option maxRecDepth 100000 in
theorem dl_813 : dk code 813 = some (.iadd) := by decide +kernel
set_option maxRecDepth 100000 in
theorem dl_814 : dk code 814 = some (.iaload) := by decide +kernel
set_option maxRecDepth 100000 in
theorem dl_815 : dk code 815 = some (.aload_n 0) := by decide +kernel
set_option maxRecDepth 100000 in
theorem dl_816 : dk code 816 = some (.iload_n 3) := by decide +kernel
set_option maxRecDepth 100000 in
theorem dl_817 : dk code 817 = some (.iconst 4) := by decide +kernel
set_option maxRecDepth 100000 in
theorem dl_818 : dk code 818 = some (.iadd) := by decide +kernel
set_option maxRecDepth 100000 in
theorem dl_819 : dk code 819 = some (.iaload) := by decide +kernel
set_option maxRecDepth 100000 in
theorem dl_820 : dk code 820 = some (.invokevirtual 66) := by decide +kernel
set_option maxRecDepth 100000 in
theorem dl_823 : dk code 823 = some (.if_icmp .eq 1292) := by decide +kernel
set_option maxRecDepth 100000 in
theorem dl_826 : dk code 826 = some (.iconst 0) := by decide +kernel
set_option maxRecDepth 100000 in
theorem dl_827 : dk code 827 = some (.ireturn) := by decide +kernel
set_option maxRecDepth 100000 in
theorem dl_828 : dk code 828 = some (.aload_n 1) := by decide +kernel
set_option maxRecDepth 100000 in
theorem dl_829 : dk code 829 = some (.aload_n 0) := by decide +kernel
set_option maxRecDepth 100000 in
theorem dl_830 : dk code 830 = some (.iload_n 3) := by decide +kernel
set_option maxRecDepth 100000 in
theorem dl_831 : dk code 831 = some (.iconst 1) := by decide +kernel
set_option maxRecDepth 100000 in
theorem dl_832 : dk code 832 = some (.iadd) := by decide +kernel
set_option maxRecDepth 100000 in
theorem dl_833 : dk code 833 = some (.iaload) := by decide +kernel
set_option maxRecDepth 100000 in
theorem dl_834 : dk code 834 = some (.invokevirtual 67) := by decide +kernel
set_option maxRecDepth 100000 in
theorem dl_837 : dk code 837 = some (.aload_n 2) := by decide +kernel
set_option maxRecDepth 100000 in
theorem dl_838 : dk code 838 = some (.aload_n 0) := by decide +kernel
set_option maxRecDepth 100000 in
theorem dl_839 : dk code 839 = some (.iload_n 3) := by decide +kernel
set_option maxRecDepth 100000 in
theorem dl_840 : dk code 840 = some (.iconst 1) := by decide +kernel
set_option maxRecDepth 100000 in
theorem dl_841 : dk code 841 = some (.iadd) := by decide +kernel
set_option maxRecDepth 100000 in
theorem dl_842 : dk code 842 = some (.iaload) := by decide +kernel
set_option maxRecDepth 100000 in
theorem dl_843 : dk code 843 = some (.invokevirtual 71) := by decide +kernel
set_option maxRecDepth 100000 in
theorem dl_846 : dk code 846 = some (.if_icmp .eq 1269) := by decide +kernel
set_option maxRecDepth 100000 in
theorem dl_849 : dk code 849 = some (.iconst 0) := by decide +kernel
set_option maxRecDepth 100000 in
theorem dl_850 : dk code 850 = some (.ireturn) := by decide +kernel
set_option maxRecDepth 100000 in
theorem dl_851 : dk code 851 = some (.aload_n 1) := by decide +kernel
set_option maxRecDepth 100000 in
theorem dl_852 : dk code 852 = some (.aload_n 0) := by decide +kernel
set_option maxRecDepth 100000 in
theorem dl_853 : dk code 853 = some (.iload_n 3) := by decide +kernel
set_option maxRecDepth 100000 in
theorem dl_854 : dk code 854 = some (.iconst 1) := by decide +kernel
set_option maxRecDepth 100000 in
theorem dl_855 : dk code 855 = some (.iadd) := by decide +kernel
set_option maxRecDepth 100000 in
theorem dl_856 : dk code 856 = some (.iaload) := by decide +kernel
set_option maxRecDepth 100000 in
theorem dl_857 : dk code 857 = some (.aload_n 0) := by decide +kernel
set_option maxRecDepth 100000 in
theorem dl_858 : dk code 858 = some (.iload_n 3) := by decide +kernel
set_option maxRecDepth 100000 in
theorem dl_859 : dk code 859 = some (.iconst 2) := by decide +kernel
set_option maxRecDepth 100000 in
theorem dl_860 : dk code 860 = some (.iadd) := by decide +kernel
set_option maxRecDepth 100000 in
theorem dl_861 : dk code 861 = some (.iaload) := by decide +kernel
set_option maxRecDepth 100000 in
theorem dl_862 : dk code 862 = some (.invokevirtual 72) := by decide +kernel
set_option maxRecDepth 100000 in
theorem dl_865 : dk code 865 = some (.aload_n 2) := by decide +kernel
set_option maxRecDepth 100000 in
theorem dl_866 : dk code 866 = some (.aload_n 0) := by decide +kernel
set_option maxRecDepth 100000 in
theorem dl_867 : dk code 867 = some (.iload_n 3) := by decide +kernel
set_option maxRecDepth 100000 in
theorem dl_868 : dk code 868 = some (.iconst 1) := by decide +kernel
set_option maxRecDepth 100000 in
theorem dl_869 : dk code 869 = some (.iadd) := by decide +kernel
set_option maxRecDepth 100000 in
theorem dl_870 : dk code 870 = some (.iaload) := by decide +kernel
set_option maxRecDepth 100000 in
theorem dl_871 : dk code 871 = some (.aload_n 0) := by decide +kernel
set_option maxRecDepth 100000 in
theorem dl_872 : dk code 872 = some (.iload_n 3) := by decide +kernel
set_option maxRecDepth 100000 in
theorem dl_873 : dk code 873 = some (.iconst 2) := by decide +kernel
set_option maxRecDepth 100000 in
theorem dl_874 : dk code 874 = some (.iadd) := by decide +kernel
set_option maxRecDepth 100000 in
theorem dl_875 : dk code 875 = some (.iaload) := by decide +kernel
set_option maxRecDepth 100000 in
theorem dl_876 : dk code 876 = some (.invokevirtual 75) := by decide +kernel
set_option maxRecDepth 100000 in
theorem dl_879 : dk code 879 = some (.if_icmp .eq 1236) := by decide +kernel
set_option maxRecDepth 100000 in
theorem dl_882 : dk code 882 = some (.iconst 0) := by decide +kernel
set_option maxRecDepth 100000 in
theorem dl_883 : dk code 883 = some (.ireturn) := by decide +kernel
set_option maxRecDepth 100000 in
theorem dl_884 : dk code 884 = some (.aload_n 1) := by decide +kernel
set_option maxRecDepth 100000 in
theorem dl_885 : dk code 885 = some (.aload_n 0) := by decide +kernel
set_option maxRecDepth 100000 in
theorem dl_886 : dk code 886 = some (.iload_n 3) := by decide +kernel
set_option maxRecDepth 100000 in
theorem dl_887 : dk code 887 = some (.iconst 1) := by decide +kernel
set_option maxRecDepth 100000 in
theorem dl_888 : dk code 888 = some (.iadd) := by decide +kernel
set_option maxRecDepth 100000 in
theorem dl_889 : dk code 889 = some (.iaload) := by decide +kernel
set_option maxRecDepth 100000 in
theorem dl_890 : dk code 890 = some (.aload_n 0) := by decide +kernel
set_option maxRecDepth 100000 in
theorem dl_891 : dk code 891 = some (.iload_n 3) := by decide +kernel
set_option maxRecDepth 100000 in
theorem dl_892 : dk code 892 = some (.iconst 2) := by decide +kernel
set_option maxRecDepth 100000 in
theorem dl_893 : dk code 893 = some (.iadd) := by decide +kernel
set_option maxRecDepth 100000 in
theorem dl_894 : dk code 894 = some (.iaload) := by decide +kernel
set_option maxRecDepth 100000 in
theorem dl_895 : dk code 895 = some (.invokevirtual 76) := by decide +kernel
set_option maxRecDepth 100000 in
theorem dl_898 : dk code 898 = some (.aload_n 2) := by decide +kernel
set_option maxRecDepth 100000 in
theorem dl_899 : dk code 899 = some (.aload_n 0) := by decide +kernel
set_option maxRecDepth 100000 in
theorem dl_900 : dk code 900 = some (.iload_n 3) := by decide +kernel
set_option maxRecDepth 100000 in
theorem dl_901 : dk code 901 = some (.iconst 1) := by decide +kernel
set_option maxRecDepth 100000 in
theorem dl_902 : dk code 902 = some (.iadd) := by decide +kernel
set_option maxRecDepth 100000 in
theorem dl_903 : dk code 903 = some (.iaload) := by decide +kernel
set_option maxRecDepth 100000 in
theorem dl_904 : dk code 904 = some (.aload_n 0) := by decide +kernel
set_option maxRecDepth 100000 in
theorem dl_905 : dk code 905 = some (.iload_n 3) := by decide +kernel
set_option maxRecDepth 100000 in
theorem dl_906 : dk code 906 = some (.iconst 2) := by decide +kernel
set_option maxRecDepth 100000 in
theorem dl_907 : dk code 907 = some (.iadd) := by decide +kernel
set_option maxRecDepth 100000 in
theorem dl_908 : dk code 908 = some (.iaload) := by decide +kernel
set_option maxRecDepth 100000 in
theorem dl_909 : dk code 909 = some (.invokevirtual 79) := by decide +kernel
set_option maxRecDepth 100000 in
theorem dl_912 : dk code 912 = some (.if_icmp .eq 1203) := by decide +kernel
set_option maxRecDepth 100000 in
theorem dl_915 : dk code 915 = some (.iconst 0) := by decide +kernel
set_option maxRecDepth 100000 in
theorem dl_916 : dk code 916 = some (.ireturn) := by decide +kernel
set_option maxRecDepth 100000 in
theorem dl_917 : dk code 917 = some (.aload_n 1) := by decide +kernel
set_option maxRecDepth 100000 in
theorem dl_918 : dk code 918 = some (.aload_n 0) := by decide +kernel
set_option maxRecDepth 100000 in
theorem dl_919 : dk code 919 = some (.iload_n 3) := by decide +kernel
set_option maxRecDepth 100000 in
theorem dl_920 : dk code 920 = some (.iconst 1) := by decide +kernel
set_option maxRecDepth 100000 in
theorem dl_921 : dk code 921 = some (.iadd) := by decide +kernel
set_option maxRecDepth 100000 in
theorem dl_922 : dk code 922 = some (.iaload) := by decide +kernel
set_option maxRecDepth 100000 in
theorem dl_923 : dk code 923 = some (.aload_n 0) := by decide +kernel
set_option maxRecDepth 100000 in
theorem dl_924 : dk code 924 = some (.iload_n 3) := by decide +kernel
set_option maxRecDepth 100000 in
theorem dl_925 : dk code 925 = some (.iconst 2) := by decide +kernel
set_option maxRecDepth 100000 in
theorem dl_926 : dk code 926 = some (.iadd) := by decide +kernel
set_option maxRecDepth 100000 in
theorem dl_927 : dk code 927 = some (.iaload) := by decide +kernel
set_option maxRecDepth 100000 in
theorem dl_928 : dk code 928 = some (.invokevirtual 80) := by decide +kernel
set_option maxRecDepth 100000 in
theorem dl_931 : dk code 931 = some (.aload_n 2) := by decide +kernel
set_option maxRecDepth 100000 in
theorem dl_932 : dk code 932 = some (.aload_n 0) := by decide +kernel
set_option maxRecDepth 100000 in
theorem dl_933 : dk code 933 = some (.iload_n 3) := by decide +kernel
set_option maxRecDepth 100000 in
theorem dl_934 : dk code 934 = some (.iconst 1) := by decide +kernel
set_option maxRecDepth 100000 in
theorem dl_935 : dk code 935 = some (.iadd) := by decide +kernel
set_option maxRecDepth 100000 in
theorem dl_936 : dk code 936 = some (.iaload) := by decide +kernel
set_option maxRecDepth 100000 in
theorem dl_937 : dk code 937 = some (.aload_n 0) := by decide +kernel
set_option maxRecDepth 100000 in
theorem dl_938 : dk code 938 = some (.iload_n 3) := by decide +kernel
set_option maxRecDepth 100000 in
theorem dl_939 : dk code 939 = some (.iconst 2) := by decide +kernel
set_option maxRecDepth 100000 in
theorem dl_940 : dk code 940 = some (.iadd) := by decide +kernel
set_option maxRecDepth 100000 in
theorem dl_941 : dk code 941 = some (.iaload) := by decide +kernel
set_option maxRecDepth 100000 in
theorem dl_942 : dk code 942 = some (.invokevirtual 84) := by decide +kernel
set_option maxRecDepth 100000 in
theorem dl_945 : dk code 945 = some (.lcmp) := by decide +kernel
set_option maxRecDepth 100000 in
theorem dl_946 : dk code 946 = some (.ifCond .eq 1169) := by decide +kernel
set_option maxRecDepth 100000 in
theorem dl_949 : dk code 949 = some (.iconst 0) := by decide +kernel
set_option maxRecDepth 100000 in
theorem dl_950 : dk code 950 = some (.ireturn) := by decide +kernel
set_option maxRecDepth 100000 in
theorem dl_951 : dk code 951 = some (.aload_n 1) := by decide +kernel
set_option maxRecDepth 100000 in
theorem dl_952 : dk code 952 = some (.aload_n 0) := by decide +kernel
set_option maxRecDepth 100000 in
theorem dl_953 : dk code 953 = some (.iload_n 3) := by decide +kernel
set_option maxRecDepth 100000 in
theorem dl_954 : dk code 954 = some (.iconst 1) := by decide +kernel
set_option maxRecDepth 100000 in
theorem dl_955 : dk code 955 = some (.iadd) := by decide +kernel
set_option maxRecDepth 100000 in
theorem dl_956 : dk code 956 = some (.iaload) := by decide +kernel
set_option maxRecDepth 100000 in
theorem dl_957 : dk code 957 = some (.aload_n 0) := by decide +kernel
set_option maxRecDepth 100000 in
theorem dl_958 : dk code 958 = some (.iload_n 3) := by decide +kernel
set_option maxRecDepth 100000 in
theorem dl_959 : dk code 959 = some (.iconst 2) := by decide +kernel
set_option maxRecDepth 100000 in
theorem dl_960 : dk code 960 = some (.iadd) := by decide +kernel
set_option maxRecDepth 100000 in
theorem dl_961 : dk code 961 = some (.iaload) := by decide +kernel
set_option maxRecDepth 100000 in
theorem dl_962 : dk code 962 = some (.aload_n 0) := by decide +kernel
set_option maxRecDepth 100000 in
theorem dl_963 : dk code 963 = some (.iload_n 3) := by decide +kernel
set_option maxRecDepth 100000 in
theorem dl_964 : dk code 964 = some (.iconst 3) := by decide +kernel
set_option maxRecDepth 100000 in
theorem dl_965 : dk code 965 = some (.iadd) := by decide +kernel
set_option maxRecDepth 100000 in
theorem dl_966 : dk code 966 = some (.iaload) := by decide +kernel
set_option maxRecDepth 100000 in
theorem dl_967 : dk code 967 = some (.aload_n 0) := by decide +kernel
set_option maxRecDepth 100000 in
theorem dl_968 : dk code 968 = some (.iload_n 3) := by decide +kernel
set_option maxRecDepth 100000 in
theorem dl_969 : dk code 969 = some (.iconst 4) := by decide +kernel
set_option maxRecDepth 100000 in
theorem dl_970 : dk code 970 = some (.iadd) := by decide +kernel
set_option maxRecDepth 100000 in
theorem dl_971 : dk code 971 = some (.iaload) := by decide +kernel
set_option maxRecDepth 100000 in
theorem dl_972 : dk code 972 = some (.invokevirtual 85) := by decide +kernel
set_option maxRecDepth 100000 in
theorem dl_975 : dk code 975 = some (.aload_n 2) := by decide +kernel
set_option maxRecDepth 100000 in
theorem dl_976 : dk code 976 = some (.aload_n 0) := by decide +kernel
set_option maxRecDepth 100000 in
theorem dl_977 : dk code 977 = some (.iload_n 3) := by decide +kernel
set_option maxRecDepth 100000 in
theorem dl_978 : dk code 978 = some (.iconst 1) := by decide +kernel
set_option maxRecDepth 100000 in
theorem dl_979 : dk code 979 = some (.iadd) := by decide +kernel
set_option maxRecDepth 100000 in
theorem dl_980 : dk code 980 = some (.iaload) := by decide +kernel
set_option maxRecDepth 100000 in
theorem dl_981 : dk code 981 = some (.aload_n 0) := by decide +kernel
set_option maxRecDepth 100000 in
theorem dl_982 : dk code 982 = some (.iload_n 3) := by decide +kernel
set_option maxRecDepth 100000 in
theorem dl_983 : dk code 983 = some (.iconst 2) := by decide +kernel
set_option maxRecDepth 100000 in
theorem dl_984 : dk code 984 = some (.iadd) := by decide +kernel
set_option maxRecDepth 100000 in
theorem dl_985 : dk code 985 = some (.iaload) := by decide +kernel
set_option maxRecDepth 100000 in
theorem dl_986 : dk code 986 = some (.aload_n 0) := by decide +kernel
set_option maxRecDepth 100000 in
theorem dl_987 : dk code 987 = some (.iload_n 3) := by decide +kernel
set_option maxRecDepth 100000 in
theorem dl_988 : dk code 988 = some (.iconst 3) := by decide +kernel
set_option maxRecDepth 100000 in
theorem dl_989 : dk code 989 = some (.iadd) := by decide +kernel
set_option maxRecDepth 100000 in
theorem dl_990 : dk code 990 = some (.iaload) := by decide +kernel
set_option maxRecDepth 100000 in
theorem dl_991 : dk code 991 = some (.aload_n 0) := by decide +kernel
set_option maxRecDepth 100000 in
theorem dl_992 : dk code 992 = some (.iload_n 3) := by decide +kernel
set_option maxRecDepth 100000 in
theorem dl_993 : dk code 993 = some (.iconst 4) := by decide +kernel
set_option maxRecDepth 100000 in
theorem dl_994 : dk code 994 = some (.iadd) := by decide +kernel
set_option maxRecDepth 100000 in
theorem dl_995 : dk code 995 = some (.iaload) := by decide +kernel
set_option maxRecDepth 100000 in
theorem dl_996 : dk code 996 = some (.invokevirtual 88) := by decide +kernel
set_option maxRecDepth 100000 in
theorem dl_999 : dk code 999 = some (.if_icmp .eq 1116) := by decide +kernel
set_option maxRecDepth 100000 in
theorem dl_1002 : dk code 1002 = some (.iconst 0) := by decide +kernel
set_option maxRecDepth 100000 in
theorem dl_1003 : dk code 1003 = some (.ireturn) := by decide +kernel
set_option maxRecDepth 100000 in
theorem dl_1004 : dk code 1004 = some (.aload_n 1) := by decide +kernel
set_option maxRecDepth 100000 in
theorem dl_1005 : dk code 1005 = some (.aload_n 0) := by decide +kernel
set_option maxRecDepth 100000 in
theorem dl_1006 : dk code 1006 = some (.iload_n 3) := by decide +kernel
set_option maxRecDepth 100000 in
theorem dl_1007 : dk code 1007 = some (.iconst 1) := by decide +kernel
set_option maxRecDepth 100000 in
theorem dl_1008 : dk code 1008 = some (.iadd) := by decide +kernel
set_option maxRecDepth 100000 in
theorem dl_1009 : dk code 1009 = some (.iaload) := by decide +kernel
set_option maxRecDepth 100000 in
theorem dl_1010 : dk code 1010 = some (.aload_n 0) := by decide +kernel
set_option maxRecDepth 100000 in
theorem dl_1011 : dk code 1011 = some (.iload_n 3) := by decide +kernel
set_option maxRecDepth 100000 in
theorem dl_1012 : dk code 1012 = some (.iconst 2) := by decide +kernel
set_option maxRecDepth 100000 in
theorem dl_1013 : dk code 1013 = some (.iadd) := by decide +kernel
set_option maxRecDepth 100000 in
theorem dl_1014 : dk code 1014 = some (.iaload) := by decide +kernel
set_option maxRecDepth 100000 in
theorem dl_1015 : dk code 1015 = some (.aload_n 0) := by decide +kernel
set_option maxRecDepth 100000 in
theorem dl_1016 : dk code 1016 = some (.iload_n 3) := by decide +kernel
set_option maxRecDepth 100000 in
theorem dl_1017 : dk code 1017 = some (.iconst 3) := by decide +kernel
set_option maxRecDepth 100000 in
theorem dl_1018 : dk code 1018 = some (.iadd) := by decide +kernel
set_option maxRecDepth 100000 in
theorem dl_1019 : dk code 1019 = some (.iaload) := by decide +kernel
set_option maxRecDepth 100000 in
theorem dl_1020 : dk code 1020 = some (.invokevirtual 89) := by decide +kernel
set_option maxRecDepth 100000 in
theorem dl_1023 : dk code 1023 = some (.aload_n 2) := by decide +kernel
set_option maxRecDepth 100000 in
theorem dl_1024 : dk code 1024 = some (.aload_n 0) := by decide +kernel
set_option maxRecDepth 100000 in
theorem dl_1025 : dk code 1025 = some (.iload_n 3) := by decide +kernel
set_option maxRecDepth 100000 in
theorem dl_1026 : dk code 1026 = some (.iconst 1) := by decide +kernel
set_option maxRecDepth 100000 in
theorem dl_1027 : dk code 1027 = some (.iadd) := by decide +kernel
set_option maxRecDepth 100000 in
theorem dl_1028 : dk code 1028 = some (.iaload) := by decide +kernel
set_option maxRecDepth 100000 in
theorem dl_1029 : dk code 1029 = some (.aload_n 0) := by decide +kernel
set_option maxRecDepth 100000 in
theorem dl_1030 : dk code 1030 = some (.iload_n 3) := by decide +kernel
set_option maxRecDepth 100000 in
theorem dl_1031 : dk code 1031 = some (.iconst 2) := by decide +kernel
set_option maxRecDepth 100000 in
theorem dl_1032 : dk code 1032 = some (.iadd) := by decide +kernel
set_option maxRecDepth 100000 in
theorem dl_1033 : dk code 1033 = some (.iaload) := by decide +kernel
set_option maxRecDepth 100000 in
theorem dl_1034 : dk code 1034 = some (.aload_n 0) := by decide +kernel
set_option maxRecDepth 100000 in
theorem dl_1035 : dk code 1035 = some (.iload_n 3) := by decide +kernel
set_option maxRecDepth 100000 in
theorem dl_1036 : dk code 1036 = some (.iconst 3) := by decide +kernel
set_option maxRecDepth 100000 in
theorem dl_1037 : dk code 1037 = some (.iadd) := by decide +kernel
set_option maxRecDepth 100000 in
theorem dl_1038 : dk code 1038 = some (.iaload) := by decide +kernel
set_option maxRecDepth 100000 in
theorem dl_1039 : dk code 1039 = some (.invokevirtual 92) := by decide +kernel
set_option maxRecDepth 100000 in
theorem dl_1042 : dk code 1042 = some (.if_icmp .eq 1073) := by decide +kernel
set_option maxRecDepth 100000 in
theorem dl_1045 : dk code 1045 = some (.iconst 0) := by decide +kernel
set_option maxRecDepth 100000 in
theorem dl_1046 : dk code 1046 = some (.ireturn) := by decide +kernel
set_option maxRecDepth 100000 in
theorem dl_1047 : dk code 1047 = some (.aload_n 1) := by decide +kernel
set_option maxRecDepth 100000 in
theorem dl_1048 : dk code 1048 = some (.aload_n 0) := by decide +kernel
set_option maxRecDepth 100000 in
theorem dl_1049 : dk code 1049 = some (.iload_n 3) := by decide +kernel
set_option maxRecDepth 100000 in
theorem dl_1050 : dk code 1050 = some (.iconst 1) := by decide +kernel
set_option maxRecDepth 100000 in
theorem dl_1051 : dk code 1051 = some (.iadd) := by decide +kernel
set_option maxRecDepth 100000 in
theorem dl_1052 : dk code 1052 = some (.iaload) := by decide +kernel
set_option maxRecDepth 100000 in
theorem dl_1053 : dk code 1053 = some (.aload_n 0) := by decide +kernel
set_option maxRecDepth 100000 in
theorem dl_1054 : dk code 1054 = some (.iload_n 3) := by decide +kernel
set_option maxRecDepth 100000 in
theorem dl_1055 : dk code 1055 = some (.iconst 2) := by decide +kernel
set_option maxRecDepth 100000 in
theorem dl_1056 : dk code 1056 = some (.iadd) := by decide +kernel
set_option maxRecDepth 100000 in
theorem dl_1057 : dk code 1057 = some (.iaload) := by decide +kernel
set_option maxRecDepth 100000 in
theorem dl_1058 : dk code 1058 = some (.aload_n 0) := by decide +kernel
set_option maxRecDepth 100000 in
theorem dl_1059 : dk code 1059 = some (.iload_n 3) := by decide +kernel
set_option maxRecDepth 100000 in
theorem dl_1060 : dk code 1060 = some (.iconst 3) := by decide +kernel
set_option maxRecDepth 100000 in
theorem dl_1061 : dk code 1061 = some (.iadd) := by decide +kernel
set_option maxRecDepth 100000 in
theorem dl_1062 : dk code 1062 = some (.iaload) := by decide +kernel
set_option maxRecDepth 100000 in
theorem dl_1063 : dk code 1063 = some (.invokevirtual 93) := by decide +kernel
set_option maxRecDepth 100000 in
theorem dl_1066 : dk code 1066 = some (.aload_n 2) := by decide +kernel
set_option maxRecDepth 100000 in
theorem dl_1067 : dk code 1067 = some (.aload_n 0) := by decide +kernel
set_option maxRecDepth 100000 in
theorem dl_1068 : dk code 1068 = some (.iload_n 3) := by decide +kernel
set_option maxRecDepth 100000 in
theorem dl_1069 : dk code 1069 = some (.iconst 1) := by decide +kernel
set_option maxRecDepth 100000 in
theorem dl_1070 : dk code 1070 = some (.iadd) := by decide +kernel
set_option maxRecDepth 100000 in
theorem dl_1071 : dk code 1071 = some (.iaload) := by decide +kernel
set_option maxRecDepth 100000 in
theorem dl_1072 : dk code 1072 = some (.aload_n 0) := by decide +kernel
set_option maxRecDepth 100000 in
theorem dl_1073 : dk code 1073 = some (.iload_n 3) := by decide +kernel
set_option maxRecDepth 100000 in
theorem dl_1074 : dk code 1074 = some (.iconst 2) := by decide +kernel
set_option maxRecDepth 100000 in
theorem dl_1075 : dk code 1075 = some (.iadd) := by decide +kernel
set_option maxRecDepth 100000 in
theorem dl_1076 : dk code 1076 = some (.iaload) := by decide +kernel
set_option maxRecDepth 100000 in
theorem dl_1077 : dk code 1077 = some (.aload_n 0) := by decide +kernel
set_option maxRecDepth 100000 in
theorem dl_1078 : dk code 1078 = some (.iload_n 3) := by decide +kernel
set_option maxRecDepth 100000 in
theorem dl_1079 : dk code 1079 = some (.iconst 3) := by decide +kernel
set_option maxRecDepth 100000 in
theorem dl_1080 : dk code 1080 = some (.iadd) := by decide +kernel
set_option maxRecDepth 100000 in
theorem dl_1081 : dk code 1081 = some (.iaload) := by decide +kernel
set_option maxRecDepth 100000 in
theorem dl_1082 : dk code 1082 = some (.invokevirtual 97) := by decide +kernel
set_option maxRecDepth 100000 in
theorem dl_1085 : dk code 1085 = some (.lcmp) := by decide +kernel
set_option maxRecDepth 100000 in
theorem dl_1086 : dk code 1086 = some (.ifCond .eq 1029) := by decide +kernel
set_option maxRecDepth 100000 in
theorem dl_1089 : dk code 1089 = some (.iconst 0) := by decide +kernel
set_option maxRecDepth 100000 in
theorem dl_1090 : dk code 1090 = some (.ireturn) := by decide +kernel
set_option maxRecDepth 100000 in
theorem dl_1091 : dk code 1091 = some (.aload_n 1) := by decide +kernel
set_option maxRecDepth 100000 in
theorem dl_1092 : dk code 1092 = some (.aload_n 0) := by decide +kernel
set_option maxRecDepth 100000 in
theorem dl_1093 : dk code 1093 = some (.iload_n 3) := by decide +kernel
set_option maxRecDepth 100000 in
theorem dl_1094 : dk code 1094 = some (.iconst 1) := by decide +kernel
set_option maxRecDepth 100000 in
theorem dl_1095 : dk code 1095 = some (.iadd) := by decide +kernel
set_option maxRecDepth 100000 in
theorem dl_1096 : dk code 1096 = some (.iaload) := by decide +kernel
set_option maxRecDepth 100000 in
theorem dl_1097 : dk code 1097 = some (.aload_n 0) := by decide +kernel
set_option maxRecDepth 100000 in
theorem dl_1098 : dk code 1098 = some (.iload_n 3) := by decide +kernel
set_option maxRecDepth 100000 in
theorem dl_1099 : dk code 1099 = some (.iconst 2) := by decide +kernel
set_option maxRecDepth 100000 in
theorem dl_1100 : dk code 1100 = some (.iadd) := by decide +kernel
set_option maxRecDepth 100000 in
theorem dl_1101 : dk code 1101 = some (.iaload) := by decide +kernel
set_option maxRecDepth 100000 in
theorem dl_1102 : dk code 1102 = some (.invokevirtual 98) := by decide +kernel
set_option maxRecDepth 100000 in
theorem dl_1105 : dk code 1105 = some (.aload_n 2) := by decide +kernel
set_option maxRecDepth 100000 in
theorem dl_1106 : dk code 1106 = some (.aload_n 0) := by decide +kernel
set_option maxRecDepth 100000 in
theorem dl_1107 : dk code 1107 = some (.iload_n 3) := by decide +kernel
set_option maxRecDepth 100000 in
theorem dl_1108 : dk code 1108 = some (.iconst 1) := by decide +kernel
set_option maxRecDepth 100000 in
theorem dl_1109 : dk code 1109 = some (.iadd) := by decide +kernel
set_option maxRecDepth 100000 in
theorem dl_1110 : dk code 1110 = some (.iaload) := by decide +kernel
set_option maxRecDepth 100000 in
theorem dl_1111 : dk code 1111 = some (.aload_n 0) := by decide +kernel
set_option maxRecDepth 100000 in
theorem dl_1112 : dk code 1112 = some (.iload_n 3) := by decide +kernel
set_option maxRecDepth 100000 in
theorem dl_1113 : dk code 1113 = some (.iconst 2) := by decide +kernel
set_option maxRecDepth 100000 in
theorem dl_1114 : dk code 1114 = some (.iadd) := by decide +kernel
set_option maxRecDepth 100000 in
theorem dl_1115 : dk code 1115 = some (.iaload) := by decide +kernel
set_option maxRecDepth 100000 in
theorem dl_1116 : dk code 1116 = some (.invokevirtual 101) := by decide +kernel
set_option maxRecDepth 100000 in
theorem dl_1119 : dk code 1119 = some (.if_icmp .eq 996) := by decide +kernel
set_option maxRecDepth 100000 in
theorem dl_1122 : dk code 1122 = some (.iconst 0) := by decide +kernel
set_option maxRecDepth 100000 in
theorem dl_1123 : dk code 1123 = some (.ireturn) := by decide +kernel
set_option maxRecDepth 100000 in
theorem dl_1124 : dk code 1124 = some (.aload_n 1) := by decide +kernel
set_option maxRecDepth 100000 in
theorem dl_1125 : dk code 1125 = some (.aload_n 0) := by decide +kernel
set_option maxRecDepth 100000 in
theorem dl_1126 : dk code 1126 = some (.iload_n 3) := by decide +kernel
set_option maxRecDepth 100000 in
theorem dl_1127 : dk code 1127 = some (.iconst 1) := by decide +kernel
set_option maxRecDepth 100000 in
theorem dl_1128 : dk code 1128 = some (.iadd) := by decide +kernel
set_option maxRecDepth 100000 in
theorem dl_1129 : dk code 1129 = some (.iaload) := by decide +kernel
set_option maxRecDepth 100000 in
theorem dl_1130 : dk code 1130 = some (.aload_n 0) := by decide +kernel
set_option maxRecDepth 100000 in
theorem dl_1131 : dk code 1131 = some (.iload_n 3) := by decide +kernel
set_option maxRecDepth 100000 in
theorem dl_1132 : dk code 1132 = some (.iconst 2) := by decide +kernel
set_option maxRecDepth 100000 in
theorem dl_1133 : dk code 1133 = some (.iadd) := by decide +kernel
set_option maxRecDepth 100000 in
theorem dl_1134 : dk code 1134 = some (.iaload) := by decide +kernel
set_option maxRecDepth 100000 in
theorem dl_1135 : dk code 1135 = some (.invokevirtual 102) := by decide +kernel
set_option maxRecDepth 100000 in
theorem dl_1138 : dk code 1138 = some (.aload_n 2) := by decide +kernel
set_option maxRecDepth 100000 in
theorem dl_1139 : dk code 1139 = some (.aload_n 0) := by decide +kernel
set_option maxRecDepth 100000 in
theorem dl_1140 : dk code 1140 = some (.iload_n 3) := by decide +kernel
set_option maxRecDepth 100000 in
theorem dl_1141 : dk code 1141 = some (.iconst 1) := by decide +kernel
set_option maxRecDepth 100000 in
theorem dl_1142 : dk code 1142 = some (.iadd) := by decide +kernel
set_option maxRecDepth 100000 in
theorem dl_1143 : dk code 1143 = some (.iaload) := by decide +kernel
set_option maxRecDepth 100000 in
theorem dl_1144 : dk code 1144 = some (.aload_n 0) := by decide +kernel
set_option maxRecDepth 100000 in
theorem dl_1145 : dk code 1145 = some (.iload_n 3) := by decide +kernel
set_option maxRecDepth 100000 in
theorem dl_1146 : dk code 1146 = some (.iconst 2) := by decide +kernel
set_option maxRecDepth 100000 in
theorem dl_1147 : dk code 1147 = some (.iadd) := by decide +kernel
set_option maxRecDepth 100000 in
theorem dl_1148 : dk code 1148 = some (.iaload) := by decide +kernel
set_option maxRecDepth 100000 in
theorem dl_1149 : dk code 1149 = some (.invokevirtual 105) := by decide +kernel
set_option maxRecDepth 100000 in
theorem dl_1152 : dk code 1152 = some (.if_icmp .eq 963) := by decide +kernel
set_option maxRecDepth 100000 in
theorem dl_1155 : dk code 1155 = some (.iconst 0) := by decide +kernel
set_option maxRecDepth 100000 in
theorem dl_1156 : dk code 1156 = some (.ireturn) := by decide +kernel
set_option maxRecDepth 100000 in
theorem dl_1157 : dk code 1157 = some (.aload_n 1) := by decide +kernel
set_option maxRecDepth 100000 in
theorem dl_1158 : dk code 1158 = some (.aload_n 0) := by decide +kernel
set_option maxRecDepth 100000 in
theorem dl_1159 : dk code 1159 = some (.iload_n 3) := by decide +kernel
set_option maxRecDepth 100000 in
theorem dl_1160 : dk code 1160 = some (.iconst 1) := by decide +kernel
set_option maxRecDepth 100000 in
theorem dl_1161 : dk code 1161 = some (.iadd) := by decide +kernel
set_option maxRecDepth 100000 in
theorem dl_1162 : dk code 1162 = some (.iaload) := by decide +kernel
set_option maxRecDepth 100000 in
theorem dl_1163 : dk code 1163 = some (.aload_n 0) := by decide +kernel
set_option maxRecDepth 100000 in
theorem dl_1164 : dk code 1164 = some (.iload_n 3) := by decide +kernel
set_option maxRecDepth 100000 in
theorem dl_1165 : dk code 1165 = some (.iconst 2) := by decide +kernel
set_option maxRecDepth 100000 in
theorem dl_1166 : dk code 1166 = some (.iadd) := by decide +kernel
set_option maxRecDepth 100000 in
theorem dl_1167 : dk code 1167 = some (.iaload) := by decide +kernel
set_option maxRecDepth 100000 in
theorem dl_1168 : dk code 1168 = some (.invokevirtual 106) := by decide +kernel
set_option maxRecDepth 100000 in
theorem dl_1171 : dk code 1171 = some (.aload_n 2) := by decide +kernel
set_option maxRecDepth 100000 in
theorem dl_1172 : dk code 1172 = some (.aload_n 0) := by decide +kernel
set_option maxRecDepth 100000 in
theorem dl_1173 : dk code 1173 = some (.iload_n 3) := by decide +kernel
set_option maxRecDepth 100000 in
theorem dl_1174 : dk code 1174 = some (.iconst 1) := by decide +kernel
set_option maxRecDepth 100000 in
theorem dl_1175 : dk code 1175 = some (.iadd) := by decide +kernel
set_option maxRecDepth 100000 in
theorem dl_1176 : dk code 1176 = some (.iaload) := by decide +kernel
set_option maxRecDepth 100000 in
theorem dl_1177 : dk code 1177 = some (.aload_n 0) := by decide +kernel
set_option maxRecDepth 100000 in
theorem dl_1178 : dk code 1178 = some (.iload_n 3) := by decide +kernel
set_option maxRecDepth 100000 in
theorem dl_1179 : dk code 1179 = some (.iconst 2) := by decide +kernel
set_option maxRecDepth 100000 in
theorem dl_1180 : dk code 1180 = some (.iadd) := by decide +kernel
set_option maxRecDepth 100000 in
theorem dl_1181 : dk code 1181 = some (.iaload) := by decide +kernel
set_option maxRecDepth 100000 in
theorem dl_1182 : dk code 1182 = some (.invokevirtual 109) := by decide +kernel
set_option maxRecDepth 100000 in
theorem dl_1185 : dk code 1185 = some (.if_icmp .eq 930) := by decide +kernel
set_option maxRecDepth 100000 in
theorem dl_1188 : dk code 1188 = some (.iconst 0) := by decide +kernel
set_option maxRecDepth 100000 in
theorem dl_1189 : dk code 1189 = some (.ireturn) := by decide +kernel
set_option maxRecDepth 100000 in
theorem dl_1190 : dk code 1190 = some (.aload_n 1) := by decide +kernel
set_option maxRecDepth 100000 in
theorem dl_1191 : dk code 1191 = some (.aload_n 0) := by decide +kernel
set_option maxRecDepth 100000 in
theorem dl_1192 : dk code 1192 = some (.iload_n 3) := by decide +kernel
set_option maxRecDepth 100000 in
theorem dl_1193 : dk code 1193 = some (.iconst 1) := by decide +kernel
set_option maxRecDepth 100000 in
theorem dl_1194 : dk code 1194 = some (.iadd) := by decide +kernel
set_option maxRecDepth 100000 in
theorem dl_1195 : dk code 1195 = some (.iaload) := by decide +kernel
set_option maxRecDepth 100000 in
theorem dl_1196 : dk code 1196 = some (.aload_n 0) := by decide +kernel
set_option maxRecDepth 100000 in
theorem dl_1197 : dk code 1197 = some (.iload_n 3) := by decide +kernel
set_option maxRecDepth 100000 in
theorem dl_1198 : dk code 1198 = some (.iconst 2) := by decide +kernel
set_option maxRecDepth 100000 in
theorem dl_1199 : dk code 1199 = some (.iadd) := by decide +kernel
set_option maxRecDepth 100000 in
theorem dl_1200 : dk code 1200 = some (.iaload) := by decide +kernel
set_option maxRecDepth 100000 in
theorem dl_1201 : dk code 1201 = some (.invokevirtual 110) := by decide +kernel
set_option maxRecDepth 100000 in
theorem dl_1204 : dk code 1204 = some (.aload_n 2) := by decide +kernel
set_option maxRecDepth 100000 in
theorem dl_1205 : dk code 1205 = some (.aload_n 0) := by decide +kernel
set_option maxRecDepth 100000 in
theorem dl_1206 : dk code 1206 = some (.iload_n 3) := by decide +kernel
set_option maxRecDepth 100000 in
theorem dl_1207 : dk code 1207 = some (.iconst 1) := by decide +kernel
set_option maxRecDepth 100000 in
theorem dl_1208 : dk code 1208 = some (.iadd) := by decide +kernel
set_option maxRecDepth 100000 in
theorem dl_1209 : dk code 1209 = some (.iaload) := by decide +kernel
set_option maxRecDepth 100000 in
theorem dl_1210 : dk code 1210 = some (.aload_n 0) := by decide +kernel
set_option maxRecDepth 100000 in
theorem dl_1211 : dk code 1211 = some (.iload_n 3) := by decide +kernel
set_option maxRecDepth 100000 in
theorem dl_1212 : dk code 1212 = some (.iconst 2) := by decide +kernel
set_option maxRecDepth 100000 in
theorem dl_1213 : dk code 1213 = some (.iadd) := by decide +kernel
set_option maxRecDepth 100000 in
theorem dl_1214 : dk code 1214 = some (.iaload) := by decide +kernel
set_option maxRecDepth 100000 in
theorem dl_1215 : dk code 1215 = some (.invokevirtual 113) := by decide +kernel
set_option maxRecDepth 100000 in
theorem dl_1218 : dk code 1218 = some (.if_icmp .eq 897) := by decide +kernel
set_option maxRecDepth 100000 in
theorem dl_1221 : dk code 1221 = some (.iconst 0) := by decide +kernel
set_option maxRecDepth 100000 in
theorem dl_1222 : dk code 1222 = some (.ireturn) := by decide +kernel
set_option maxRecDepth 100000 in
theorem dl_1223 : dk code 1223 = some (.aload_n 1) := by decide +kernel
set_option maxRecDepth 100000 in
theorem dl_1224 : dk code 1224 = some (.invokevirtual 114) := by decide +kernel
set_option maxRecDepth 100000 in
theorem dl_1227 : dk code 1227 = some (.aload_n 2) := by decide +kernel
set_option maxRecDepth 100000 in
theorem dl_1228 : dk code 1228 = some (.invokevirtual 118) := by decide +kernel
set_option maxRecDepth 100000 in
theorem dl_1231 : dk code 1231 = some (.if_icmp .eq 884) := by decide +kernel
set_option maxRecDepth 100000 in
theorem dl_1234 : dk code 1234 = some (.iconst 0) := by decide +kernel
set_option maxRecDepth 100000 in
theorem dl_1235 : dk code 1235 = some (.ireturn) := by decide +kernel
set_option maxRecDepth 100000 in
theorem dl_1236 : dk code 1236 = some (.aload_n 1) := by decide +kernel
set_option maxRecDepth 100000 in
theorem dl_1237 : dk code 1237 = some (.aload_n 0) := by decide +kernel
set_option maxRecDepth 100000 in
theorem dl_1238 : dk code 1238 = some (.iload_n 3) := by decide +kernel
set_option maxRecDepth 100000 in
theorem dl_1239 : dk code 1239 = some (.iconst 1) := by decide +kernel
set_option maxRecDepth 100000 in
theorem dl_1240 : dk code 1240 = some (.iadd) := by decide +kernel
set_option maxRecDepth 100000 in
theorem dl_1241 : dk code 1241 = some (.iaload) := by decide +kernel
set_option maxRecDepth 100000 in
theorem dl_1242 : dk code 1242 = some (.aload_n 0) := by decide +kernel
set_option maxRecDepth 100000 in
theorem dl_1243 : dk code 1243 = some (.iload_n 3) := by decide +kernel
set_option maxRecDepth 100000 in
theorem dl_1244 : dk code 1244 = some (.iconst 2) := by decide +kernel
set_option maxRecDepth 100000 in
theorem dl_1245 : dk code 1245 = some (.iadd) := by decide +kernel
set_option maxRecDepth 100000 in
theorem dl_1246 : dk code 1246 = some (.iaload) := by decide +kernel
set_option maxRecDepth 100000 in
theorem dl_1247 : dk code 1247 = some (.aload_n 0) := by decide +kernel
set_option maxRecDepth 100000 in
theorem dl_1248 : dk code 1248 = some (.iload_n 3) := by decide +kernel
set_option maxRecDepth 100000 in
theorem dl_1249 : dk code 1249 = some (.iconst 3) := by decide +kernel
set_option maxRecDepth 100000 in
theorem dl_1250 : dk code 1250 = some (.iadd) := by decide +kernel
set_option maxRecDepth 100000 in
theorem dl_1251 : dk code 1251 = some (.iaload) := by decide +kernel
set_option maxRecDepth 100000 in
theorem dl_1252 : dk code 1252 = some (.ifCond .eq 7) := by decide +kernel
set_option maxRecDepth 100000 in
theorem dl_1255 : dk code 1255 = some (.iconst 1) := by decide +kernel
set_option maxRecDepth 100000 in
theorem dl_1256 : dk code 1256 = some (.goto 4) := by decide +kernel
set_option maxRecDepth 100000 in
theorem dl_1259 : dk code 1259 = some (.iconst 0) := by decide +kernel
set_option maxRecDepth 100000 in
theorem dl_1260 : dk code 1260 = some (.invokevirtual 119) := by decide +kernel
set_option maxRecDepth 100000 in
theorem dl_1263 : dk code 1263 = some (.aload_n 2) := by decide +kernel
set_option maxRecDepth 100000 in
theorem dl_1264 : dk code 1264 = some (.aload_n 0) := by decide +kernel
set_option maxRecDepth 100000 in
theorem dl_1265 : dk code 1265 = some (.iload_n 3) := by decide +kernel
set_option maxRecDepth 100000 in
theorem dl_1266 : dk code 1266 = some (.iconst 1) := by decide +kernel
set_option maxRecDepth 100000 in
theorem dl_1267 : dk code 1267 = some (.iadd) := by decide +kernel
set_option maxRecDepth 100000 in
theorem dl_1268 : dk code 1268 = some (.iaload) := by decide +kernel
set_option maxRecDepth 100000 in
theorem dl_1269 : dk code 1269 = some (.aload_n 0) := by decide +kernel
set_option maxRecDepth 100000 in
theorem dl_1270 : dk code 1270 = some (.iload_n 3) := by decide +kernel
set_option maxRecDepth 100000 in
theorem dl_1271 : dk code 1271 = some (.iconst 2) := by decide +kernel
set_option maxRecDepth 100000 in
theorem dl_1272 : dk code 1272 = some (.iadd) := by decide +kernel
set_option maxRecDepth 100000 in
theorem dl_1273 : dk code 1273 = some (.iaload) := by decide +kernel
set_option maxRecDepth 100000 in
theorem dl_1274 : dk code 1274 = some (.aload_n 0) := by decide +kernel
set_option maxRecDepth 100000 in
theorem dl_1275 : dk code 1275 = some (.iload_n 3) := by decide +kernel
set_option maxRecDepth 100000 in
theorem dl_1276 : dk code 1276 = some (.iconst 3) := by decide +kernel
set_option maxRecDepth 100000 in
theorem dl_1277 : dk code 1277 = some (.iadd) := by decide +kernel
set_option maxRecDepth 100000 in
theorem dl_1278 : dk code 1278 = some (.iaload) := by decide +kernel
set_option maxRecDepth 100000 in
theorem dl_1279 : dk code 1279 = some (.ifCond .eq 7) := by decide +kernel
set_option maxRecDepth 100000 in
theorem dl_1282 : dk code 1282 = some (.iconst 1) := by decide +kernel
set_option maxRecDepth 100000 in
theorem dl_1283 : dk code 1283 = some (.goto 4) := by decide +kernel
set_option maxRecDepth 100000 in
theorem dl_1286 : dk code 1286 = some (.iconst 0) := by decide +kernel
set_option maxRecDepth 100000 in
theorem dl_1287 : dk code 1287 = some (.invokevirtual 122) := by decide +kernel
set_option maxRecDepth 100000 in
theorem dl_1290 : dk code 1290 = some (.if_icmp .eq 825) := by decide +kernel
set_option maxRecDepth 100000 in
theorem dl_1293 : dk code 1293 = some (.iconst 0) := by decide +kernel
set_option maxRecDepth 100000 in
theorem dl_1294 : dk code 1294 = some (.ireturn) := by decide +kernel
set_option maxRecDepth 100000 in
theorem dl_1295 : dk code 1295 = some (.aload_n 1) := by decide +kernel
set_option maxRecDepth 100000 in
theorem dl_1296 : dk code 1296 = some (.aload_n 0) := by decide +kernel
set_option maxRecDepth 100000 in
theorem dl_1297 : dk code 1297 = some (.iload_n 3) := by decide +kernel
set_option maxRecDepth 100000 in
theorem dl_1298 : dk code 1298 = some (.iconst 1) := by decide +kernel
set_option maxRecDepth 100000 in
theorem dl_1299 : dk code 1299 = some (.iadd) := by decide +kernel
set_option maxRecDepth 100000 in
theorem dl_1300 : dk code 1300 = some (.iaload) := by decide +kernel
set_option maxRecDepth 100000 in
theorem dl_1301 : dk code 1301 = some (.aload_n 0) := by decide +kernel
set_option maxRecDepth 100000 in
theorem dl_1302 : dk code 1302 = some (.iload_n 3) := by decide +kernel
set_option maxRecDepth 100000 in
theorem dl_1303 : dk code 1303 = some (.iconst 2) := by decide +kernel
set_option maxRecDepth 100000 in
theorem dl_1304 : dk code 1304 = some (.iadd) := by decide +kernel
set_option maxRecDepth 100000 in
theorem dl_1305 : dk code 1305 = some (.iaload) := by decide +kernel
set_option maxRecDepth 100000 in
theorem dl_1306 : dk code 1306 = some (.aload_n 0) := by decide +kernel
set_option maxRecDepth 100000 in
theorem dl_1307 : dk code 1307 = some (.iload_n 3) := by decide +kernel
set_option maxRecDepth 100000 in
theorem dl_1308 : dk code 1308 = some (.iconst 3) := by decide +kernel
set_option maxRecDepth 100000 in
theorem dl_1309 : dk code 1309 = some (.iadd) := by decide +kernel
set_option maxRecDepth 100000 in
theorem dl_1310 : dk code 1310 = some (.iaload) := by decide +kernel
set_option maxRecDepth 100000 in
theorem dl_1311 : dk code 1311 = some (.aload_n 0) := by decide +kernel
set_option maxRecDepth 100000 in
theorem dl_1312 : dk code 1312 = some (.iload_n 3) := by decide +kernel
set_option maxRecDepth 100000 in
theorem dl_1313 : dk code 1313 = some (.iconst 4) := by decide +kernel
set_option maxRecDepth 100000 in
theorem dl_1314 : dk code 1314 = some (.iadd) := by decide +kernel
set_option maxRecDepth 100000 in
theorem dl_1315 : dk code 1315 = some (.iaload) := by decide +kernel
set_option maxRecDepth 100000 in
theorem dl_1316 : dk code 1316 = some (.invokevirtual 123) := by decide +kernel
set_option maxRecDepth 100000 in
theorem dl_1319 : dk code 1319 = some (.aload_n 2) := by decide +kernel
set_option maxRecDepth 100000 in
theorem dl_1320 : dk code 1320 = some (.aload_n 0) := by decide +kernel
set_option maxRecDepth 100000 in
theorem dl_1321 : dk code 1321 = some (.iload_n 3) := by decide +kernel
set_option maxRecDepth 100000 in
theorem dl_1322 : dk code 1322 = some (.iconst 1) := by decide +kernel
set_option maxRecDepth 100000 in
theorem dl_1323 : dk code 1323 = some (.iadd) := by decide +kernel
set_option maxRecDepth 100000 in
theorem dl_1324 : dk code 1324 = some (.iaload) := by decide +kernel
set_option maxRecDepth 100000 in
theorem dl_1325 : dk code 1325 = some (.aload_n 0) := by decide +kernel
set_option maxRecDepth 100000 in
theorem dl_1326 : dk code 1326 = some (.iload_n 3) := by decide +kernel
set_option maxRecDepth 100000 in
theorem dl_1327 : dk code 1327 = some (.iconst 2) := by decide +kernel
set_option maxRecDepth 100000 in
theorem dl_1328 : dk code 1328 = some (.iadd) := by decide +kernel
set_option maxRecDepth 100000 in
theorem dl_1329 : dk code 1329 = some (.iaload) := by decide +kernel
set_option maxRecDepth 100000 in
theorem dl_1330 : dk code 1330 = some (.aload_n 0) := by decide +kernel
set_option maxRecDepth 100000 in
theorem dl_1331 : dk code 1331 = some (.iload_n 3) := by decide +kernel
set_option maxRecDepth 100000 in
theorem dl_1332 : dk code 1332 = some (.iconst 3) := by decide +kernel
set_option maxRecDepth 100000 in
theorem dl_1333 : dk code 1333 = some (.iadd) := by decide +kernel
set_option maxRecDepth 100000 in
theorem dl_1334 : dk code 1334 = some (.iaload) := by decide +kernel
set_option maxRecDepth 100000 in
theorem dl_1335 : dk code 1335 = some (.aload_n 0) := by decide +kernel
set_option maxRecDepth 100000 in
theorem dl_1336 : dk code 1336 = some (.iload_n 3) := by decide +kernel
set_option maxRecDepth 100000 in
theorem dl_1337 : dk code 1337 = some (.iconst 4) := by decide +kernel
set_option maxRecDepth 100000 in
theorem dl_1338 : dk code 1338 = some (.iadd) := by decide +kernel
set_option maxRecDepth 100000 in
theorem dl_1339 : dk code 1339 = some (.iaload) := by decide +kernel
set_option maxRecDepth 100000 in
theorem dl_1340 : dk code 1340 = some (.invokevirtual 126) := by decide +kernel
set_option maxRecDepth 100000 in
theorem dl_1343 : dk code 1343 = some (.if_icmp .eq 772) := by decide +kernel
set_option maxRecDepth 100000 in
theorem dl_1346 : dk code 1346 = some (.iconst 0) := by decide +kernel
set_option maxRecDepth 100000 in
theorem dl_1347 : dk code 1347 = some (.ireturn) := by decide +kernel
set_option maxRecDepth 100000 in
theorem dl_1348 : dk code 1348 = some (.aload_n 1) := by decide +kernel
set_option maxRecDepth 100000 in
theorem dl_1349 : dk code 1349 = some (.aload_n 0) := by decide +kernel
set_option maxRecDepth 100000 in
theorem dl_1350 : dk code 1350 = some (.iload_n 3) := by decide +kernel
set_option maxRecDepth 100000 in
theorem dl_1351 : dk code 1351 = some (.iconst 1) := by decide +kernel
set_option maxRecDepth 100000 in
theorem dl_1352 : dk code 1352 = some (.iadd) := by decide +kernel
set_option maxRecDepth 100000 in
theorem dl_1353 : dk code 1353 = some (.iaload) := by decide +kernel
set_option maxRecDepth 100000 in
theorem dl_1354 : dk code 1354 = some (.aload_n 0) := by decide +kernel
set_option maxRecDepth 100000 in
theorem dl_1355 : dk code 1355 = some (.iload_n 3) := by decide +kernel
set_option maxRecDepth 100000 in
theorem dl_1356 : dk code 1356 = some (.iconst 2) := by decide +kernel
set_option maxRecDepth 100000 in
theorem dl_1357 : dk code 1357 = some (.iadd) := by decide +kernel
set_option maxRecDepth 100000 in
theorem dl_1358 : dk code 1358 = some (.iaload) := by decide +kernel
set_option maxRecDepth 100000 in
theorem dl_1359 : dk code 1359 = some (.aload_n 0) := by decide +kernel
set_option maxRecDepth 100000 in
theorem dl_1360 : dk code 1360 = some (.iload_n 3) := by decide +kernel
set_option maxRecDepth 100000 in
theorem dl_1361 : dk code 1361 = some (.iconst 3) := by decide +kernel
set_option maxRecDepth 100000 in
theorem dl_1362 : dk code 1362 = some (.iadd) := by decide +kernel
set_option maxRecDepth 100000 in
theorem dl_1363 : dk code 1363 = some (.iaload) := by decide +kernel
set_option maxRecDepth 100000 in
theorem dl_1364 : dk code 1364 = some (.aload_n 0) := by decide +kernel
set_option maxRecDepth 100000 in
theorem dl_1365 : dk code 1365 = some (.iload_n 3) := by decide +kernel
set_option maxRecDepth 100000 in
theorem dl_1366 : dk code 1366 = some (.iconst 4) := by decide +kernel
set_option maxRecDepth 100000 in
theorem dl_1367 : dk code 1367 = some (.iadd) := by decide +kernel
set_option maxRecDepth 100000 in
theorem dl_1368 : dk code 1368 = some (.iaload) := by decide +kernel
set_option maxRecDepth 100000 in
theorem dl_1369 : dk code 1369 = some (.invokevirtual 127) := by decide +kernel
set_option maxRecDepth 100000 in
theorem dl_1372 : dk code 1372 = some (.aload_n 2) := by decide +kernel
set_option maxRecDepth 100000 in
theorem dl_1373 : dk code 1373 = some (.aload_n 0) := by decide +kernel
set_option maxRecDepth 100000 in
theorem dl_1374 : dk code 1374 = some (.iload_n 3) := by decide +kernel
set_option maxRecDepth 100000 in
theorem dl_1375 : dk code 1375 = some (.iconst 1) := by decide +kernel
set_option maxRecDepth 100000 in
theorem dl_1376 : dk code 1376 = some (.iadd) := by decide +kernel
set_option maxRecDepth 100000 in
theorem dl_1377 : dk code 1377 = some (.iaload) := by decide +kernel
set_option maxRecDepth 100000 in
theorem dl_1378 : dk code 1378 = some (.aload_n 0) := by decide +kernel
set_option maxRecDepth 100000 in
theorem dl_1379 : dk code 1379 = some (.iload_n 3) := by decide +kernel
set_option maxRecDepth 100000 in
theorem dl_1380 : dk code 1380 = some (.iconst 2) := by decide +kernel
set_option maxRecDepth 100000 in
theorem dl_1381 : dk code 1381 = some (.iadd) := by decide +kernel
set_option maxRecDepth 100000 in
theorem dl_1382 : dk code 1382 = some (.iaload) := by decide +kernel
set_option maxRecDepth 100000 in
theorem dl_1383 : dk code 1383 = some (.aload_n 0) := by decide +kernel
set_option maxRecDepth 100000 in
theorem dl_1384 : dk code 1384 = some (.iload_n 3) := by decide +kernel
set_option maxRecDepth 100000 in
theorem dl_1385 : dk code 1385 = some (.iconst 3) := by decide +kernel
set_option maxRecDepth 100000 in
theorem dl_1386 : dk code 1386 = some (.iadd) := by decide +kernel
set_option maxRecDepth 100000 in
theorem dl_1387 : dk code 1387 = some (.iaload) := by decide +kernel
set_option maxRecDepth 100000 in
theorem dl_1388 : dk code 1388 = some (.aload_n 0) := by decide +kernel
set_option maxRecDepth 100000 in
theorem dl_1389 : dk code 1389 = some (.iload_n 3) := by decide +kernel
set_option maxRecDepth 100000 in
theorem dl_1390 : dk code 1390 = some (.iconst 4) := by decide +kernel
set_option maxRecDepth 100000 in
theorem dl_1391 : dk code 1391 = some (.iadd) := by decide +kernel
set_option maxRecDepth 100000 in
theorem dl_1392 : dk code 1392 = some (.iaload) := by decide +kernel
set_option maxRecDepth 100000 in
theorem dl_1393 : dk code 1393 = some (.invokevirtual 130) := by decide +kernel
set_option maxRecDepth 100000 in
theorem dl_1396 : dk code 1396 = some (.if_icmp .eq 719) := by decide +kernel
set_option maxRecDepth 100000 in
theorem dl_1399 : dk code 1399 = some (.iconst 0) := by decide +kernel
set_option maxRecDepth 100000 in
theorem dl_1400 : dk code 1400 = some (.ireturn) := by decide +kernel
set_option maxRecDepth 100000 in
theorem dl_1401 : dk code 1401 = some (.aload_n 1) := by decide +kernel
set_option maxRecDepth 100000 in
theorem dl_1402 : dk code 1402 = some (.aload_n 0) := by decide +kernel
set_option maxRecDepth 100000 in
theorem dl_1403 : dk code 1403 = some (.iload_n 3) := by decide +kernel
set_option maxRecDepth 100000 in
theorem dl_1404 : dk code 1404 = some (.iconst 1) := by decide +kernel
set_option maxRecDepth 100000 in
theorem dl_1405 : dk code 1405 = some (.iadd) := by decide +kernel
set_option maxRecDepth 100000 in
theorem dl_1406 : dk code 1406 = some (.iaload) := by decide +kernel
set_option maxRecDepth 100000 in
theorem dl_1407 : dk code 1407 = some (.aload_n 0) := by decide +kernel
set_option maxRecDepth 100000 in
theorem dl_1408 : dk code 1408 = some (.iload_n 3) := by decide +kernel
set_option maxRecDepth 100000 in
theorem dl_1409 : dk code 1409 = some (.iconst 2) := by decide +kernel
set_option maxRecDepth 100000 in
theorem dl_1410 : dk code 1410 = some (.iadd) := by decide +kernel
set_option maxRecDepth 100000 in
theorem dl_1411 : dk code 1411 = some (.iaload) := by decide +kernel
set_option maxRecDepth 100000 in
theorem dl_1412 : dk code 1412 = some (.invokevirtual 131) := by decide +kernel
set_option maxRecDepth 100000 in
theorem dl_1415 : dk code 1415 = some (.aload_n 2) := by decide +kernel
set_option maxRecDepth 100000 in
theorem dl_1416 : dk code 1416 = some (.aload_n 0) := by decide +kernel
set_option maxRecDepth 100000 in
theorem dl_1417 : dk code 1417 = some (.iload_n 3) := by decide +kernel
set_option maxRecDepth 100000 in
theorem dl_1418 : dk code 1418 = some (.iconst 1) := by decide +kernel
set_option maxRecDepth 100000 in
theorem dl_1419 : dk code 1419 = some (.iadd) := by decide +kernel
set_option maxRecDepth 100000 in
theorem dl_1420 : dk code 1420 = some (.iaload) := by decide +kernel
set_option maxRecDepth 100000 in
theorem dl_1421 : dk code 1421 = some (.aload_n 0) := by decide +kernel
set_option maxRecDepth 100000 in
theorem dl_1422 : dk code 1422 = some (.iload_n 3) := by decide +kernel
set_option maxRecDepth 100000 in
theorem dl_1423 : dk code 1423 = some (.iconst 2) := by decide +kernel
set_option maxRecDepth 100000 in
theorem dl_1424 : dk code 1424 = some (.iadd) := by decide +kernel
set_option maxRecDepth 100000 in
theorem dl_1425 : dk code 1425 = some (.iaload) := by decide +kernel
set_option maxRecDepth 100000 in
theorem dl_1426 : dk code 1426 = some (.invokevirtual 134) := by decide +kernel
set_option maxRecDepth 100000 in
theorem dl_1429 : dk code 1429 = some (.if_icmp .eq 686) := by decide +kernel
set_option maxRecDepth 100000 in
theorem dl_1432 : dk code 1432 = some (.iconst 0) := by decide +kernel
set_option maxRecDepth 100000 in
theorem dl_1433 : dk code 1433 = some (.ireturn) := by decide +kernel
set_option maxRecDepth 100000 in
theorem dl_1434 : dk code 1434 = some (.aload_n 1) := by decide +kernel
set_option maxRecDepth 100000 in
theorem dl_1435 : dk code 1435 = some (.aload_n 0) := by decide +kernel
set_option maxRecDepth 100000 in
theorem dl_1436 : dk code 1436 = some (.iload_n 3) := by decide +kernel
set_option maxRecDepth 100000 in
theorem dl_1437 : dk code 1437 = some (.iconst 1) := by decide +kernel
set_option maxRecDepth 100000 in
theorem dl_1438 : dk code 1438 = some (.iadd) := by decide +kernel
set_option maxRecDepth 100000 in
theorem dl_1439 : dk code 1439 = some (.iaload) := by decide +kernel
set_option maxRecDepth 100000 in
theorem dl_1440 : dk code 1440 = some (.aload_n 0) := by decide +kernel
set_option maxRecDepth 100000 in
theorem dl_1441 : dk code 1441 = some (.iload_n 3) := by decide +kernel
set_option maxRecDepth 100000 in
theorem dl_1442 : dk code 1442 = some (.iconst 2) := by decide +kernel
set_option maxRecDepth 100000 in
theorem dl_1443 : dk code 1443 = some (.iadd) := by decide +kernel
set_option maxRecDepth 100000 in
theorem dl_1444 : dk code 1444 = some (.iaload) := by decide +kernel
set_option maxRecDepth 100000 in
theorem dl_1445 : dk code 1445 = some (.invokevirtual 135) := by decide +kernel
set_option maxRecDepth 100000 in
theorem dl_1448 : dk code 1448 = some (.aload_n 2) := by decide +kernel
set_option maxRecDepth 100000 in
theorem dl_1449 : dk code 1449 = some (.aload_n 0) := by decide +kernel
set_option maxRecDepth 100000 in
theorem dl_1450 : dk code 1450 = some (.iload_n 3) := by decide +kernel
set_option maxRecDepth 100000 in
theorem dl_1451 : dk code 1451 = some (.iconst 1) := by decide +kernel
set_option maxRecDepth 100000 in
theorem dl_1452 : dk code 1452 = some (.iadd) := by decide +kernel
set_option maxRecDepth 100000 in
theorem dl_1453 : dk code 1453 = some (.iaload) := by decide +kernel
set_option maxRecDepth 100000 in
theorem dl_1454 : dk code 1454 = some (.aload_n 0) := by decide +kernel
set_option maxRecDepth 100000 in
theorem dl_1455 : dk code 1455 = some (.iload_n 3) := by decide +kernel
set_option maxRecDepth 100000 in
theorem dl_1456 : dk code 1456 = some (.iconst 2) := by decide +kernel
set_option maxRecDepth 100000 in
theorem dl_1457 : dk code 1457 = some (.iadd) := by decide +kernel
set_option maxRecDepth 100000 in
theorem dl_1458 : dk code 1458 = some (.iaload) := by decide +kernel
set_option maxRecDepth 100000 in
theorem dl_1459 : dk code 1459 = some (.invokevirtual 138) := by decide +kernel
set_option maxRecDepth 100000 in
theorem dl_1462 : dk code 1462 = some (.if_icmp .eq 653) := by decide +kernel
set_option maxRecDepth 100000 in
theorem dl_1465 : dk code 1465 = some (.iconst 0) := by decide +kernel
set_option maxRecDepth 100000 in
theorem dl_1466 : dk code 1466 = some (.ireturn) := by decide +kernel
set_option maxRecDepth 100000 in
theorem dl_1467 : dk code 1467 = some (.aload_n 1) := by decide +kernel
set_option maxRecDepth 100000 in
theorem dl_1468 : dk code 1468 = some (.aload_n 0) := by decide +kernel
set_option maxRecDepth 100000 in
theorem dl_1469 : dk code 1469 = some (.iload_n 3) := by decide +kernel
set_option maxRecDepth 100000 in
theorem dl_1470 : dk code 1470 = some (.iconst 1) := by decide +kernel
set_option maxRecDepth 100000 in
theorem dl_1471 : dk code 1471 = some (.iadd) := by decide +kernel
set_option maxRecDepth 100000 in
theorem dl_1472 : dk code 1472 = some (.iaload) := by decide +kernel
set_option maxRecDepth 100000 in
theorem dl_1473 : dk code 1473 = some (.invokevirtual 139) := by decide +kernel
set_option maxRecDepth 100000 in
theorem dl_1476 : dk code 1476 = some (.aload_n 2) := by decide +kernel
set_option maxRecDepth 100000 in
theorem dl_1477 : dk code 1477 = some (.aload_n 0) := by decide +kernel
set_option maxRecDepth 100000 in
theorem dl_1478 : dk code 1478 = some (.iload_n 3) := by decide +kernel
set_option maxRecDepth 100000 in
theorem dl_1479 : dk code 1479 = some (.iconst 1) := by decide +kernel
set_option maxRecDepth 100000 in
theorem dl_1480 : dk code 1480 = some (.iadd) := by decide +kernel
set_option maxRecDepth 100000 in
theorem dl_1481 : dk code 1481 = some (.iaload) := by decide +kernel
set_option maxRecDepth 100000 in
theorem dl_1482 : dk code 1482 = some (.invokevirtual 142) := by decide +kernel
set_option maxRecDepth 100000 in
theorem dl_1485 : dk code 1485 = some (.if_icmp .eq 630) := by decide +kernel
set_option maxRecDepth 100000 in
theorem dl_1488 : dk code 1488 = some (.iconst 0) := by decide +kernel
set_option maxRecDepth 100000 in
theorem dl_1489 : dk code 1489 = some (.ireturn) := by decide +kernel
set_option maxRecDepth 100000 in
theorem dl_1490 : dk code 1490 = some (.aload_n 1) := by decide +kernel
set_option maxRecDepth 100000 in
theorem dl_1491 : dk code 1491 = some (.aload_n 0) := by decide +kernel
set_option maxRecDepth 100000 in
theorem dl_1492 : dk code 1492 = some (.iload_n 3) := by decide +kernel
set_option maxRecDepth 100000 in
theorem dl_1493 : dk code 1493 = some (.iconst 1) := by decide +kernel
set_option maxRecDepth 100000 in
theorem dl_1494 : dk code 1494 = some (.iadd) := by decide +kernel
set_option maxRecDepth 100000 in
theorem dl_1495 : dk code 1495 = some (.iaload) := by decide +kernel
set_option maxRecDepth 100000 in
theorem dl_1496 : dk code 1496 = some (.aload_n 0) := by decide +kernel
set_option maxRecDepth 100000 in
theorem dl_1497 : dk code 1497 = some (.iload_n 3) := by decide +kernel
set_option maxRecDepth 100000 in
theorem dl_1498 : dk code 1498 = some (.iconst 2) := by decide +kernel
set_option maxRecDepth 100000 in
theorem dl_1499 : dk code 1499 = some (.iadd) := by decide +kernel
set_option maxRecDepth 100000 in
theorem dl_1500 : dk code 1500 = some (.iaload) := by decide +kernel
set_option maxRecDepth 100000 in
theorem dl_1501 : dk code 1501 = some (.aload_n 0) := by decide +kernel
set_option maxRecDepth 100000 in
theorem dl_1502 : dk code 1502 = some (.iload_n 3) := by decide +kernel
set_option maxRecDepth 100000 in
theorem dl_1503 : dk code 1503 = some (.iconst 3) := by decide +kernel
set_option maxRecDepth 100000 in
theorem dl_1504 : dk code 1504 = some (.iadd) := by decide +kernel
set_option maxRecDepth 100000 in
theorem dl_1505 : dk code 1505 = some (.iaload) := by decide +kernel
set_option maxRecDepth 100000 in
theorem dl_1506 : dk code 1506 = some (.invokevirtual 143) := by decide +kernel
set_option maxRecDepth 100000 in
theorem dl_1509 : dk code 1509 = some (.aload_n 2) := by decide +kernel
set_option maxRecDepth 100000 in
theorem dl_1510 : dk code 1510 = some (.aload_n 0) := by decide +kernel
set_option maxRecDepth 100000 in
theorem dl_1511 : dk code 1511 = some (.iload_n 3) := by decide +kernel
set_option maxRecDepth 100000 in
theorem dl_1512 : dk code 1512 = some (.iconst 1) := by decide +kernel
set_option maxRecDepth 100000 in
theorem dl_1513 : dk code 1513 = some (.iadd) := by decide +kernel
set_option maxRecDepth 100000 in
theorem dl_1514 : dk code 1514 = some (.iaload) := by decide +kernel
set_option maxRecDepth 100000 in
theorem dl_1515 : dk code 1515 = some (.aload_n 0) := by decide +kernel
set_option maxRecDepth 100000 in
theorem dl_1516 : dk code 1516 = some (.iload_n 3) := by decide +kernel
set_option maxRecDepth 100000 in
theorem dl_1517 : dk code 1517 = some (.iconst 2) := by decide +kernel
set_option maxRecDepth 100000 in
theorem dl_1518 : dk code 1518 = some (.iadd) := by decide +kernel
set_option maxRecDepth 100000 in
theorem dl_1519 : dk code 1519 = some (.iaload) := by decide +kernel
set_option maxRecDepth 100000 in
theorem dl_1520 : dk code 1520 = some (.aload_n 0) := by decide +kernel
set_option maxRecDepth 100000 in
theorem dl_1521 : dk code 1521 = some (.iload_n 3) := by decide +kernel
set_option maxRecDepth 100000 in
theorem dl_1522 : dk code 1522 = some (.iconst 3) := by decide +kernel
set_option maxRecDepth 100000 in
theorem dl_1523 : dk code 1523 = some (.iadd) := by decide +kernel
set_option maxRecDepth 100000 in
theorem dl_1524 : dk code 1524 = some (.iaload) := by decide +kernel
set_option maxRecDepth 100000 in
theorem dl_1525 : dk code 1525 = some (.invokevirtual 146) := by decide +kernel
set_option maxRecDepth 100000 in
theorem dl_1528 : dk code 1528 = some (.if_icmp .eq 587) := by decide +kernel
set_option maxRecDepth 100000 in
theorem dl_1531 : dk code 1531 = some (.iconst 0) := by decide +kernel
set_option maxRecDepth 100000 in
theorem dl_1532 : dk code 1532 = some (.ireturn) := by decide +kernel
set_option maxRecDepth 100000 in
theorem dl_1533 : dk code 1533 = some (.aload_n 1) := by decide +kernel
set_option maxRecDepth 100000 in
theorem dl_1534 : dk code 1534 = some (.aload_n 0) := by decide +kernel
set_option maxRecDepth 100000 in
theorem dl_1535 : dk code 1535 = some (.iload_n 3) := by decide +kernel
set_option maxRecDepth 100000 in
theorem dl_1536 : dk code 1536 = some (.iconst 1) := by decide +kernel
set_option maxRecDepth 100000 in
theorem dl_1537 : dk code 1537 = some (.iadd) := by decide +kernel
set_option maxRecDepth 100000 in
theorem dl_1538 : dk code 1538 = some (.iaload) := by decide +kernel
set_option maxRecDepth 100000 in
theorem dl_1539 : dk code 1539 = some (.aload_n 0) := by decide +kernel
set_option maxRecDepth 100000 in
theorem dl_1540 : dk code 1540 = some (.iload_n 3) := by decide +kernel
set_option maxRecDepth 100000 in
theorem dl_1541 : dk code 1541 = some (.iconst 2) := by decide +kernel
set_option maxRecDepth 100000 in
theorem dl_1542 : dk code 1542 = some (.iadd) := by decide +kernel
set_option maxRecDepth 100000 in
theorem dl_1543 : dk code 1543 = some (.iaload) := by decide +kernel
set_option maxRecDepth 100000 in
theorem dl_1544 : dk code 1544 = some (.invokevirtual 147) := by decide +kernel
set_option maxRecDepth 100000 in
theorem dl_1547 : dk code 1547 = some (.aload_n 2) := by decide +kernel
set_option maxRecDepth 100000 in
theorem dl_1548 : dk code 1548 = some (.aload_n 0) := by decide +kernel
set_option maxRecDepth 100000 in
theorem dl_1549 : dk code 1549 = some (.iload_n 3) := by decide +kernel
set_option maxRecDepth 100000 in
theorem dl_1550 : dk code 1550 = some (.iconst 1) := by decide +kernel
set_option maxRecDepth 100000 in
theorem dl_1551 : dk code 1551 = some (.iadd) := by decide +kernel
set_option maxRecDepth 100000 in
theorem dl_1552 : dk code 1552 = some (.iaload) := by decide +kernel
set_option maxRecDepth 100000 in
theorem dl_1553 : dk code 1553 = some (.aload_n 0) := by decide +kernel
set_option maxRecDepth 100000 in
theorem dl_1554 : dk code 1554 = some (.iload_n 3) := by decide +kernel
set_option maxRecDepth 100000 in
theorem dl_1555 : dk code 1555 = some (.iconst 2) := by decide +kernel
set_option maxRecDepth 100000 in
theorem dl_1556 : dk code 1556 = some (.iadd) := by decide +kernel
set_option maxRecDepth 100000 in
theorem dl_1557 : dk code 1557 = some (.iaload) := by decide +kernel
set_option maxRecDepth 100000 in
theorem dl_1558 : dk code 1558 = some (.invokevirtual 150) := by decide +kernel
set_option maxRecDepth 100000 in
theorem dl_1561 : dk code 1561 = some (.if_icmp .eq 554) := by decide +kernel
set_option maxRecDepth 100000 in
theorem dl_1564 : dk code 1564 = some (.iconst 0) := by decide +kernel
set_option maxRecDepth 100000 in
theorem dl_1565 : dk code 1565 = some (.ireturn) := by decide +kernel
set_option maxRecDepth 100000 in
theorem dl_1566 : dk code 1566 = some (.aload_n 1) := by decide +kernel
set_option maxRecDepth 100000 in
theorem dl_1567 : dk code 1567 = some (.aload_n 0) := by decide +kernel
set_option maxRecDepth 100000 in
theorem dl_1568 : dk code 1568 = some (.iload_n 3) := by decide +kernel
set_option maxRecDepth 100000 in
theorem dl_1569 : dk code 1569 = some (.iconst 1) := by decide +kernel
set_option maxRecDepth 100000 in
theorem dl_1570 : dk code 1570 = some (.iadd) := by decide +kernel
set_option maxRecDepth 100000 in
theorem dl_1571 : dk code 1571 = some (.iaload) := by decide +kernel
set_option maxRecDepth 100000 in
theorem dl_1572 : dk code 1572 = some (.aload_n 0) := by decide +kernel
set_option maxRecDepth 100000 in
theorem dl_1573 : dk code 1573 = some (.iload_n 3) := by decide +kernel
set_option maxRecDepth 100000 in
theorem dl_1574 : dk code 1574 = some (.iconst 2) := by decide +kernel
set_option maxRecDepth 100000 in
theorem dl_1575 : dk code 1575 = some (.iadd) := by decide +kernel
set_option maxRecDepth 100000 in
theorem dl_1576 : dk code 1576 = some (.iaload) := by decide +kernel
set_option maxRecDepth 100000 in
theorem dl_1577 : dk code 1577 = some (.aload_n 0) := by decide +kernel
set_option maxRecDepth 100000 in
theorem dl_1578 : dk code 1578 = some (.iload_n 3) := by decide +kernel
set_option maxRecDepth 100000 in
theorem dl_1579 : dk code 1579 = some (.iconst 3) := by decide +kernel
set_option maxRecDepth 100000 in
theorem dl_1580 : dk code 1580 = some (.iadd) := by decide +kernel
set_option maxRecDepth 100000 in
theorem dl_1581 : dk code 1581 = some (.iaload) := by decide +kernel
set_option maxRecDepth 100000 in
theorem dl_1582 : dk code 1582 = some (.invokevirtual 151) := by decide +kernel
set_option maxRecDepth 100000 in
theorem dl_1585 : dk code 1585 = some (.aload_n 2) := by decide +kernel
set_option maxRecDepth 100000 in
theorem dl_1586 : dk code 1586 = some (.aload_n 0) := by decide +kernel
set_option maxRecDepth 100000 in
theorem dl_1587 : dk code 1587 = some (.iload_n 3) := by decide +kernel
set_option maxRecDepth 100000 in
theorem dl_1588 : dk code 1588 = some (.iconst 1) := by decide +kernel
set_option maxRecDepth 100000 in
theorem dl_1589 : dk code 1589 = some (.iadd) := by decide +kernel
set_option maxRecDepth 100000 in
theorem dl_1590 : dk code 1590 = some (.iaload) := by decide +kernel
set_option maxRecDepth 100000 in
theorem dl_1591 : dk code 1591 = some (.aload_n 0) := by decide +kernel
set_option maxRecDepth 100000 in
theorem dl_1592 : dk code 1592 = some (.iload_n 3) := by decide +kernel
set_option maxRecDepth 100000 in
theorem dl_1593 : dk code 1593 = some (.iconst 2) := by decide +kernel
set_option maxRecDepth 100000 in
theorem dl_1594 : dk code 1594 = some (.iadd) := by decide +kernel
set_option maxRecDepth 100000 in
theorem dl_1595 : dk code 1595 = some (.iaload) := by decide +kernel
set_option maxRecDepth 100000 in
theorem dl_1596 : dk code 1596 = some (.aload_n 0) := by decide +kernel
set_option maxRecDepth 100000 in
theorem dl_1597 : dk code 1597 = some (.iload_n 3) := by decide +kernel
set_option maxRecDepth 100000 in
theorem dl_1598 : dk code 1598 = some (.iconst 3) := by decide +kernel
set_option maxRecDepth 100000 in
theorem dl_1599 : dk code 1599 = some (.iadd) := by decide +kernel
set_option maxRecDepth 100000 in
theorem dl_1600 : dk code 1600 = some (.iaload) := by decide +kernel
set_option maxRecDepth 100000 in
theorem dl_1601 : dk code 1601 = some (.invokevirtual 154) := by decide +kernel
set_option maxRecDepth 100000 in
theorem dl_1604 : dk code 1604 = some (.if_icmp .eq 511) := by decide +kernel
set_option maxRecDepth 100000 in
theorem dl_1607 : dk code 1607 = some (.iconst 0) := by decide +kernel
set_option maxRecDepth 100000 in
theorem dl_1608 : dk code 1608 = some (.ireturn) := by decide +kernel
set_option maxRecDepth 100000 in
theorem dl_1609 : dk code 1609 = some (.aload_n 1) := by decide +kernel
set_option maxRecDepth 100000 in
theorem dl_1610 : dk code 1610 = some (.aload_n 0) := by decide +kernel
set_option maxRecDepth 100000 in
theorem dl_1611 : dk code 1611 = some (.iload_n 3) := by decide +kernel
set_option maxRecDepth 100000 in
theorem dl_1612 : dk code 1612 = some (.iconst 1) := by decide +kernel
set_option maxRecDepth 100000 in
theorem dl_1613 : dk code 1613 = some (.iadd) := by decide +kernel
set_option maxRecDepth 100000 in
theorem dl_1614 : dk code 1614 = some (.iaload) := by decide +kernel
set_option maxRecDepth 100000 in
theorem dl_1615 : dk code 1615 = some (.aload_n 0) := by decide +kernel
set_option maxRecDepth 100000 in
theorem dl_1616 : dk code 1616 = some (.iload_n 3) := by decide +kernel
set_option maxRecDepth 100000 in
theorem dl_1617 : dk code 1617 = some (.iconst 2) := by decide +kernel
set_option maxRecDepth 100000 in
theorem dl_1618 : dk code 1618 = some (.iadd) := by decide +kernel
set_option maxRecDepth 100000 in
theorem dl_1619 : dk code 1619 = some (.iaload) := by decide +kernel
set_option maxRecDepth 100000 in
theorem dl_1620 : dk code 1620 = some (.aload_n 0) := by decide +kernel
set_option maxRecDepth 100000 in
theorem dl_1621 : dk code 1621 = some (.iload_n 3) := by decide +kernel
set_option maxRecDepth 100000 in
theorem dl_1622 : dk code 1622 = some (.iconst 3) := by decide +kernel
set_option maxRecDepth 100000 in
theorem dl_1623 : dk code 1623 = some (.iadd) := by decide +kernel
set_option maxRecDepth 100000 in
theorem dl_1624 : dk code 1624 = some (.iaload) := by decide +kernel
set_option maxRecDepth 100000 in
theorem dl_1625 : dk code 1625 = some (.invokevirtual 155) := by decide +kernel
set_option maxRecDepth 100000 in
theorem dl_1628 : dk code 1628 = some (.aload_n 2) := by decide +kernel
set_option maxRecDepth 100000 in
theorem dl_1629 : dk code 1629 = some (.aload_n 0) := by decide +kernel
set_option maxRecDepth 100000 in
theorem dl_1630 : dk code 1630 = some (.iload_n 3) := by decide +kernel
set_option maxRecDepth 100000 in
theorem dl_1631 : dk code 1631 = some (.iconst 1) := by decide +kernel
set_option maxRecDepth 100000 in
theorem dl_1632 : dk code 1632 = some (.iadd) := by decide +kernel
set_option maxRecDepth 100000 in
theorem dl_1633 : dk code 1633 = some (.iaload) := by decide +kernel
set_option maxRecDepth 100000 in
theorem dl_1634 : dk code 1634 = some (.aload_n 0) := by decide +kernel
set_option maxRecDepth 100000 in
theorem dl_1635 : dk code 1635 = some (.iload_n 3) := by decide +kernel
set_option maxRecDepth 100000 in
theorem dl_1636 : dk code 1636 = some (.iconst 2) := by decide +kernel
set_option maxRecDepth 100000 in
theorem dl_1637 : dk code 1637 = some (.iadd) := by decide +kernel
set_option maxRecDepth 100000 in
theorem dl_1638 : dk code 1638 = some (.iaload) := by decide +kernel
set_option maxRecDepth 100000 in
theorem dl_1639 : dk code 1639 = some (.aload_n 0) := by decide +kernel
set_option maxRecDepth 100000 in
theorem dl_1640 : dk code 1640 = some (.iload_n 3) := by decide +kernel
set_option maxRecDepth 100000 in
theorem dl_1641 : dk code 1641 = some (.iconst 3) := by decide +kernel
set_option maxRecDepth 100000 in
theorem dl_1642 : dk code 1642 = some (.iadd) := by decide +kernel
set_option maxRecDepth 100000 in
theorem dl_1643 : dk code 1643 = some (.iaload) := by decide +kernel
set_option maxRecDepth 100000 in
theorem dl_1644 : dk code 1644 = some (.invokevirtual 158) := by decide +kernel
set_option maxRecDepth 100000 in
theorem dl_1647 : dk code 1647 = some (.if_icmp .eq 468) := by decide +kernel
set_option maxRecDepth 100000 in
theorem dl_1650 : dk code 1650 = some (.iconst 0) := by decide +kernel
set_option maxRecDepth 100000 in
theorem dl_1651 : dk code 1651 = some (.ireturn) := by decide +kernel
set_option maxRecDepth 100000 in
theorem dl_1652 : dk code 1652 = some (.aload_n 1) := by decide +kernel
set_option maxRecDepth 100000 in
theorem dl_1653 : dk code 1653 = some (.aload_n 0) := by decide +kernel
set_option maxRecDepth 100000 in
theorem dl_1654 : dk code 1654 = some (.iload_n 3) := by decide +kernel
set_option maxRecDepth 100000 in
theorem dl_1655 : dk code 1655 = some (.iconst 1) := by decide +kernel
set_option maxRecDepth 100000 in
theorem dl_1656 : dk code 1656 = some (.iadd) := by decide +kernel
set_option maxRecDepth 100000 in
theorem dl_1657 : dk code 1657 = some (.iaload) := by decide +kernel
set_option maxRecDepth 100000 in
theorem dl_1658 : dk code 1658 = some (.aload_n 0) := by decide +kernel
set_option maxRecDepth 100000 in
theorem dl_1659 : dk code 1659 = some (.iload_n 3) := by decide +kernel
set_option maxRecDepth 100000 in
theorem dl_1660 : dk code 1660 = some (.iconst 2) := by decide +kernel
set_option maxRecDepth 100000 in
theorem dl_1661 : dk code 1661 = some (.iadd) := by decide +kernel
set_option maxRecDepth 100000 in
theorem dl_1662 : dk code 1662 = some (.iaload) := by decide +kernel
set_option maxRecDepth 100000 in
theorem dl_1663 : dk code 1663 = some (.aload_n 0) := by decide +kernel
set_option maxRecDepth 100000 in
theorem dl_1664 : dk code 1664 = some (.iload_n 3) := by decide +kernel
set_option maxRecDepth 100000 in
theorem dl_1665 : dk code 1665 = some (.iconst 3) := by decide +kernel
set_option maxRecDepth 100000 in
theorem dl_1666 : dk code 1666 = some (.iadd) := by decide +kernel
set_option maxRecDepth 100000 in
theorem dl_1667 : dk code 1667 = some (.iaload) := by decide +kernel
set_option maxRecDepth 100000 in
theorem dl_1668 : dk code 1668 = some (.invokevirtual 159) := by decide +kernel
set_option maxRecDepth 100000 in
theorem dl_1671 : dk code 1671 = some (.aload_n 2) := by decide +kernel
set_option maxRecDepth 100000 in
theorem dl_1672 : dk code 1672 = some (.aload_n 0) := by decide +kernel
set_option maxRecDepth 100000 in
theorem dl_1673 : dk code 1673 = some (.iload_n 3) := by decide +kernel
set_option maxRecDepth 100000 in
theorem dl_1674 : dk code 1674 = some (.iconst 1) := by decide +kernel
set_option maxRecDepth 100000 in
theorem dl_1675 : dk code 1675 = some (.iadd) := by decide +kernel
set_option maxRecDepth 100000 in
theorem dl_1676 : dk code 1676 = some (.iaload) := by decide +kernel
set_option maxRecDepth 100000 in
theorem dl_1677 : dk code 1677 = some (.aload_n 0) := by decide +kernel
set_option maxRecDepth 100000 in
theorem dl_1678 : dk code 1678 = some (.iload_n 3) := by decide +kernel
set_option maxRecDepth 100000 in
theorem dl_1679 : dk code 1679 = some (.iconst 2) := by decide +kernel
set_option maxRecDepth 100000 in
theorem dl_1680 : dk code 1680 = some (.iadd) := by decide +kernel
set_option maxRecDepth 100000 in
theorem dl_1681 : dk code 1681 = some (.iaload) := by decide +kernel
set_option maxRecDepth 100000 in
theorem dl_1682 : dk code 1682 = some (.aload_n 0) := by decide +kernel
set_option maxRecDepth 100000 in
theorem dl_1683 : dk code 1683 = some (.iload_n 3) := by decide +kernel
set_option maxRecDepth 100000 in
theorem dl_1684 : dk code 1684 = some (.iconst 3) := by decide +kernel
set_option maxRecDepth 100000 in
theorem dl_1685 : dk code 1685 = some (.iadd) := by decide +kernel
set_option maxRecDepth 100000 in
theorem dl_1686 : dk code 1686 = some (.iaload) := by decide +kernel
set_option maxRecDepth 100000 in
theorem dl_1687 : dk code 1687 = some (.invokevirtual 162) := by decide +kernel
set_option maxRecDepth 100000 in
theorem dl_1690 : dk code 1690 = some (.if_icmp .eq 425) := by decide +kernel
set_option maxRecDepth 100000 in
theorem dl_1693 : dk code 1693 = some (.iconst 0) := by decide +kernel
set_option maxRecDepth 100000 in
theorem dl_1694 : dk code 1694 = some (.ireturn) := by decide +kernel
set_option maxRecDepth 100000 in
theorem dl_1695 : dk code 1695 = some (.aload_n 1) := by decide +kernel
set_option maxRecDepth 100000 in
theorem dl_1696 : dk code 1696 = some (.aload_n 0) := by decide +kernel
set_option maxRecDepth 100000 in
theorem dl_1697 : dk code 1697 = some (.iload_n 3) := by decide +kernel
set_option maxRecDepth 100000 in
theorem dl_1698 : dk code 1698 = some (.iconst 1) := by decide +kernel
set_option maxRecDepth 100000 in
theorem dl_1699 : dk code 1699 = some (.iadd) := by decide +kernel
set_option maxRecDepth 100000 in
theorem dl_1700 : dk code 1700 = some (.iaload) := by decide +kernel
set_option maxRecDepth 100000 in
theorem dl_1701 : dk code 1701 = some (.aload_n 0) := by decide +kernel
set_option maxRecDepth 100000 in
theorem dl_1702 : dk code 1702 = some (.iload_n 3) := by decide +kernel
set_option maxRecDepth 100000 in
theorem dl_1703 : dk code 1703 = some (.iconst 2) := by decide +kernel
set_option maxRecDepth 100000 in
theorem dl_1704 : dk code 1704 = some (.iadd) := by decide +kernel
set_option maxRecDepth 100000 in
theorem dl_1705 : dk code 1705 = some (.iaload) := by decide +kernel
set_option maxRecDepth 100000 in
theorem dl_1706 : dk code 1706 = some (.aload_n 0) := by decide +kernel
set_option maxRecDepth 100000 in
theorem dl_1707 : dk code 1707 = some (.iload_n 3) := by decide +kernel
set_option maxRecDepth 100000 in
theorem dl_1708 : dk code 1708 = some (.iconst 3) := by decide +kernel
set_option maxRecDepth 100000 in
theorem dl_1709 : dk code 1709 = some (.iadd) := by decide +kernel
set_option maxRecDepth 100000 in
theorem dl_1710 : dk code 1710 = some (.iaload) := by decide +kernel
set_option maxRecDepth 100000 in
theorem dl_1711 : dk code 1711 = some (.invokevirtual 163) := by decide +kernel
set_option maxRecDepth 100000 in
theorem dl_1714 : dk code 1714 = some (.aload_n 2) := by decide +kernel
set_option maxRecDepth 100000 in
theorem dl_1715 : dk code 1715 = some (.aload_n 0) := by decide +kernel
set_option maxRecDepth 100000 in
theorem dl_1716 : dk code 1716 = some (.iload_n 3) := by decide +kernel
set_option maxRecDepth 100000 in
theorem dl_1717 : dk code 1717 = some (.iconst 1) := by decide +kernel
set_option maxRecDepth 100000 in
theorem dl_1718 : dk code 1718 = some (.iadd) := by decide +kernel
set_option maxRecDepth 100000 in
theorem dl_1719 : dk code 1719 = some (.iaload) := by decide +kernel
set_option maxRecDepth 100000 in
theorem dl_1720 : dk code 1720 = some (.aload_n 0) := by decide +kernel
set_option maxRecDepth 100000 in
theorem dl_1721 : dk code 1721 = some (.iload_n 3) := by decide +kernel
set_option maxRecDepth 100000 in
theorem dl_1722 : dk code 1722 = some (.iconst 2) := by decide +kernel
set_option maxRecDepth 100000 in
theorem dl_1723 : dk code 1723 = some (.iadd) := by decide +kernel
set_option maxRecDepth 100000 in
theorem dl_1724 : dk code 1724 = some (.iaload) := by decide +kernel
set_option maxRecDepth 100000 in
theorem dl_1725 : dk code 1725 = some (.aload_n 0) := by decide +kernel
set_option maxRecDepth 100000 in
theorem dl_1726 : dk code 1726 = some (.iload_n 3) := by decide +kernel
set_option maxRecDepth 100000 in
theorem dl_1727 : dk code 1727 = some (.iconst 3) := by decide +kernel
set_option maxRecDepth 100000 in
theorem dl_1728 : dk code 1728 = some (.iadd) := by decide +kernel
set_option maxRecDepth 100000 in
theorem dl_1729 : dk code 1729 = some (.iaload) := by decide +kernel
set_option maxRecDepth 100000 in
theorem dl_1730 : dk code 1730 = some (.invokevirtual 166) := by decide +kernel
set_option maxRecDepth 100000 in
theorem dl_1733 : dk code 1733 = some (.if_icmp .eq 382) := by decide +kernel
set_option maxRecDepth 100000 in
theorem dl_1736 : dk code 1736 = some (.iconst 0) := by decide +kernel
set_option maxRecDepth 100000 in
theorem dl_1737 : dk code 1737 = some (.ireturn) := by decide +kernel
set_option maxRecDepth 100000 in
theorem dl_1738 : dk code 1738 = some (.aload_n 1) := by decide +kernel
set_option maxRecDepth 100000 in
theorem dl_1739 : dk code 1739 = some (.aload_n 0) := by decide +kernel
set_option maxRecDepth 100000 in
theorem dl_1740 : dk code 1740 = some (.iload_n 3) := by decide +kernel
set_option maxRecDepth 100000 in
theorem dl_1741 : dk code 1741 = some (.iconst 1) := by decide +kernel
set_option maxRecDepth 100000 in
theorem dl_1742 : dk code 1742 = some (.iadd) := by decide +kernel
set_option maxRecDepth 100000 in
theorem dl_1743 : dk code 1743 = some (.iaload) := by decide +kernel
set_option maxRecDepth 100000 in
theorem dl_1744 : dk code 1744 = some (.aload_n 0) := by decide +kernel
set_option maxRecDepth 100000 in
theorem dl_1745 : dk code 1745 = some (.iload_n 3) := by decide +kernel
set_option maxRecDepth 100000 in
theorem dl_1746 : dk code 1746 = some (.iconst 2) := by decide +kernel
set_option maxRecDepth 100000 in
theorem dl_1747 : dk code 1747 = some (.iadd) := by decide +kernel
set_option maxRecDepth 100000 in
theorem dl_1748 : dk code 1748 = some (.iaload) := by decide +kernel
set_option maxRecDepth 100000 in
theorem dl_1749 : dk code 1749 = some (.invokevirtual 167) := by decide +kernel
set_option maxRecDepth 100000 in
theorem dl_1752 : dk code 1752 = some (.aload_n 2) := by decide +kernel
set_option maxRecDepth 100000 in
theorem dl_1753 : dk code 1753 = some (.aload_n 0) := by decide +kernel
set_option maxRecDepth 100000 in
theorem dl_1754 : dk code 1754 = some (.iload_n 3) := by decide +kernel
set_option maxRecDepth 100000 in
theorem dl_1755 : dk code 1755 = some (.iconst 1) := by decide +kernel
set_option maxRecDepth 100000 in
theorem dl_1756 : dk code 1756 = some (.iadd) := by decide +kernel
set_option maxRecDepth 100000 in
theorem dl_1757 : dk code 1757 = some (.iaload) := by decide +kernel
set_option maxRecDepth 100000 in
theorem dl_1758 : dk code 1758 = some (.aload_n 0) := by decide +kernel
set_option maxRecDepth 100000 in
theorem dl_1759 : dk code 1759 = some (.iload_n 3) := by decide +kernel
set_option maxRecDepth 100000 in
theorem dl_1760 : dk code 1760 = some (.iconst 2) := by decide +kernel
set_option maxRecDepth 100000 in
theorem dl_1761 : dk code 1761 = some (.iadd) := by decide +kernel
set_option maxRecDepth 100000 in
theorem dl_1762 : dk code 1762 = some (.iaload) := by decide +kernel
set_option maxRecDepth 100000 in
theorem dl_1763 : dk code 1763 = some (.invokevirtual 170) := by decide +kernel
set_option maxRecDepth 100000 in
theorem dl_1766 : dk code 1766 = some (.if_icmp .eq 349) := by decide +kernel
set_option maxRecDepth 100000 in
theorem dl_1769 : dk code 1769 = some (.iconst 0) := by decide +kernel
set_option maxRecDepth 100000 in
theorem dl_1770 : dk code 1770 = some (.ireturn) := by decide +kernel
set_option maxRecDepth 100000 in
theorem dl_1771 : dk code 1771 = some (.aload_n 1) := by decide +kernel
set_option maxRecDepth 100000 in
theorem dl_1772 : dk code 1772 = some (.aload_n 0) := by decide +kernel
set_option maxRecDepth 100000 in
theorem dl_1773 : dk code 1773 = some (.iload_n 3) := by decide +kernel
set_option maxRecDepth 100000 in
theorem dl_1774 : dk code 1774 = some (.iconst 1) := by decide +kernel
set_option maxRecDepth 100000 in
theorem dl_1775 : dk code 1775 = some (.iadd) := by decide +kernel
set_option maxRecDepth 100000 in
theorem dl_1776 : dk code 1776 = some (.iaload) := by decide +kernel
set_option maxRecDepth 100000 in
theorem dl_1777 : dk code 1777 = some (.aload_n 0) := by decide +kernel
set_option maxRecDepth 100000 in
theorem dl_1778 : dk code 1778 = some (.iload_n 3) := by decide +kernel
set_option maxRecDepth 100000 in
theorem dl_1779 : dk code 1779 = some (.iconst 2) := by decide +kernel
set_option maxRecDepth 100000 in
theorem dl_1780 : dk code 1780 = some (.iadd) := by decide +kernel
set_option maxRecDepth 100000 in
theorem dl_1781 : dk code 1781 = some (.iaload) := by decide +kernel
set_option maxRecDepth 100000 in
theorem dl_1782 : dk code 1782 = some (.aload_n 0) := by decide +kernel
set_option maxRecDepth 100000 in
theorem dl_1783 : dk code 1783 = some (.iload_n 3) := by decide +kernel
set_option maxRecDepth 100000 in
theorem dl_1784 : dk code 1784 = some (.iconst 3) := by decide +kernel
set_option maxRecDepth 100000 in
theorem dl_1785 : dk code 1785 = some (.iadd) := by decide +kernel
set_option maxRecDepth 100000 in
theorem dl_1786 : dk code 1786 = some (.iaload) := by decide +kernel
set_option maxRecDepth 100000 in
theorem dl_1787 : dk code 1787 = some (.invokevirtual 171) := by decide +kernel
set_option maxRecDepth 100000 in
theorem dl_1790 : dk code 1790 = some (.aload_n 2) := by decide +kernel
set_option maxRecDepth 100000 in
theorem dl_1791 : dk code 1791 = some (.aload_n 0) := by decide +kernel
set_option maxRecDepth 100000 in
theorem dl_1792 : dk code 1792 = some (.iload_n 3) := by decide +kernel
set_option maxRecDepth 100000 in
theorem dl_1793 : dk code 1793 = some (.iconst 1) := by decide +kernel
set_option maxRecDepth 100000 in
theorem dl_1794 : dk code 1794 = some (.iadd) := by decide +kernel
set_option maxRecDepth 100000 in
theorem dl_1795 : dk code 1795 = some (.iaload) := by decide +kernel
set_option maxRecDepth 100000 in
theorem dl_1796 : dk code 1796 = some (.aload_n 0) := by decide +kernel
set_option maxRecDepth 100000 in
theorem dl_1797 : dk code 1797 = some (.iload_n 3) := by decide +kernel
set_option maxRecDepth 100000 in
theorem dl_1798 : dk code 1798 = some (.iconst 2) := by decide +kernel
set_option maxRecDepth 100000 in
theorem dl_1799 : dk code 1799 = some (.iadd) := by decide +kernel
set_option maxRecDepth 100000 in
theorem dl_1800 : dk code 1800 = some (.iaload) := by decide +kernel
set_option maxRecDepth 100000 in
theorem dl_1801 : dk code 1801 = some (.aload_n 0) := by decide +kernel
set_option maxRecDepth 100000 in
theorem dl_1802 : dk code 1802 = some (.iload_n 3) := by decide +kernel
set_option maxRecDepth 100000 in
theorem dl_1803 : dk code 1803 = some (.iconst 3) := by decide +kernel
set_option maxRecDepth 100000 in
theorem dl_1804 : dk code 1804 = some (.iadd) := by decide +kernel
set_option maxRecDepth 100000 in
theorem dl_1805 : dk code 1805 = some (.iaload) := by decide +kernel
set_option maxRecDepth 100000 in
theorem dl_1806 : dk code 1806 = some (.invokevirtual 174) := by decide +kernel
set_option maxRecDepth 100000 in
theorem dl_1809 : dk code 1809 = some (.if_icmp .eq 306) := by decide +kernel
set_option maxRecDepth 100000 in
theorem dl_1812 : dk code 1812 = some (.iconst 0) := by decide +kernel
set_option maxRecDepth 100000 in
theorem dl_1813 : dk code 1813 = some (.ireturn) := by decide +kernel
set_option maxRecDepth 100000 in
theorem dl_1814 : dk code 1814 = some (.aload_n 1) := by decide +kernel
set_option maxRecDepth 100000 in
theorem dl_1815 : dk code 1815 = some (.aload_n 0) := by decide +kernel
set_option maxRecDepth 100000 in
theorem dl_1816 : dk code 1816 = some (.iload_n 3) := by decide +kernel
set_option maxRecDepth 100000 in
theorem dl_1817 : dk code 1817 = some (.iconst 1) := by decide +kernel
set_option maxRecDepth 100000 in
theorem dl_1818 : dk code 1818 = some (.iadd) := by decide +kernel
set_option maxRecDepth 100000 in
theorem dl_1819 : dk code 1819 = some (.iaload) := by decide +kernel
set_option maxRecDepth 100000 in
theorem dl_1820 : dk code 1820 = some (.invokevirtual 175) := by decide +kernel
set_option maxRecDepth 100000 in
theorem dl_1823 : dk code 1823 = some (.aload_n 2) := by decide +kernel
set_option maxRecDepth 100000 in
theorem dl_1824 : dk code 1824 = some (.aload_n 0) := by decide +kernel
set_option maxRecDepth 100000 in
theorem dl_1825 : dk code 1825 = some (.iload_n 3) := by decide +kernel
set_option maxRecDepth 100000 in
theorem dl_1826 : dk code 1826 = some (.iconst 1) := by decide +kernel
set_option maxRecDepth 100000 in
theorem dl_1827 : dk code 1827 = some (.iadd) := by decide +kernel
set_option maxRecDepth 100000 in
theorem dl_1828 : dk code 1828 = some (.iaload) := by decide +kernel
set_option maxRecDepth 100000 in
theorem dl_1829 : dk code 1829 = some (.invokevirtual 178) := by decide +kernel
set_option maxRecDepth 100000 in
theorem dl_1832 : dk code 1832 = some (.if_icmp .eq 283) := by decide +kernel
set_option maxRecDepth 100000 in
theorem dl_1835 : dk code 1835 = some (.iconst 0) := by decide +kernel
set_option maxRecDepth 100000 in
theorem dl_1836 : dk code 1836 = some (.ireturn) := by decide +kernel
set_option maxRecDepth 100000 in
theorem dl_1837 : dk code 1837 = some (.aload_n 1) := by decide +kernel
set_option maxRecDepth 100000 in
theorem dl_1838 : dk code 1838 = some (.aload_n 0) := by decide +kernel
set_option maxRecDepth 100000 in
theorem dl_1839 : dk code 1839 = some (.iload_n 3) := by decide +kernel
set_option maxRecDepth 100000 in
theorem dl_1840 : dk code 1840 = some (.iconst 1) := by decide +kernel
set_option maxRecDepth 100000 in
theorem dl_1841 : dk code 1841 = some (.iadd) := by decide +kernel
set_option maxRecDepth 100000 in
theorem dl_1842 : dk code 1842 = some (.iaload) := by decide +kernel
set_option maxRecDepth 100000 in
theorem dl_1843 : dk code 1843 = some (.aload_n 0) := by decide +kernel
set_option maxRecDepth 100000 in
theorem dl_1844 : dk code 1844 = some (.iload_n 3) := by decide +kernel
set_option maxRecDepth 100000 in
theorem dl_1845 : dk code 1845 = some (.iconst 2) := by decide +kernel
set_option maxRecDepth 100000 in
theorem dl_1846 : dk code 1846 = some (.iadd) := by decide +kernel
set_option maxRecDepth 100000 in
theorem dl_1847 : dk code 1847 = some (.iaload) := by decide +kernel
set_option maxRecDepth 100000 in
theorem dl_1848 : dk code 1848 = some (.aload_n 0) := by decide +kernel
set_option maxRecDepth 100000 in
theorem dl_1849 : dk code 1849 = some (.iload_n 3) := by decide +kernel
set_option maxRecDepth 100000 in
theorem dl_1850 : dk code 1850 = some (.iconst 3) := by decide +kernel
set_option maxRecDepth 100000 in
theorem dl_1851 : dk code 1851 = some (.iadd) := by decide +kernel
set_option maxRecDepth 100000 in
theorem dl_1852 : dk code 1852 = some (.iaload) := by decide +kernel
set_option maxRecDepth 100000 in
theorem dl_1853 : dk code 1853 = some (.invokevirtual 179) := by decide +kernel
set_option maxRecDepth 100000 in
theorem dl_1856 : dk code 1856 = some (.aload_n 2) := by decide +kernel
set_option maxRecDepth 100000 in
theorem dl_1857 : dk code 1857 = some (.aload_n 0) := by decide +kernel
set_option maxRecDepth 100000 in
theorem dl_1858 : dk code 1858 = some (.iload_n 3) := by decide +kernel
set_option maxRecDepth 100000 in
theorem dl_1859 : dk code 1859 = some (.iconst 1) := by decide +kernel
set_option maxRecDepth 100000 in
theorem dl_1860 : dk code 1860 = some (.iadd) := by decide +kernel
set_option maxRecDepth 100000 in
theorem dl_1861 : dk code 1861 = some (.iaload) := by decide +kernel
set_option maxRecDepth 100000 in
theorem dl_1862 : dk code 1862 = some (.aload_n 0) := by decide +kernel
set_option maxRecDepth 100000 in
theorem dl_1863 : dk code 1863 = some (.iload_n 3) := by decide +kernel
set_option maxRecDepth 100000 in
theorem dl_1864 : dk code 1864 = some (.iconst 2) := by decide +kernel
set_option maxRecDepth 100000 in
theorem dl_1865 : dk code 1865 = some (.iadd) := by decide +kernel
set_option maxRecDepth 100000 in
theorem dl_1866 : dk code 1866 = some (.iaload) := by decide +kernel
set_option maxRecDepth 100000 in
theorem dl_1867 : dk code 1867 = some (.aload_n 0) := by decide +kernel
set_option maxRecDepth 100000 in
theorem dl_1868 : dk code 1868 = some (.iload_n 3) := by decide +kernel
set_option maxRecDepth 100000 in
theorem dl_1869 : dk code 1869 = some (.iconst 3) := by decide +kernel
set_option maxRecDepth 100000 in
theorem dl_1870 : dk code 1870 = some (.iadd) := by decide +kernel
set_option maxRecDepth 100000 in
theorem dl_1871 : dk code 1871 = some (.iaload) := by decide +kernel
set_option maxRecDepth 100000 in
theorem dl_1872 : dk code 1872 = some (.invokevirtual 182) := by decide +kernel
set_option maxRecDepth 100000 in
theorem dl_1875 : dk code 1875 = some (.if_icmp .eq 240) := by decide +kernel
set_option maxRecDepth 100000 in
theorem dl_1878 : dk code 1878 = some (.iconst 0) := by decide +kernel
set_option maxRecDepth 100000 in
theorem dl_1879 : dk code 1879 = some (.ireturn) := by decide +kernel
set_option maxRecDepth 100000 in
theorem dl_1880 : dk code 1880 = some (.aload_n 1) := by decide +kernel
set_option maxRecDepth 100000 in
theorem dl_1881 : dk code 1881 = some (.aload_n 0) := by decide +kernel
set_option maxRecDepth 100000 in
theorem dl_1882 : dk code 1882 = some (.iload_n 3) := by decide +kernel
set_option maxRecDepth 100000 in
theorem dl_1883 : dk code 1883 = some (.iconst 1) := by decide +kernel
set_option maxRecDepth 100000 in
theorem dl_1884 : dk code 1884 = some (.iadd) := by decide +kernel
set_option maxRecDepth 100000 in
theorem dl_1885 : dk code 1885 = some (.iaload) := by decide +kernel
set_option maxRecDepth 100000 in
theorem dl_1886 : dk code 1886 = some (.aload_n 0) := by decide +kernel
set_option maxRecDepth 100000 in
theorem dl_1887 : dk code 1887 = some (.iload_n 3) := by decide +kernel
set_option maxRecDepth 100000 in
theorem dl_1888 : dk code 1888 = some (.iconst 2) := by decide +kernel
set_option maxRecDepth 100000 in
theorem dl_1889 : dk code 1889 = some (.iadd) := by decide +kernel
set_option maxRecDepth 100000 in
theorem dl_1890 : dk code 1890 = some (.iaload) := by decide +kernel
set_option maxRecDepth 100000 in
theorem dl_1891 : dk code 1891 = some (.aload_n 0) := by decide +kernel
set_option maxRecDepth 100000 in
theorem dl_1892 : dk code 1892 = some (.iload_n 3) := by decide +kernel
set_option maxRecDepth 100000 in
theorem dl_1893 : dk code 1893 = some (.iconst 3) := by decide +kernel
set_option maxRecDepth 100000 in
theorem dl_1894 : dk code 1894 = some (.iadd) := by decide +kernel
set_option maxRecDepth 100000 in
theorem dl_1895 : dk code 1895 = some (.iaload) := by decide +kernel
set_option maxRecDepth 100000 in
theorem dl_1896 : dk code 1896 = some (.invokevirtual 183) := by decide +kernel
set_option maxRecDepth 100000 in
theorem dl_1899 : dk code 1899 = some (.aload_n 2) := by decide +kernel
set_option maxRecDepth 100000 in
theorem dl_1900 : dk code 1900 = some (.aload_n 0) := by decide +kernel
set_option maxRecDepth 100000 in
theorem dl_1901 : dk code 1901 = some (.iload_n 3) := by decide +kernel
set_option maxRecDepth 100000 in
theorem dl_1902 : dk code 1902 = some (.iconst 1) := by decide +kernel
set_option maxRecDepth 100000 in
theorem dl_1903 : dk code 1903 = some (.iadd) := by decide +kernel
set_option maxRecDepth 100000 in
theorem dl_1904 : dk code 1904 = some (.iaload) := by decide +kernel
set_option maxRecDepth 100000 in
theorem dl_1905 : dk code 1905 = some (.aload_n 0) := by decide +kernel
set_option maxRecDepth 100000 in
theorem dl_1906 : dk code 1906 = some (.iload_n 3) := by decide +kernel
set_option maxRecDepth 100000 in
theorem dl_1907 : dk code 1907 = some (.iconst 2) := by decide +kernel
set_option maxRecDepth 100000 in
theorem dl_1908 : dk code 1908 = some (.iadd) := by decide +kernel
set_option maxRecDepth 100000 in
theorem dl_1909 : dk code 1909 = some (.iaload) := by decide +kernel
set_option maxRecDepth 100000 in
theorem dl_1910 : dk code 1910 = some (.aload_n 0) := by decide +kernel
set_option maxRecDepth 100000 in
theorem dl_1911 : dk code 1911 = some (.iload_n 3) := by decide +kernel
set_option maxRecDepth 100000 in
theorem dl_1912 : dk code 1912 = some (.iconst 3) := by decide +kernel
set_option maxRecDepth 100000 in
theorem dl_1913 : dk code 1913 = some (.iadd) := by decide +kernel
set_option maxRecDepth 100000 in
theorem dl_1914 : dk code 1914 = some (.iaload) := by decide +kernel
set_option maxRecDepth 100000 in
theorem dl_1915 : dk code 1915 = some (.invokevirtual 186) := by decide +kernel
set_option maxRecDepth 100000 in
theorem dl_1918 : dk code 1918 = some (.lcmp) := by decide +kernel
set_option maxRecDepth 100000 in
theorem dl_1919 : dk code 1919 = some (.ifCond .eq 196) := by decide +kernel
set_option maxRecDepth 100000 in
theorem dl_1922 : dk code 1922 = some (.iconst 0) := by decide +kernel
set_option maxRecDepth 100000 in
theorem dl_1923 : dk code 1923 = some (.ireturn) := by decide +kernel
set_option maxRecDepth 100000 in
theorem dl_1924 : dk code 1924 = some (.aload_n 1) := by decide +kernel
set_option maxRecDepth 100000 in
theorem dl_1925 : dk code 1925 = some (.aload_n 0) := by decide +kernel
set_option maxRecDepth 100000 in
theorem dl_1926 : dk code 1926 = some (.iload_n 3) := by decide +kernel
set_option maxRecDepth 100000 in
theorem dl_1927 : dk code 1927 = some (.iconst 1) := by decide +kernel
set_option maxRecDepth 100000 in
theorem dl_1928 : dk code 1928 = some (.iadd) := by decide +kernel
set_option maxRecDepth 100000 in
theorem dl_1929 : dk code 1929 = some (.iaload) := by decide +kernel
set_option maxRecDepth 100000 in
theorem dl_1930 : dk code 1930 = some (.aload_n 0) := by decide +kernel
set_option maxRecDepth 100000 in
theorem dl_1931 : dk code 1931 = some (.iload_n 3) := by decide +kernel
set_option maxRecDepth 100000 in
theorem dl_1932 : dk code 1932 = some (.iconst 2) := by decide +kernel
set_option maxRecDepth 100000 in
theorem dl_1933 : dk code 1933 = some (.iadd) := by decide +kernel
set_option maxRecDepth 100000 in
theorem dl_1934 : dk code 1934 = some (.iaload) := by decide +kernel
set_option maxRecDepth 100000 in
theorem dl_1935 : dk code 1935 = some (.aload_n 0) := by decide +kernel
set_option maxRecDepth 100000 in
theorem dl_1936 : dk code 1936 = some (.iload_n 3) := by decide +kernel
set_option maxRecDepth 100000 in
theorem dl_1937 : dk code 1937 = some (.iconst 3) := by decide +kernel
set_option maxRecDepth 100000 in
theorem dl_1938 : dk code 1938 = some (.iadd) := by decide +kernel
set_option maxRecDepth 100000 in
theorem dl_1939 : dk code 1939 = some (.iaload) := by decide +kernel
set_option maxRecDepth 100000 in
theorem dl_1940 : dk code 1940 = some (.aload_n 0) := by decide +kernel
set_option maxRecDepth 100000 in
theorem dl_1941 : dk code 1941 = some (.iload_n 3) := by decide +kernel
set_option maxRecDepth 100000 in
theorem dl_1942 : dk code 1942 = some (.iconst 4) := by decide +kernel
set_option maxRecDepth 100000 in
theorem dl_1943 : dk code 1943 = some (.iadd) := by decide +kernel
set_option maxRecDepth 100000 in
theorem dl_1944 : dk code 1944 = some (.iaload) := by decide +kernel
set_option maxRecDepth 100000 in
theorem dl_1945 : dk code 1945 = some (.aload_n 0) := by decide +kernel
set_option maxRecDepth 100000 in
theorem dl_1946 : dk code 1946 = some (.iload_n 3) := by decide +kernel
set_option maxRecDepth 100000 in
theorem dl_1947 : dk code 1947 = some (.iconst 5) := by decide +kernel
set_option maxRecDepth 100000 in
theorem dl_1948 : dk code 1948 = some (.iadd) := by decide +kernel
set_option maxRecDepth 100000 in
theorem dl_1949 : dk code 1949 = some (.iaload) := by decide +kernel
set_option maxRecDepth 100000 in
theorem dl_1950 : dk code 1950 = some (.invokevirtual 187) := by decide +kernel
set_option maxRecDepth 100000 in
theorem dl_1953 : dk code 1953 = some (.aload_n 2) := by decide +kernel
set_option maxRecDepth 100000 in
theorem dl_1954 : dk code 1954 = some (.aload_n 0) := by decide +kernel
set_option maxRecDepth 100000 in
theorem dl_1955 : dk code 1955 = some (.iload_n 3) := by decide +kernel
set_option maxRecDepth 100000 in
theorem dl_1956 : dk code 1956 = some (.iconst 1) := by decide +kernel
set_option maxRecDepth 100000 in
theorem dl_1957 : dk code 1957 = some (.iadd) := by decide +kernel
set_option maxRecDepth 100000 in
theorem dl_1958 : dk code 1958 = some (.iaload) := by decide +kernel
set_option maxRecDepth 100000 in
theorem dl_1959 : dk code 1959 = some (.aload_n 0) := by decide +kernel
set_option maxRecDepth 100000 in
theorem dl_1960 : dk code 1960 = some (.iload_n 3) := by decide +kernel
set_option maxRecDepth 100000 in
theorem dl_1961 : dk code 1961 = some (.iconst 2) := by decide +kernel
set_option maxRecDepth 100000 in
theorem dl_1962 : dk code 1962 = some (.iadd) := by decide +kernel
set_option maxRecDepth 100000 in
theorem dl_1963 : dk code 1963 = some (.iaload) := by decide +kernel
set_option maxRecDepth 100000 in
theorem dl_1964 : dk code 1964 = some (.aload_n 0) := by decide +kernel
set_option maxRecDepth 100000 in
theorem dl_1965 : dk code 1965 = some (.iload_n 3) := by decide +kernel
set_option maxRecDepth 100000 in
theorem dl_1966 : dk code 1966 = some (.iconst 3) := by decide +kernel
set_option maxRecDepth 100000 in
theorem dl_1967 : dk code 1967 = some (.iadd) := by decide +kernel
set_option maxRecDepth 100000 in
theorem dl_1968 : dk code 1968 = some (.iaload) := by decide +kernel
set_option maxRecDepth 100000 in
theorem dl_1969 : dk code 1969 = some (.aload_n 0) := by decide +kernel
set_option maxRecDepth 100000 in
theorem dl_1970 : dk code 1970 = some (.iload_n 3) := by decide +kernel
set_option maxRecDepth 100000 in
theorem dl_1971 : dk code 1971 = some (.iconst 4) := by decide +kernel
set_option maxRecDepth 100000 in
theorem dl_1972 : dk code 1972 = some (.iadd) := by decide +kernel
set_option maxRecDepth 100000 in
theorem dl_1973 : dk code 1973 = some (.iaload) := by decide +kernel
set_option maxRecDepth 100000 in
theorem dl_1974 : dk code 1974 = some (.aload_n 0) := by decide +kernel
set_option maxRecDepth 100000 in
theorem dl_1975 : dk code 1975 = some (.iload_n 3) := by decide +kernel
set_option maxRecDepth 100000 in
theorem dl_1976 : dk code 1976 = some (.iconst 5) := by decide +kernel
set_option maxRecDepth 100000 in
theorem dl_1977 : dk code 1977 = some (.iadd) := by decide +kernel
set_option maxRecDepth 100000 in
theorem dl_1978 : dk code 1978 = some (.iaload) := by decide +kernel
set_option maxRecDepth 100000 in
theorem dl_1979 : dk code 1979 = some (.invokevirtual 191) := by decide +kernel
set_option maxRecDepth 100000 in
theorem dl_1982 : dk code 1982 = some (.if_icmp .eq 133) := by decide +kernel
set_option maxRecDepth 100000 in
theorem dl_1985 : dk code 1985 = some (.iconst 0) := by decide +kernel
set_option maxRecDepth 100000 in
theorem dl_1986 : dk code 1986 = some (.ireturn) := by decide +kernel
set_option maxRecDepth 100000 in
theorem dl_1987 : dk code 1987 = some (.aload_n 1) := by decide +kernel
set_option maxRecDepth 100000 in
theorem dl_1988 : dk code 1988 = some (.aload_n 0) := by decide +kernel
set_option maxRecDepth 100000 in
theorem dl_1989 : dk code 1989 = some (.iload_n 3) := by decide +kernel
set_option maxRecDepth 100000 in
theorem dl_1990 : dk code 1990 = some (.iconst 1) := by decide +kernel
set_option maxRecDepth 100000 in
theorem dl_1991 : dk code 1991 = some (.iadd) := by decide +kernel
set_option maxRecDepth 100000 in
theorem dl_1992 : dk code 1992 = some (.iaload) := by decide +kernel
set_option maxRecDepth 100000 in
theorem dl_1993 : dk code 1993 = some (.invokevirtual 192) := by decide +kernel
set_option maxRecDepth 100000 in
theorem dl_1996 : dk code 1996 = some (.aload_n 2) := by decide +kernel
set_option maxRecDepth 100000 in
theorem dl_1997 : dk code 1997 = some (.aload_n 0) := by decide +kernel
set_option maxRecDepth 100000 in
theorem dl_1998 : dk code 1998 = some (.iload_n 3) := by decide +kernel
set_option maxRecDepth 100000 in
theorem dl_1999 : dk code 1999 = some (.iconst 1) := by decide +kernel
set_option maxRecDepth 100000 in
theorem dl_2000 : dk code 2000 = some (.iadd) := by decide +kernel
set_option maxRecDepth 100000 in
theorem dl_2001 : dk code 2001 = some (.iaload) := by decide +kernel
set_option maxRecDepth 100000 in
theorem dl_2002 : dk code 2002 = some (.invokevirtual 195) := by decide +kernel
set_option maxRecDepth 100000 in
theorem dl_2005 : dk code 2005 = some (.if_icmp .eq 110) := by decide +kernel
set_option maxRecDepth 100000 in
theorem dl_2008 : dk code 2008 = some (.iconst 0) := by decide +kernel
set_option maxRecDepth 100000 in
theorem dl_2009 : dk code 2009 = some (.ireturn) := by decide +kernel
set_option maxRecDepth 100000 in
theorem dl_2010 : dk code 2010 = some (.aload_n 1) := by decide +kernel
set_option maxRecDepth 100000 in
theorem dl_2011 : dk code 2011 = some (.aload_n 0) := by decide +kernel
set_option maxRecDepth 100000 in
theorem dl_2012 : dk code 2012 = some (.iload_n 3) := by decide +kernel
set_option maxRecDepth 100000 in
theorem dl_2013 : dk code 2013 = some (.iconst 1) := by decide +kernel
set_option maxRecDepth 100000 in
theorem dl_2014 : dk code 2014 = some (.iadd) := by decide +kernel
set_option maxRecDepth 100000 in
theorem dl_2015 : dk code 2015 = some (.iaload) := by decide +kernel
set_option maxRecDepth 100000 in
theorem dl_2016 : dk code 2016 = some (.invokevirtual 196) := by decide +kernel
set_option maxRecDepth 100000 in
theorem dl_2019 : dk code 2019 = some (.aload_n 2) := by decide +kernel
set_option maxRecDepth 100000 in
theorem dl_2020 : dk code 2020 = some (.aload_n 0) := by decide +kernel
set_option maxRecDepth 100000 in
theorem dl_2021 : dk code 2021 = some (.iload_n 3) := by decide +kernel
set_option maxRecDepth 100000 in
theorem dl_2022 : dk code 2022 = some (.iconst 1) := by decide +kernel
set_option maxRecDepth 100000 in
theorem dl_2023 : dk code 2023 = some (.iadd) := by decide +kernel
set_option maxRecDepth 100000 in
theorem dl_2024 : dk code 2024 = some (.iaload) := by decide +kernel
set_option maxRecDepth 100000 in
theorem dl_2025 : dk code 2025 = some (.invokevirtual 199) := by decide +kernel
set_option maxRecDepth 100000 in
theorem dl_2028 : dk code 2028 = some (.if_icmp .eq 87) := by decide +kernel
set_option maxRecDepth 100000 in
theorem dl_2031 : dk code 2031 = some (.iconst 0) := by decide +kernel
set_option maxRecDepth 100000 in
theorem dl_2032 : dk code 2032 = some (.ireturn) := by decide +kernel
set_option maxRecDepth 100000 in
theorem dl_2033 : dk code 2033 = some (.aload_n 1) := by decide +kernel
set_option maxRecDepth 100000 in
theorem dl_2034 : dk code 2034 = some (.aload_n 0) := by decide +kernel
set_option maxRecDepth 100000 in
theorem dl_2035 : dk code 2035 = some (.iload_n 3) := by decide +kernel
set_option maxRecDepth 100000 in
theorem dl_2036 : dk code 2036 = some (.iconst 1) := by decide +kernel
set_option maxRecDepth 100000 in
theorem dl_2037 : dk code 2037 = some (.iadd) := by decide +kernel
set_option maxRecDepth 100000 in
theorem dl_2038 : dk code 2038 = some (.iaload) := by decide +kernel
set_option maxRecDepth 100000 in
theorem dl_2039 : dk code 2039 = some (.aload_n 0) := by decide +kernel
set_option maxRecDepth 100000 in
theorem dl_2040 : dk code 2040 = some (.iload_n 3) := by decide +kernel
set_option maxRecDepth 100000 in
theorem dl_2041 : dk code 2041 = some (.iconst 2) := by decide +kernel
set_option maxRecDepth 100000 in
theorem dl_2042 : dk code 2042 = some (.iadd) := by decide +kernel
set_option maxRecDepth 100000 in
theorem dl_2043 : dk code 2043 = some (.iaload) := by decide +kernel
set_option maxRecDepth 100000 in
theorem dl_2044 : dk code 2044 = some (.invokevirtual 200) := by decide +kernel
set_option maxRecDepth 100000 in
theorem dl_2047 : dk code 2047 = some (.aload_n 2) := by decide +kernel
set_option maxRecDepth 100000 in
theorem dl_2048 : dk code 2048 = some (.aload_n 0) := by decide +kernel
set_option maxRecDepth 100000 in
theorem dl_2049 : dk code 2049 = some (.iload_n 3) := by decide +kernel
set_option maxRecDepth 100000 in
theorem dl_2050 : dk code 2050 = some (.iconst 1) := by decide +kernel
set_option maxRecDepth 100000 in
theorem dl_2051 : dk code 2051 = some (.iadd) := by decide +kernel
set_option maxRecDepth 100000 in
theorem dl_2052 : dk code 2052 = some (.iaload) := by decide +kernel
set_option maxRecDepth 100000 in
theorem dl_2053 : dk code 2053 = some (.aload_n 0) := by decide +kernel
set_option maxRecDepth 100000 in
theorem dl_2054 : dk code 2054 = some (.iload_n 3) := by decide +kernel
set_option maxRecDepth 100000 in
theorem dl_2055 : dk code 2055 = some (.iconst 2) := by decide +kernel
set_option maxRecDepth 100000 in
theorem dl_2056 : dk code 2056 = some (.iadd) := by decide +kernel
set_option maxRecDepth 100000 in
theorem dl_2057 : dk code 2057 = some (.iaload) := by decide +kernel
set_option maxRecDepth 100000 in
theorem dl_2058 : dk code 2058 = some (.invokevirtual 203) := by decide +kernel
set_option maxRecDepth 100000 in
theorem dl_2061 : dk code 2061 = some (.if_icmp .eq 54) := by decide +kernel
set_option maxRecDepth 100000 in
theorem dl_2064 : dk code 2064 = some (.iconst 0) := by decide +kernel
set_option maxRecDepth 100000 in
theorem dl_2065 : dk code 2065 = some (.ireturn) := by decide +kernel
set_option maxRecDepth 100000 in
theorem dl_2066 : dk code 2066 = some (.aload_n 1) := by decide +kernel
set_option maxRecDepth 100000 in
theorem dl_2067 : dk code 2067 = some (.invokevirtual 204) := by decide +kernel
set_option maxRecDepth 100000 in
theorem dl_2070 : dk code 2070 = some (.aload_n 2) := by decide +kernel
set_option maxRecDepth 100000 in
theorem dl_2071 : dk code 2071 = some (.invokevirtual 207) := by decide +kernel
set_option maxRecDepth 100000 in
theorem dl_2074 : dk code 2074 = some (.if_icmp .eq 41) := by decide +kernel
set_option maxRecDepth 100000 in
theorem dl_2077 : dk code 2077 = some (.iconst 0) := by decide +kernel
set_option maxRecDepth 100000 in
theorem dl_2078 : dk code 2078 = some (.ireturn) := by decide +kernel
set_option maxRecDepth 100000 in
theorem dl_2079 : dk code 2079 = some (.aload_n 1) := by decide +kernel
set_option maxRecDepth 100000 in
theorem dl_2080 : dk code 2080 = some (.invokevirtual 208) := by decide +kernel
set_option maxRecDepth 100000 in
theorem dl_2083 : dk code 2083 = some (.aload_n 2) := by decide +kernel
set_option maxRecDepth 100000 in
theorem dl_2084 : dk code 2084 = some (.invokevirtual 211) := by decide +kernel
set_option maxRecDepth 100000 in
theorem dl_2087 : dk code 2087 = some (.if_icmp .eq 28) := by decide +kernel
set_option maxRecDepth 100000 in
theorem dl_2090 : dk code 2090 = some (.iconst 0) := by decide +kernel
set_option maxRecDepth 100000 in
theorem dl_2091 : dk code 2091 = some (.ireturn) := by decide +kernel
set_option maxRecDepth 100000 in
theorem dl_2092 : dk code 2092 = some (.aload_n 1) := by decide +kernel
set_option maxRecDepth 100000 in
theorem dl_2093 : dk code 2093 = some (.aload_n 0) := by decide +kernel
set_option maxRecDepth 100000 in
theorem dl_2094 : dk code 2094 = some (.iload_n 3) := by decide +kernel
set_option maxRecDepth 100000 in
theorem dl_2095 : dk code 2095 = some (.iconst 1) := by decide +kernel
set_option maxRecDepth 100000 in
theorem dl_2096 : dk code 2096 = some (.iadd) := by decide +kernel
set_option maxRecDepth 100000 in
theorem dl_2097 : dk code 2097 = some (.iaload) := by decide +kernel
set_option maxRecDepth 100000 in
theorem dl_2098 : dk code 2098 = some (.invokevirtual 212) := by decide +kernel
set_option maxRecDepth 100000 in
theorem dl_2101 : dk code 2101 = some (.aload_n 2) := by decide +kernel
set_option maxRecDepth 100000 in
theorem dl_2102 : dk code 2102 = some (.aload_n 0) := by decide +kernel
set_option maxRecDepth 100000 in
theorem dl_2103 : dk code 2103 = some (.iload_n 3) := by decide +kernel
set_option maxRecDepth 100000 in
theorem dl_2104 : dk code 2104 = some (.iconst 1) := by decide +kernel
set_option maxRecDepth 100000 in
theorem dl_2105 : dk code 2105 = some (.iadd) := by decide +kernel
set_option maxRecDepth 100000 in
theorem dl_2106 : dk code 2106 = some (.iaload) := by decide +kernel
set_option maxRecDepth 100000 in
theorem dl_2107 : dk code 2107 = some (.invokevirtual 215) := by decide +kernel
set_option maxRecDepth 100000 in
theorem dl_2110 : dk code 2110 = some (.if_icmp .eq 5) := by decide +kernel
set_option maxRecDepth 100000 in
theorem dl_2113 : dk code 2113 = some (.iconst 0) := by decide +kernel
set_option maxRecDepth 100000 in
theorem dl_2114 : dk code 2114 = some (.ireturn) := by decide +kernel
set_option maxRecDepth 100000 in
theorem dl_2115 : dk code 2115 = some (.iinc 3 8) := by decide +kernel
set_option maxRecDepth 100000 in
theorem dl_2118 : dk code 2118 = some (.goto (-2100)) := by decide +kernel
set_option maxRecDepth 100000 in
theorem dl_2121 : dk code 2121 = some (.iconst 1) := by decide +kernel
set_option maxRecDepth 100000 in
theorem dl_2122 : dk code 2122 = some (.ireturn) := by decide +kernel
theorem lk_13 : (cres 13 13 = some 94 ∧ sM 94 = false ∧ (yM 94).name ≠ "<init>" ∧ oM 94 = 11 ∧ pM 94 = 3) ∧ rM 94 = (some .int) := ⟨by decide +kernel, rfl⟩
theorem lk_17 : (cres 13 17 = some 166 ∧ sM 166 = false ∧ (yM 166).name ≠ "<init>" ∧ oM 166 = 12 ∧ pM 166 = 3) ∧ rM 166 = (some .int) := ⟨by decide +kernel, rfl⟩
theorem lk_18 : (cres 13 18 = some 95 ∧ sM 95 = false ∧ (yM 95).name ≠ "<init>" ∧ oM 95 = 11 ∧ pM 95 = 3) ∧ rM 95 = (some .int) := ⟨by decide +kernel, rfl⟩
theorem lk_21 : (cres 13 21 = some 168 ∧ sM 168 = false ∧ (yM 168).name ≠ "<init>" ∧ oM 168 = 12 ∧ pM 168 = 3) ∧ rM 168 = (some .int) := ⟨by decide +kernel, rfl⟩
theorem lk_22 : (cres 13 22 = some 96 ∧ sM 96 = false ∧ (yM 96).name ≠ "<init>" ∧ oM 96 = 11 ∧ pM 96 = 2) ∧ rM 96 = (some .int) := ⟨by decide +kernel, rfl⟩
theorem lk_26 : (cres 13 26 = some 169 ∧ sM 169 = false ∧ (yM 169).name ≠ "<init>" ∧ oM 169 = 12 ∧ pM 169 = 2) ∧ rM 169 = (some .int) := ⟨by decide +kernel, rfl⟩
theorem lk_27 : (cres 13 27 = some 97 ∧ sM 97 = false ∧ (yM 97).name ≠ "<init>" ∧ oM 97 = 11 ∧ pM 97 = 2) ∧ rM 97 = (some .int) := ⟨by decide +kernel, rfl⟩
theorem lk_31 : (cres 13 31 = some 170 ∧ sM 170 = false ∧ (yM 170).name ≠ "<init>" ∧ oM 170 = 12 ∧ pM 170 = 2) ∧ rM 170 = (some .int) := ⟨by decide +kernel, rfl⟩
theorem lk_32 : (cres 13 32 = some 98 ∧ sM 98 = false ∧ (yM 98).name ≠ "<init>" ∧ oM 98 = 11 ∧ pM 98 = 3) ∧ rM 98 = (some .int) := ⟨by decide +kernel, rfl⟩
theorem lk_36 : (cres 13 36 = some 174 ∧ sM 174 = false ∧ (yM 174).name ≠ "<init>" ∧ oM 174 = 12 ∧ pM 174 = 3) ∧ rM 174 = (some .int) := ⟨by decide +kernel, rfl⟩
theorem lk_37 : (cres 13 37 = some 99 ∧ sM 99 = false ∧ (yM 99).name ≠ "<init>" ∧ oM 99 = 11 ∧ pM 99 = 2) ∧ rM 99 = (some .int) := ⟨by decide +kernel, rfl⟩
theorem lk_40 : (cres 13 40 = some 175 ∧ sM 175 = false ∧ (yM 175).name ≠ "<init>" ∧ oM 175 = 12 ∧ pM 175 = 2) ∧ rM 175 = (some .int) := ⟨by decide +kernel, rfl⟩
theorem lk_41 : (cres 13 41 = some 100 ∧ sM 100 = false ∧ (yM 100).name ≠ "<init>" ∧ oM 100 = 11 ∧ pM 100 = 3) ∧ rM 100 = (some .int) := ⟨by decide +kernel, rfl⟩
theorem lk_44 : (cres 13 44 = some 177 ∧ sM 177 = false ∧ (yM 177).name ≠ "<init>" ∧ oM 177 = 12 ∧ pM 177 = 3) ∧ rM 177 = (some .int) := ⟨by decide +kernel, rfl⟩
theorem lk_45 : (cres 13 45 = some 101 ∧ sM 101 = false ∧ (yM 101).name ≠ "<init>" ∧ oM 101 = 11 ∧ pM 101 = 7) ∧ rM 101 = (some .int) := ⟨by decide +kernel, rfl⟩
theorem lk_49 : (cres 13 49 = some 180 ∧ sM 180 = false ∧ (yM 180).name ≠ "<init>" ∧ oM 180 = 12 ∧ pM 180 = 7) ∧ rM 180 = (some .int) := ⟨by decide +kernel, rfl⟩
theorem lk_50 : (cres 13 50 = some 102 ∧ sM 102 = false ∧ (yM 102).name ≠ "<init>" ∧ oM 102 = 11 ∧ pM 102 = 2) ∧ rM 102 = (some .int) := ⟨by decide +kernel, rfl⟩
theorem lk_53 : (cres 13 53 = some 183 ∧ sM 183 = false ∧ (yM 183).name ≠ "<init>" ∧ oM 183 = 12 ∧ pM 183 = 2) ∧ rM 183 = (some .int) := ⟨by decide +kernel, rfl⟩
theorem lk_54 : (cres 13 54 = some 103 ∧ sM 103 = false ∧ (yM 103).name ≠ "<init>" ∧ oM 103 = 11 ∧ pM 103 = 3) ∧ rM 103 = (some .int) := ⟨by decide +kernel, rfl⟩
theorem lk_57 : (cres 13 57 = some 185 ∧ sM 185 = false ∧ (yM 185).name ≠ "<init>" ∧ oM 185 = 12 ∧ pM 185 = 3) ∧ rM 185 = (some .int) := ⟨by decide +kernel, rfl⟩
theorem lk_58 : (cres 13 58 = some 104 ∧ sM 104 = false ∧ (yM 104).name ≠ "<init>" ∧ oM 104 = 11 ∧ pM 104 = 4) ∧ rM 104 = (some .int) := ⟨by decide +kernel, rfl⟩
theorem lk_62 : (cres 13 62 = some 187 ∧ sM 187 = false ∧ (yM 187).name ≠ "<init>" ∧ oM 187 = 12 ∧ pM 187 = 4) ∧ rM 187 = (some .int) := ⟨by decide +kernel, rfl⟩
theorem lk_63 : (cres 13 63 = some 105 ∧ sM 105 = false ∧ (yM 105).name ≠ "<init>" ∧ oM 105 = 11 ∧ pM 105 = 4) ∧ rM 105 = (some .int) := ⟨by decide +kernel, rfl⟩
theorem lk_66 : (cres 13 66 = some 190 ∧ sM 190 = false ∧ (yM 190).name ≠ "<init>" ∧ oM 190 = 12 ∧ pM 190 = 4) ∧ rM 190 = (some .int) := ⟨by decide +kernel, rfl⟩
theorem lk_67 : (cres 13 67 = some 106 ∧ sM 106 = false ∧ (yM 106).name ≠ "<init>" ∧ oM 106 = 11 ∧ pM 106 = 1) ∧ rM 106 = (some .int) := ⟨by decide +kernel, rfl⟩
theorem lk_71 : (cres 13 71 = some 192 ∧ sM 192 = false ∧ (yM 192).name ≠ "<init>" ∧ oM 192 = 12 ∧ pM 192 = 1) ∧ rM 192 = (some .int) := ⟨by decide +kernel, rfl⟩
theorem lk_72 : (cres 13 72 = some 108 ∧ sM 108 = false ∧ (yM 108).name ≠ "<init>" ∧ oM 108 = 11 ∧ pM 108 = 2) ∧ rM 108 = (some .int) := ⟨by decide +kernel, rfl⟩
theorem lk_75 : (cres 13 75 = some 193 ∧ sM 193 = false ∧ (yM 193).name ≠ "<init>" ∧ oM 193 = 12 ∧ pM 193 = 2) ∧ rM 193 = (some .int) := ⟨by decide +kernel, rfl⟩
theorem lk_76 : (cres 13 76 = some 109 ∧ sM 109 = false ∧ (yM 109).name ≠ "<init>" ∧ oM 109 = 11 ∧ pM 109 = 2) ∧ rM 109 = (some .int) := ⟨by decide +kernel, rfl⟩
theorem lk_79 : (cres 13 79 = some 194 ∧ sM 194 = false ∧ (yM 194).name ≠ "<init>" ∧ oM 194 = 12 ∧ pM 194 = 2) ∧ rM 194 = (some .int) := ⟨by decide +kernel, rfl⟩
theorem lk_80 : (cres 13 80 = some 110 ∧ sM 110 = false ∧ (yM 110).name ≠ "<init>" ∧ oM 110 = 11 ∧ pM 110 = 2) ∧ rM 110 = (some .long) := ⟨by decide +kernel, rfl⟩
theorem lk_84 : (cres 13 84 = some 195 ∧ sM 195 = false ∧ (yM 195).name ≠ "<init>" ∧ oM 195 = 12 ∧ pM 195 = 2) ∧ rM 195 = (some .long) := ⟨by decide +kernel, rfl⟩
theorem lk_85 : (cres 13 85 = some 111 ∧ sM 111 = false ∧ (yM 111).name ≠ "<init>" ∧ oM 111 = 11 ∧ pM 111 = 4) ∧ rM 111 = (some .int) := ⟨by decide +kernel, rfl⟩
theorem lk_88 : (cres 13 88 = some 199 ∧ sM 199 = false ∧ (yM 199).name ≠ "<init>" ∧ oM 199 = 12 ∧ pM 199 = 4) ∧ rM 199 = (some .int) := ⟨by decide +kernel, rfl⟩
theorem lk_89 : (cres 13 89 = some 112 ∧ sM 112 = false ∧ (yM 112).name ≠ "<init>" ∧ oM 112 = 11 ∧ pM 112 = 3) ∧ rM 112 = (some .int) := ⟨by decide +kernel, rfl⟩
theorem lk_92 : (cres 13 92 = some 201 ∧ sM 201 = false ∧ (yM 201).name ≠ "<init>" ∧ oM 201 = 12 ∧ pM 201 = 3) ∧ rM 201 = (some .int) := ⟨by decide +kernel, rfl⟩
theorem lk_93 : (cres 13 93 = some 113 ∧ sM 113 = false ∧ (yM 113).name ≠ "<init>" ∧ oM 113 = 11 ∧ pM 113 = 3) ∧ rM 113 = (some .long) := ⟨by decide +kernel, rfl⟩
theorem lk_97 : (cres 13 97 = some 203 ∧ sM 203 = false ∧ (yM 203).name ≠ "<init>" ∧ oM 203 = 12 ∧ pM 203 = 3) ∧ rM 203 = (some .long) := ⟨by decide +kernel, rfl⟩
theorem lk_98 : (cres 13 98 = some 114 ∧ sM 114 = false ∧ (yM 114).name ≠ "<init>" ∧ oM 114 = 11 ∧ pM 114 = 2) ∧ rM 114 = (some .int) := ⟨by decide +kernel, rfl⟩
theorem lk_101 : (cres 13 101 = some 204 ∧ sM 204 = false ∧ (yM 204).name ≠ "<init>" ∧ oM 204 = 12 ∧ pM 204 = 2) ∧ rM 204 = (some .int) := ⟨by decide +kernel, rfl⟩
theorem lk_102 : (cres 13 102 = some 115 ∧ sM 115 = false ∧ (yM 115).name ≠ "<init>" ∧ oM 115 = 11 ∧ pM 115 = 2) ∧ rM 115 = (some .int) := ⟨by decide +kernel, rfl⟩
theorem lk_105 : (cres 13 105 = some 205 ∧ sM 205 = false ∧ (yM 205).name ≠ "<init>" ∧ oM 205 = 12 ∧ pM 205 = 2) ∧ rM 205 = (some .int) := ⟨by decide +kernel, rfl⟩
theorem lk_106 : (cres 13 106 = some 116 ∧ sM 116 = false ∧ (yM 116).name ≠ "<init>" ∧ oM 116 = 11 ∧ pM 116 = 2) ∧ rM 116 = (some .int) := ⟨by decide +kernel, rfl⟩
theorem lk_109 : (cres 13 109 = some 210 ∧ sM 210 = false ∧ (yM 210).name ≠ "<init>" ∧ oM 210 = 12 ∧ pM 210 = 2) ∧ rM 210 = (some .int) := ⟨by decide +kernel, rfl⟩
theorem lk_110 : (cres 13 110 = some 117 ∧ sM 117 = false ∧ (yM 117).name ≠ "<init>" ∧ oM 117 = 11 ∧ pM 117 = 2) ∧ rM 117 = (some .int) := ⟨by decide +kernel, rfl⟩
theorem lk_113 : (cres 13 113 = some 211 ∧ sM 211 = false ∧ (yM 211).name ≠ "<init>" ∧ oM 211 = 12 ∧ pM 211 = 2) ∧ rM 211 = (some .int) := ⟨by decide +kernel, rfl⟩
theorem lk_114 : (cres 13 114 = some 118 ∧ sM 118 = false ∧ (yM 118).name ≠ "<init>" ∧ oM 118 = 11 ∧ pM 118 = 0) ∧ rM 118 = (some .int) := ⟨by decide +kernel, rfl⟩
theorem lk_118 : (cres 13 118 = some 212 ∧ sM 212 = false ∧ (yM 212).name ≠ "<init>" ∧ oM 212 = 12 ∧ pM 212 = 0) ∧ rM 212 = (some .int) := ⟨by decide +kernel, rfl⟩
theorem lk_119 : (cres 13 119 = some 120 ∧ sM 120 = false ∧ (yM 120).name ≠ "<init>" ∧ oM 120 = 11 ∧ pM 120 = 3) ∧ rM 120 = (some .int) := ⟨by decide +kernel, rfl⟩
theorem lk_122 : (cres 13 122 = some 215 ∧ sM 215 = false ∧ (yM 215).name ≠ "<init>" ∧ oM 215 = 12 ∧ pM 215 = 3) ∧ rM 215 = (some .int) := ⟨by decide +kernel, rfl⟩
theorem lk_123 : (cres 13 123 = some 121 ∧ sM 121 = false ∧ (yM 121).name ≠ "<init>" ∧ oM 121 = 11 ∧ pM 121 = 4) ∧ rM 121 = (some .int) := ⟨by decide +kernel, rfl⟩
theorem lk_126 : (cres 13 126 = some 217 ∧ sM 217 = false ∧ (yM 217).name ≠ "<init>" ∧ oM 217 = 12 ∧ pM 217 = 4) ∧ rM 217 = (some .int) := ⟨by decide +kernel, rfl⟩
theorem lk_127 : (cres 13 127 = some 122 ∧ sM 122 = false ∧ (yM 122).name ≠ "<init>" ∧ oM 122 = 11 ∧ pM 122 = 4) ∧ rM 122 = (some .int) := ⟨by decide +kernel, rfl⟩
theorem lk_130 : (cres 13 130 = some 218 ∧ sM 218 = false ∧ (yM 218).name ≠ "<init>" ∧ oM 218 = 12 ∧ pM 218 = 4) ∧ rM 218 = (some .int) := ⟨by decide +kernel, rfl⟩
theorem lk_131 : (cres 13 131 = some 123 ∧ sM 123 = false ∧ (yM 123).name ≠ "<init>" ∧ oM 123 = 11 ∧ pM 123 = 2) ∧ rM 123 = (some .int) := ⟨by decide +kernel, rfl⟩
theorem lk_134 : (cres 13 134 = some 220 ∧ sM 220 = false ∧ (yM 220).name ≠ "<init>" ∧ oM 220 = 12 ∧ pM 220 = 2) ∧ rM 220 = (some .int) := ⟨by decide +kernel, rfl⟩
theorem lk_135 : (cres 13 135 = some 124 ∧ sM 124 = false ∧ (yM 124).name ≠ "<init>" ∧ oM 124 = 11 ∧ pM 124 = 2) ∧ rM 124 = (some .int) := ⟨by decide +kernel, rfl⟩
theorem lk_138 : (cres 13 138 = some 221 ∧ sM 221 = false ∧ (yM 221).name ≠ "<init>" ∧ oM 221 = 12 ∧ pM 221 = 2) ∧ rM 221 = (some .int) := ⟨by decide +kernel, rfl⟩
theorem lk_139 : (cres 13 139 = some 125 ∧ sM 125 = false ∧ (yM 125).name ≠ "<init>" ∧ oM 125 = 11 ∧ pM 125 = 1) ∧ rM 125 = (some .int) := ⟨by decide +kernel, rfl⟩
theorem lk_142 : (cres 13 142 = some 222 ∧ sM 222 = false ∧ (yM 222).name ≠ "<init>" ∧ oM 222 = 12 ∧ pM 222 = 1) ∧ rM 222 = (some .int) := ⟨by decide +kernel, rfl⟩
theorem lk_143 : (cres 13 143 = some 126 ∧ sM 126 = false ∧ (yM 126).name ≠ "<init>" ∧ oM 126 = 11 ∧ pM 126 = 3) ∧ rM 126 = (some .int) := ⟨by decide +kernel, rfl⟩
theorem lk_146 : (cres 13 146 = some 223 ∧ sM 223 = false ∧ (yM 223).name ≠ "<init>" ∧ oM 223 = 12 ∧ pM 223 = 3) ∧ rM 223 = (some .int) := ⟨by decide +kernel, rfl⟩
theorem lk_147 : (cres 13 147 = some 127 ∧ sM 127 = false ∧ (yM 127).name ≠ "<init>" ∧ oM 127 = 11 ∧ pM 127 = 2) ∧ rM 127 = (some .int) := ⟨by decide +kernel, rfl⟩
theorem lk_150 : (cres 13 150 = some 227 ∧ sM 227 = false ∧ (yM 227).name ≠ "<init>" ∧ oM 227 = 12 ∧ pM 227 = 2) ∧ rM 227 = (some .int) := ⟨by decide +kernel, rfl⟩
theorem lk_151 : (cres 13 151 = some 128 ∧ sM 128 = false ∧ (yM 128).name ≠ "<init>" ∧ oM 128 = 11 ∧ pM 128 = 3) ∧ rM 128 = (some .int) := ⟨by decide +kernel, rfl⟩
theorem lk_154 : (cres 13 154 = some 230 ∧ sM 230 = false ∧ (yM 230).name ≠ "<init>" ∧ oM 230 = 12 ∧ pM 230 = 3) ∧ rM 230 = (some .int) := ⟨by decide +kernel, rfl⟩
theorem lk_155 : (cres 13 155 = some 129 ∧ sM 129 = false ∧ (yM 129).name ≠ "<init>" ∧ oM 129 = 11 ∧ pM 129 = 3) ∧ rM 129 = (some .int) := ⟨by decide +kernel, rfl⟩
theorem lk_158 : (cres 13 158 = some 231 ∧ sM 231 = false ∧ (yM 231).name ≠ "<init>" ∧ oM 231 = 12 ∧ pM 231 = 3) ∧ rM 231 = (some .int) := ⟨by decide +kernel, rfl⟩
theorem lk_159 : (cres 13 159 = some 130 ∧ sM 130 = false ∧ (yM 130).name ≠ "<init>" ∧ oM 130 = 11 ∧ pM 130 = 3) ∧ rM 130 = (some .int) := ⟨by decide +kernel, rfl⟩
theorem lk_162 : (cres 13 162 = some 233 ∧ sM 233 = false ∧ (yM 233).name ≠ "<init>" ∧ oM 233 = 12 ∧ pM 233 = 3) ∧ rM 233 = (some .int) := ⟨by decide +kernel, rfl⟩
theorem lk_163 : (cres 13 163 = some 131 ∧ sM 131 = false ∧ (yM 131).name ≠ "<init>" ∧ oM 131 = 11 ∧ pM 131 = 3) ∧ rM 131 = (some .int) := ⟨by decide +kernel, rfl⟩
theorem lk_166 : (cres 13 166 = some 234 ∧ sM 234 = false ∧ (yM 234).name ≠ "<init>" ∧ oM 234 = 12 ∧ pM 234 = 3) ∧ rM 234 = (some .int) := ⟨by decide +kernel, rfl⟩
theorem lk_167 : (cres 13 167 = some 132 ∧ sM 132 = false ∧ (yM 132).name ≠ "<init>" ∧ oM 132 = 11 ∧ pM 132 = 2) ∧ rM 132 = (some .int) := ⟨by decide +kernel, rfl⟩
theorem lk_170 : (cres 13 170 = some 235 ∧ sM 235 = false ∧ (yM 235).name ≠ "<init>" ∧ oM 235 = 12 ∧ pM 235 = 2) ∧ rM 235 = (some .int) := ⟨by decide +kernel, rfl⟩
theorem lk_171 : (cres 13 171 = some 136 ∧ sM 136 = false ∧ (yM 136).name ≠ "<init>" ∧ oM 136 = 11 ∧ pM 136 = 3) ∧ rM 136 = (some .int) := ⟨by decide +kernel, rfl⟩
theorem lk_174 : (cres 13 174 = some 237 ∧ sM 237 = false ∧ (yM 237).name ≠ "<init>" ∧ oM 237 = 12 ∧ pM 237 = 3) ∧ rM 237 = (some .int) := ⟨by decide +kernel, rfl⟩
theorem lk_175 : (cres 13 175 = some 137 ∧ sM 137 = false ∧ (yM 137).name ≠ "<init>" ∧ oM 137 = 11 ∧ pM 137 = 1) ∧ rM 137 = (some .int) := ⟨by decide +kernel, rfl⟩
theorem lk_178 : (cres 13 178 = some 238 ∧ sM 238 = false ∧ (yM 238).name ≠ "<init>" ∧ oM 238 = 12 ∧ pM 238 = 1) ∧ rM 238 = (some .int) := ⟨by decide +kernel, rfl⟩
theorem lk_179 : (cres 13 179 = some 138 ∧ sM 138 = false ∧ (yM 138).name ≠ "<init>" ∧ oM 138 = 11 ∧ pM 138 = 3) ∧ rM 138 = (some .int) := ⟨by decide +kernel, rfl⟩
theorem lk_182 : (cres 13 182 = some 240 ∧ sM 240 = false ∧ (yM 240).name ≠ "<init>" ∧ oM 240 = 12 ∧ pM 240 = 3) ∧ rM 240 = (some .int) := ⟨by decide +kernel, rfl⟩
theorem lk_183 : (cres 13 183 = some 139 ∧ sM 139 = false ∧ (yM 139).name ≠ "<init>" ∧ oM 139 = 11 ∧ pM 139 = 3) ∧ rM 139 = (some .long) := ⟨by decide +kernel, rfl⟩
theorem lk_186 : (cres 13 186 = some 241 ∧ sM 241 = false ∧ (yM 241).name ≠ "<init>" ∧ oM 241 = 12 ∧ pM 241 = 3) ∧ rM 241 = (some .long) := ⟨by decide +kernel, rfl⟩
theorem lk_187 : (cres 13 187 = some 140 ∧ sM 140 = false ∧ (yM 140).name ≠ "<init>" ∧ oM 140 = 11 ∧ pM 140 = 5) ∧ rM 140 = (some .int) := ⟨by decide +kernel, rfl⟩
theorem lk_191 : (cres 13 191 = some 243 ∧ sM 243 = false ∧ (yM 243).name ≠ "<init>" ∧ oM 243 = 12 ∧ pM 243 = 5) ∧ rM 243 = (some .int) := ⟨by decide +kernel, rfl⟩
theorem lk_192 : (cres 13 192 = some 141 ∧ sM 141 = false ∧ (yM 141).name ≠ "<init>" ∧ oM 141 = 11 ∧ pM 141 = 1) ∧ rM 141 = (some .int) := ⟨by decide +kernel, rfl⟩
theorem lk_195 : (cres 13 195 = some 245 ∧ sM 245 = false ∧ (yM 245).name ≠ "<init>" ∧ oM 245 = 12 ∧ pM 245 = 1) ∧ rM 245 = (some .int) := ⟨by decide +kernel, rfl⟩
theorem lk_196 : (cres 13 196 = some 146 ∧ sM 146 = false ∧ (yM 146).name ≠ "<init>" ∧ oM 146 = 11 ∧ pM 146 = 1) ∧ rM 146 = (some .int) := ⟨by decide +kernel, rfl⟩
theorem lk_199 : (cres 13 199 = some 246 ∧ sM 246 = false ∧ (yM 246).name ≠ "<init>" ∧ oM 246 = 12 ∧ pM 246 = 1) ∧ rM 246 = (some .int) := ⟨by decide +kernel, rfl⟩
theorem lk_200 : (cres 13 200 = some 147 ∧ sM 147 = false ∧ (yM 147).name ≠ "<init>" ∧ oM 147 = 11 ∧ pM 147 = 2) ∧ rM 147 = (some .int) := ⟨by decide +kernel, rfl⟩
theorem lk_203 : (cres 13 203 = some 247 ∧ sM 247 = false ∧ (yM 247).name ≠ "<init>" ∧ oM 247 = 12 ∧ pM 247 = 2) ∧ rM 247 = (some .int) := ⟨by decide +kernel, rfl⟩
theorem lk_204 : (cres 13 204 = some 148 ∧ sM 148 = false ∧ (yM 148).name ≠ "<init>" ∧ oM 148 = 11 ∧ pM 148 = 0) ∧ rM 148 = (some .int) := ⟨by decide +kernel, rfl⟩
theorem lk_207 : (cres 13 207 = some 248 ∧ sM 248 = false ∧ (yM 248).name ≠ "<init>" ∧ oM 248 = 12 ∧ pM 248 = 0) ∧ rM 248 = (some .int) := ⟨by decide +kernel, rfl⟩
theorem lk_208 : (cres 13 208 = some 149 ∧ sM 149 = false ∧ (yM 149).name ≠ "<init>" ∧ oM 149 = 11 ∧ pM 149 = 0) ∧ rM 149 = (some .int) := ⟨by decide +kernel, rfl⟩
theorem lk_211 : (cres 13 211 = some 249 ∧ sM 249 = false ∧ (yM 249).name ≠ "<init>" ∧ oM 249 = 12 ∧ pM 249 = 0) ∧ rM 249 = (some .int) := ⟨by decide +kernel, rfl⟩
theorem lk_212 : (cres 13 212 = some 150 ∧ sM 150 = false ∧ (yM 150).name ≠ "<init>" ∧ oM 150 = 11 ∧ pM 150 = 1) ∧ rM 150 = (some .int) := ⟨by decide +kernel, rfl⟩
theorem lk_215 : (cres 13 215 = some 250 ∧ sM 250 = false ∧ (yM 250).name ≠ "<init>" ∧ oM 250 = 12 ∧ pM 250 = 1) ∧ rM 250 = (some .int) := ⟨by decide +kernel, rfl⟩

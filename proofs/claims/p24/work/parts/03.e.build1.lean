theorem dL_build_260 : decode cL_build 260 = .ok (.bipush 6, 2) := by decide +kernel
theorem dL_build_262 : decode cL_build 262 = .ok (.invokestatic 12, 3) := by decide +kernel
theorem dL_build_265 : decode cL_build 265 = .ok (.bipush 20, 2) := by decide +kernel
theorem dL_build_267 : decode cL_build 267 = .ok (.invokestatic 18, 3) := by decide +kernel
theorem dL_build_270 : decode cL_build 270 = .ok (.iadd, 1) := by decide +kernel
theorem dL_build_271 : decode cL_build 271 = .ok (.istore 5, 2) := by decide +kernel
theorem dL_build_273 : decode cL_build 273 = .ok (.iconst 0, 1) := by decide +kernel
theorem dL_build_274 : decode cL_build 274 = .ok (.istore 6, 2) := by decide +kernel
theorem dL_build_276 : decode cL_build 276 = .ok (.iload 6, 2) := by decide +kernel
theorem dL_build_278 : decode cL_build 278 = .ok (.iload 5, 2) := by decide +kernel
theorem dL_build_280 : decode cL_build 280 = .ok (.if_icmp .ge 173, 3) := by decide +kernel
theorem dL_build_283 : decode cL_build 283 = .ok (.aload_n 1, 1) := by decide +kernel
theorem dL_build_284 : decode cL_build 284 = .ok (.bipush 7, 2) := by decide +kernel
theorem dL_build_286 : decode cL_build 286 = .ok (.iload 6, 2) := by decide +kernel
theorem dL_build_288 : decode cL_build 288 = .ok (.iconst 3, 1) := by decide +kernel
theorem dL_build_289 : decode cL_build 289 = .ok (.irem, 1) := by decide +kernel
theorem dL_build_290 : decode cL_build 290 = .ok (.iadd, 1) := by decide +kernel
theorem dL_build_291 : decode cL_build 291 = .ok (.invokestatic 12, 3) := by decide +kernel
theorem dL_build_294 : decode cL_build 294 = .ok (.iload 6, 2) := by decide +kernel
theorem dL_build_296 : decode cL_build 296 = .ok (.iconst 3, 1) := by decide +kernel
theorem dL_build_297 : decode cL_build 297 = .ok (.idiv, 1) := by decide +kernel
theorem dL_build_298 : decode cL_build 298 = .ok (.ishr, 1) := by decide +kernel
theorem dL_build_299 : decode cL_build 299 = .ok (.bipush 7, 2) := by decide +kernel
theorem dL_build_301 : decode cL_build 301 = .ok (.iload 6, 2) := by decide +kernel
theorem dL_build_303 : decode cL_build 303 = .ok (.imul, 1) := by decide +kernel
theorem dL_build_304 : decode cL_build 304 = .ok (.iadd, 1) := by decide +kernel
theorem dL_build_305 : decode cL_build 305 = .ok (.istore 7, 2) := by decide +kernel
theorem dL_build_307 : decode cL_build 307 = .ok (.iload 7, 2) := by decide +kernel
theorem dL_build_309 : decode cL_build 309 = .ok (.iload 4, 2) := by decide +kernel
theorem dL_build_311 : decode cL_build 311 = .ok (.invokestatic 18, 3) := by decide +kernel
theorem dL_build_314 : decode cL_build 314 = .ok (.istore 8, 2) := by decide +kernel
theorem dL_build_316 : decode cL_build 316 = .ok (.iconst 2, 1) := by decide +kernel
theorem dL_build_317 : decode cL_build 317 = .ok (.iload 7, 2) := by decide +kernel
theorem dL_build_319 : decode cL_build 319 = .ok (.iconst 3, 1) := by decide +kernel
theorem dL_build_320 : decode cL_build 320 = .ok (.ishr, 1) := by decide +kernel
theorem dL_build_321 : decode cL_build 321 = .ok (.bipush 8, 2) := by decide +kernel
theorem dL_build_323 : decode cL_build 323 = .ok (.invokestatic 18, 3) := by decide +kernel
theorem dL_build_326 : decode cL_build 326 = .ok (.iadd, 1) := by decide +kernel
theorem dL_build_327 : decode cL_build 327 = .ok (.istore 9, 2) := by decide +kernel
theorem dL_build_329 : decode cL_build 329 = .ok (.aload_n 0, 1) := by decide +kernel
theorem dL_build_330 : decode cL_build 330 = .ok (.iload 8, 2) := by decide +kernel
theorem dL_build_332 : decode cL_build 332 = .ok (.iload 9, 2) := by decide +kernel
theorem dL_build_334 : decode cL_build 334 = .ok (.invokevirtual 55, 3) := by decide +kernel
theorem dL_build_337 : decode cL_build 337 = .ok (.iload 6, 2) := by decide +kernel
theorem dL_build_339 : decode cL_build 339 = .ok (.if_icmp .eq 5, 3) := by decide +kernel
theorem dL_build_342 : decode cL_build 342 = .ok (.aconst_null, 1) := by decide +kernel
theorem dL_build_343 : decode cL_build 343 = .ok (.areturn, 1) := by decide +kernel
theorem dL_build_344 : decode cL_build 344 = .ok (.aload_n 2, 1) := by decide +kernel
theorem dL_build_345 : decode cL_build 345 = .ok (.aload_n 2, 1) := by decide +kernel
theorem dL_build_346 : decode cL_build 346 = .ok (.getfield 58, 3) := by decide +kernel
theorem dL_build_349 : decode cL_build 349 = .ok (.bipush 8, 2) := by decide +kernel
theorem dL_build_351 : decode cL_build 351 = .ok (.newarray .int, 2) := by decide +kernel
theorem dL_build_353 : decode cL_build 353 = .ok (.dup, 1) := by decide +kernel
theorem dL_build_354 : decode cL_build 354 = .ok (.iconst 0, 1) := by decide +kernel
theorem dL_build_355 : decode cL_build 355 = .ok (.iload 8, 2) := by decide +kernel
theorem dL_build_357 : decode cL_build 357 = .ok (.iastore, 1) := by decide +kernel
theorem dL_build_358 : decode cL_build 358 = .ok (.dup, 1) := by decide +kernel
theorem dL_build_359 : decode cL_build 359 = .ok (.iconst 1, 1) := by decide +kernel
theorem dL_build_360 : decode cL_build 360 = .ok (.iload 9, 2) := by decide +kernel
theorem dL_build_362 : decode cL_build 362 = .ok (.iastore, 1) := by decide +kernel
theorem dL_build_363 : decode cL_build 363 = .ok (.dup, 1) := by decide +kernel
theorem dL_build_364 : decode cL_build 364 = .ok (.iconst 2, 1) := by decide +kernel
theorem dL_build_365 : decode cL_build 365 = .ok (.iconst 0, 1) := by decide +kernel
theorem dL_build_366 : decode cL_build 366 = .ok (.iastore, 1) := by decide +kernel
theorem dL_build_367 : decode cL_build 367 = .ok (.dup, 1) := by decide +kernel
theorem dL_build_368 : decode cL_build 368 = .ok (.iconst 3, 1) := by decide +kernel
theorem dL_build_369 : decode cL_build 369 = .ok (.iconst 0, 1) := by decide +kernel
theorem dL_build_370 : decode cL_build 370 = .ok (.iastore, 1) := by decide +kernel
theorem dL_build_371 : decode cL_build 371 = .ok (.dup, 1) := by decide +kernel
theorem dL_build_372 : decode cL_build 372 = .ok (.iconst 4, 1) := by decide +kernel
theorem dL_build_373 : decode cL_build 373 = .ok (.iconst 0, 1) := by decide +kernel
theorem dL_build_374 : decode cL_build 374 = .ok (.iastore, 1) := by decide +kernel
theorem dL_build_375 : decode cL_build 375 = .ok (.dup, 1) := by decide +kernel
theorem dL_build_376 : decode cL_build 376 = .ok (.iconst 5, 1) := by decide +kernel
theorem dL_build_377 : decode cL_build 377 = .ok (.iconst 0, 1) := by decide +kernel
theorem dL_build_378 : decode cL_build 378 = .ok (.iastore, 1) := by decide +kernel
theorem dL_build_379 : decode cL_build 379 = .ok (.dup, 1) := by decide +kernel
theorem dL_build_380 : decode cL_build 380 = .ok (.bipush 6, 2) := by decide +kernel
theorem dL_build_382 : decode cL_build 382 = .ok (.iconst 0, 1) := by decide +kernel
theorem dL_build_383 : decode cL_build 383 = .ok (.iastore, 1) := by decide +kernel
theorem dL_build_384 : decode cL_build 384 = .ok (.dup, 1) := by decide +kernel
theorem dL_build_385 : decode cL_build 385 = .ok (.bipush 7, 2) := by decide +kernel
theorem dL_build_387 : decode cL_build 387 = .ok (.iconst 0, 1) := by decide +kernel
theorem dL_build_388 : decode cL_build 388 = .ok (.iastore, 1) := by decide +kernel
theorem dL_build_389 : decode cL_build 389 = .ok (.invokestatic 49, 3) := by decide +kernel
theorem dL_build_392 : decode cL_build 392 = .ok (.putfield 58, 3) := by decide +kernel
theorem dL_build_395 : decode cL_build 395 = .ok (.iload 7, 2) := by decide +kernel
theorem dL_build_397 : decode cL_build 397 = .ok (.iconst 5, 1) := by decide +kernel
theorem dL_build_398 : decode cL_build 398 = .ok (.ishr, 1) := by decide +kernel
theorem dL_build_399 : decode cL_build 399 = .ok (.iconst 2, 1) := by decide +kernel
theorem dL_build_400 : decode cL_build 400 = .ok (.invokestatic 18, 3) := by decide +kernel
theorem dL_build_403 : decode cL_build 403 = .ok (.ifCond .ne 6, 3) := by decide +kernel
theorem dL_build_406 : decode cL_build 406 = .ok (.goto 41, 3) := by decide +kernel
theorem dL_build_409 : decode cL_build 409 = .ok (.aload_n 2, 1) := by decide +kernel
theorem dL_build_410 : decode cL_build 410 = .ok (.getfield 58, 3) := by decide +kernel
theorem dL_build_413 : decode cL_build 413 = .ok (.iload 6, 2) := by decide +kernel
theorem dL_build_415 : decode cL_build 415 = .ok (.aaload, 1) := by decide +kernel
theorem dL_build_416 : decode cL_build 416 = .ok (.iconst 2, 1) := by decide +kernel
theorem dL_build_417 : decode cL_build 417 = .ok (.iload 7, 2) := by decide +kernel
theorem dL_build_419 : decode cL_build 419 = .ok (.iconst 2, 1) := by decide +kernel
theorem dL_build_420 : decode cL_build 420 = .ok (.ishr, 1) := by decide +kernel
theorem dL_build_421 : decode cL_build 421 = .ok (.bipush 10, 2) := by decide +kernel
theorem dL_build_423 : decode cL_build 423 = .ok (.invokestatic 18, 3) := by decide +kernel
theorem dL_build_426 : decode cL_build 426 = .ok (.iastore, 1) := by decide +kernel
theorem dL_build_427 : decode cL_build 427 = .ok (.aload_n 0, 1) := by decide +kernel
theorem dL_build_428 : decode cL_build 428 = .ok (.iload 6, 2) := by decide +kernel
theorem dL_build_430 : decode cL_build 430 = .ok (.aload_n 2, 1) := by decide +kernel
theorem dL_build_431 : decode cL_build 431 = .ok (.getfield 58, 3) := by decide +kernel
theorem dL_build_434 : decode cL_build 434 = .ok (.iload 6, 2) := by decide +kernel
theorem dL_build_436 : decode cL_build 436 = .ok (.aaload, 1) := by decide +kernel
theorem dL_build_437 : decode cL_build 437 = .ok (.iconst 2, 1) := by decide +kernel
theorem dL_build_438 : decode cL_build 438 = .ok (.iaload, 1) := by decide +kernel
theorem dL_build_439 : decode cL_build 439 = .ok (.invokevirtual 61, 3) := by decide +kernel
theorem dL_build_442 : decode cL_build 442 = .ok (.ifCond .eq 5, 3) := by decide +kernel
theorem dL_build_445 : decode cL_build 445 = .ok (.aconst_null, 1) := by decide +kernel
theorem dL_build_446 : decode cL_build 446 = .ok (.areturn, 1) := by decide +kernel
theorem dL_build_447 : decode cL_build 447 = .ok (.iinc 6 1, 3) := by decide +kernel
theorem dL_build_450 : decode cL_build 450 = .ok (.goto (-174), 3) := by decide +kernel
theorem dL_build_453 : decode cL_build 453 = .ok (.iconst 0, 1) := by decide +kernel
theorem dL_build_454 : decode cL_build 454 = .ok (.istore 6, 2) := by decide +kernel
theorem dL_build_456 : decode cL_build 456 = .ok (.iload 6, 2) := by decide +kernel
theorem dL_build_458 : decode cL_build 458 = .ok (.bipush 10, 2) := by decide +kernel
theorem dL_build_460 : decode cL_build 460 = .ok (.if_icmp .ge 50, 3) := by decide +kernel
theorem dL_build_463 : decode cL_build 463 = .ok (.aload_n 2, 1) := by decide +kernel
theorem dL_build_464 : decode cL_build 464 = .ok (.getfield 64, 3) := by decide +kernel
theorem dL_build_467 : decode cL_build 467 = .ok (.iload 6, 2) := by decide +kernel
theorem dL_build_469 : decode cL_build 469 = .ok (.aload_n 1, 1) := by decide +kernel
theorem dL_build_470 : decode cL_build 470 = .ok (.bipush 10, 2) := by decide +kernel
theorem dL_build_472 : decode cL_build 472 = .ok (.invokestatic 12, 3) := by decide +kernel
theorem dL_build_475 : decode cL_build 475 = .ok (.iconst 2, 1) := by decide +kernel
theorem dL_build_476 : decode cL_build 476 = .ok (.iload 6, 2) := by decide +kernel
theorem dL_build_478 : decode cL_build 478 = .ok (.imul, 1) := by decide +kernel
theorem dL_build_479 : decode cL_build 479 = .ok (.ishr, 1) := by decide +kernel
theorem dL_build_480 : decode cL_build 480 = .ok (.bipush 10, 2) := by decide +kernel
theorem dL_build_482 : decode cL_build 482 = .ok (.invokestatic 18, 3) := by decide +kernel
theorem dL_build_485 : decode cL_build 485 = .ok (.iastore, 1) := by decide +kernel
theorem dL_build_486 : decode cL_build 486 = .ok (.aload_n 0, 1) := by decide +kernel
theorem dL_build_487 : decode cL_build 487 = .ok (.iload 6, 2) := by decide +kernel
theorem dL_build_489 : decode cL_build 489 = .ok (.aload_n 2, 1) := by decide +kernel
theorem dL_build_490 : decode cL_build 490 = .ok (.getfield 64, 3) := by decide +kernel
theorem dL_build_493 : decode cL_build 493 = .ok (.iload 6, 2) := by decide +kernel
theorem dL_build_495 : decode cL_build 495 = .ok (.iaload, 1) := by decide +kernel
theorem dL_build_496 : decode cL_build 496 = .ok (.invokevirtual 67, 3) := by decide +kernel
theorem dL_build_499 : decode cL_build 499 = .ok (.ifCond .eq 5, 3) := by decide +kernel
theorem dL_build_502 : decode cL_build 502 = .ok (.aconst_null, 1) := by decide +kernel
theorem dL_build_503 : decode cL_build 503 = .ok (.areturn, 1) := by decide +kernel
theorem dL_build_504 : decode cL_build 504 = .ok (.iinc 6 1, 3) := by decide +kernel
theorem dL_build_507 : decode cL_build 507 = .ok (.goto (-51), 3) := by decide +kernel
theorem dL_build_510 : decode cL_build 510 = .ok (.aload_n 1, 1) := by decide +kernel
theorem dL_build_511 : decode cL_build 511 = .ok (.bipush 11, 2) := by decide +kernel
theorem dL_build_513 : decode cL_build 513 = .ok (.invokestatic 12, 3) := by decide +kernel
theorem dL_build_516 : decode cL_build 516 = .ok (.iconst 5, 1) := by decide +kernel
theorem dL_build_517 : decode cL_build 517 = .ok (.invokestatic 18, 3) := by decide +kernel

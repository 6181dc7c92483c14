/-! the law: what its bytes say, 1 -/
theorem dl_0 : decode code 0 = .ok (.new 7, 3) := by decide +kernel
theorem dl_3 : decode code 3 = .ok (.dup, 1) := by decide +kernel
theorem dl_4 : decode code 4 = .ok (.invokespecial 9, 3) := by decide +kernel
theorem dl_7 : decode code 7 = .ok (.astore_n 1, 1) := by decide +kernel
theorem dl_8 : decode code 8 = .ok (.new 10, 3) := by decide +kernel
theorem dl_11 : decode code 11 = .ok (.dup, 1) := by decide +kernel
theorem dl_12 : decode code 12 = .ok (.invokespecial 12, 3) := by decide +kernel
theorem dl_15 : decode code 15 = .ok (.astore_n 2, 1) := by decide +kernel
theorem dl_16 : decode code 16 = .ok (.iconst 0, 1) := by decide +kernel
theorem dl_17 : decode code 17 = .ok (.istore_n 3, 1) := by decide +kernel
theorem dl_18 : decode code 18 = .ok (.iload_n 3, 1) := by decide +kernel
theorem dl_19 : decode code 19 = .ok (.aload_n 0, 1) := by decide +kernel
theorem dl_20 : decode code 20 = .ok (.arraylength, 1) := by decide +kernel
theorem dl_21 : decode code 21 = .ok (.bipush 6, 2) := by decide +kernel
theorem dl_23 : decode code 23 = .ok (.isub, 1) := by decide +kernel
theorem dl_24 : decode code 24 = .ok (.if_icmp .gt 2007, 3) := by decide +kernel
theorem dl_27 : decode code 27 = .ok (.aload_n 0, 1) := by decide +kernel
theorem dl_28 : decode code 28 = .ok (.iload_n 3, 1) := by decide +kernel
theorem dl_29 : decode code 29 = .ok (.iaload, 1) := by decide +kernel
theorem dl_30 : decode code 30 = .ok (.bipush 63, 2) := by decide +kernel
theorem dl_32 : decode code 32 = .ok (.iand, 1) := by decide +kernel
theorem dl_33 : decode code 33 = .ok (.tableswitch 1992 0 59 #[255, 268, 282, 296, 339, 412, 446, 509, 572, 595, 618, 641, 664, 697, 720, 753, 786, 819, 842, 875, 898, 921, 960, 1009, 1042, 1085, 1108, 1131, 1154, 1177, 1210, 1233, 1266, 1299, 1322, 1345, 1368, 1401, 1434, 1467, 1480, 1503, 1526, 1569, 1612, 1625, 1638, 1651, 1674, 1697, 1720, 1754, 1787, 1821, 1844, 1877, 1900, 1923, 1966, 1979], 255) := by decide +kernel
theorem dl_288 : decode code 288 = .ok (.aload_n 1, 1) := by decide +kernel
theorem dl_289 : decode code 289 = .ok (.invokevirtual 13, 3) := by decide +kernel
theorem dl_292 : decode code 292 = .ok (.aload_n 2, 1) := by decide +kernel
theorem dl_293 : decode code 293 = .ok (.invokevirtual 17, 3) := by decide +kernel
theorem dl_296 : decode code 296 = .ok (.if_icmp .eq 1729, 3) := by decide +kernel
theorem dl_299 : decode code 299 = .ok (.iconst 0, 1) := by decide +kernel
theorem dl_300 : decode code 300 = .ok (.ireturn, 1) := by decide +kernel
theorem dl_301 : decode code 301 = .ok (.aload_n 1, 1) := by decide +kernel
theorem dl_302 : decode code 302 = .ok (.invokevirtual 18, 3) := by decide +kernel
theorem dl_305 : decode code 305 = .ok (.aload_n 2, 1) := by decide +kernel
theorem dl_306 : decode code 306 = .ok (.invokevirtual 22, 3) := by decide +kernel
theorem dl_309 : decode code 309 = .ok (.lcmp, 1) := by decide +kernel
theorem dl_310 : decode code 310 = .ok (.ifCond .eq 1715, 3) := by decide +kernel
theorem dl_313 : decode code 313 = .ok (.iconst 0, 1) := by decide +kernel
theorem dl_314 : decode code 314 = .ok (.ireturn, 1) := by decide +kernel
theorem dl_315 : decode code 315 = .ok (.aload_n 1, 1) := by decide +kernel
theorem dl_316 : decode code 316 = .ok (.invokevirtual 23, 3) := by decide +kernel
theorem dl_319 : decode code 319 = .ok (.aload_n 2, 1) := by decide +kernel
theorem dl_320 : decode code 320 = .ok (.invokevirtual 26, 3) := by decide +kernel
theorem dl_323 : decode code 323 = .ok (.lcmp, 1) := by decide +kernel
theorem dl_324 : decode code 324 = .ok (.ifCond .eq 1701, 3) := by decide +kernel
theorem dl_327 : decode code 327 = .ok (.iconst 0, 1) := by decide +kernel
theorem dl_328 : decode code 328 = .ok (.ireturn, 1) := by decide +kernel
theorem dl_329 : decode code 329 = .ok (.aload_n 1, 1) := by decide +kernel
theorem dl_330 : decode code 330 = .ok (.aload_n 0, 1) := by decide +kernel
theorem dl_331 : decode code 331 = .ok (.iload_n 3, 1) := by decide +kernel
theorem dl_332 : decode code 332 = .ok (.iconst 1, 1) := by decide +kernel
theorem dl_333 : decode code 333 = .ok (.iadd, 1) := by decide +kernel
theorem dl_334 : decode code 334 = .ok (.iaload, 1) := by decide +kernel
theorem dl_335 : decode code 335 = .ok (.aload_n 0, 1) := by decide +kernel
theorem dl_336 : decode code 336 = .ok (.iload_n 3, 1) := by decide +kernel
theorem dl_337 : decode code 337 = .ok (.iconst 2, 1) := by decide +kernel
theorem dl_338 : decode code 338 = .ok (.iadd, 1) := by decide +kernel
theorem dl_339 : decode code 339 = .ok (.iaload, 1) := by decide +kernel
theorem dl_340 : decode code 340 = .ok (.aload_n 0, 1) := by decide +kernel
theorem dl_341 : decode code 341 = .ok (.iload_n 3, 1) := by decide +kernel
theorem dl_342 : decode code 342 = .ok (.iconst 3, 1) := by decide +kernel
theorem dl_343 : decode code 343 = .ok (.iadd, 1) := by decide +kernel
theorem dl_344 : decode code 344 = .ok (.iaload, 1) := by decide +kernel
theorem dl_345 : decode code 345 = .ok (.invokevirtual 27, 3) := by decide +kernel
theorem dl_348 : decode code 348 = .ok (.aload_n 2, 1) := by decide +kernel
theorem dl_349 : decode code 349 = .ok (.aload_n 0, 1) := by decide +kernel
theorem dl_350 : decode code 350 = .ok (.iload_n 3, 1) := by decide +kernel
theorem dl_351 : decode code 351 = .ok (.iconst 1, 1) := by decide +kernel
theorem dl_352 : decode code 352 = .ok (.iadd, 1) := by decide +kernel
theorem dl_353 : decode code 353 = .ok (.iaload, 1) := by decide +kernel
theorem dl_354 : decode code 354 = .ok (.aload_n 0, 1) := by decide +kernel
theorem dl_355 : decode code 355 = .ok (.iload_n 3, 1) := by decide +kernel
theorem dl_356 : decode code 356 = .ok (.iconst 2, 1) := by decide +kernel
theorem dl_357 : decode code 357 = .ok (.iadd, 1) := by decide +kernel
theorem dl_358 : decode code 358 = .ok (.iaload, 1) := by decide +kernel
theorem dl_359 : decode code 359 = .ok (.aload_n 0, 1) := by decide +kernel
theorem dl_360 : decode code 360 = .ok (.iload_n 3, 1) := by decide +kernel
theorem dl_361 : decode code 361 = .ok (.iconst 3, 1) := by decide +kernel
theorem dl_362 : decode code 362 = .ok (.iadd, 1) := by decide +kernel
theorem dl_363 : decode code 363 = .ok (.iaload, 1) := by decide +kernel
theorem dl_364 : decode code 364 = .ok (.invokevirtual 31, 3) := by decide +kernel
theorem dl_367 : decode code 367 = .ok (.if_icmp .eq 1658, 3) := by decide +kernel
theorem dl_370 : decode code 370 = .ok (.iconst 0, 1) := by decide +kernel
theorem dl_371 : decode code 371 = .ok (.ireturn, 1) := by decide +kernel
theorem dl_372 : decode code 372 = .ok (.aload_n 1, 1) := by decide +kernel
theorem dl_373 : decode code 373 = .ok (.aload_n 0, 1) := by decide +kernel
theorem dl_374 : decode code 374 = .ok (.iload_n 3, 1) := by decide +kernel
theorem dl_375 : decode code 375 = .ok (.iconst 1, 1) := by decide +kernel
theorem dl_376 : decode code 376 = .ok (.iadd, 1) := by decide +kernel
theorem dl_377 : decode code 377 = .ok (.iaload, 1) := by decide +kernel
theorem dl_378 : decode code 378 = .ok (.aload_n 0, 1) := by decide +kernel
theorem dl_379 : decode code 379 = .ok (.iload_n 3, 1) := by decide +kernel
theorem dl_380 : decode code 380 = .ok (.iconst 2, 1) := by decide +kernel
theorem dl_381 : decode code 381 = .ok (.iadd, 1) := by decide +kernel
theorem dl_382 : decode code 382 = .ok (.iaload, 1) := by decide +kernel
theorem dl_383 : decode code 383 = .ok (.aload_n 0, 1) := by decide +kernel
theorem dl_384 : decode code 384 = .ok (.iload_n 3, 1) := by decide +kernel
theorem dl_385 : decode code 385 = .ok (.iconst 3, 1) := by decide +kernel
theorem dl_386 : decode code 386 = .ok (.iadd, 1) := by decide +kernel
theorem dl_387 : decode code 387 = .ok (.iaload, 1) := by decide +kernel
theorem dl_388 : decode code 388 = .ok (.i2l, 1) := by decide +kernel
theorem dl_389 : decode code 389 = .ok (.bipush 32, 2) := by decide +kernel
theorem dl_391 : decode code 391 = .ok (.lshl, 1) := by decide +kernel
theorem dl_392 : decode code 392 = .ok (.aload_n 0, 1) := by decide +kernel
theorem dl_393 : decode code 393 = .ok (.iload_n 3, 1) := by decide +kernel
theorem dl_394 : decode code 394 = .ok (.iconst 4, 1) := by decide +kernel
theorem dl_395 : decode code 395 = .ok (.iadd, 1) := by decide +kernel
theorem dl_396 : decode code 396 = .ok (.iaload, 1) := by decide +kernel
theorem dl_397 : decode code 397 = .ok (.i2l, 1) := by decide +kernel
theorem dl_398 : decode code 398 = .ok (.ldc2_w 32, 3) := by decide +kernel
theorem dl_401 : decode code 401 = .ok (.land, 1) := by decide +kernel
theorem dl_402 : decode code 402 = .ok (.lor, 1) := by decide +kernel
theorem dl_403 : decode code 403 = .ok (.invokevirtual 34, 3) := by decide +kernel
theorem dl_406 : decode code 406 = .ok (.aload_n 2, 1) := by decide +kernel
theorem dl_407 : decode code 407 = .ok (.aload_n 0, 1) := by decide +kernel
theorem dl_408 : decode code 408 = .ok (.iload_n 3, 1) := by decide +kernel
theorem dl_409 : decode code 409 = .ok (.iconst 1, 1) := by decide +kernel
theorem dl_410 : decode code 410 = .ok (.iadd, 1) := by decide +kernel
theorem dl_411 : decode code 411 = .ok (.iaload, 1) := by decide +kernel
theorem dl_412 : decode code 412 = .ok (.aload_n 0, 1) := by decide +kernel
theorem dl_413 : decode code 413 = .ok (.iload_n 3, 1) := by decide +kernel
theorem dl_414 : decode code 414 = .ok (.iconst 2, 1) := by decide +kernel
theorem dl_415 : decode code 415 = .ok (.iadd, 1) := by decide +kernel
theorem dl_416 : decode code 416 = .ok (.iaload, 1) := by decide +kernel
theorem dl_417 : decode code 417 = .ok (.aload_n 0, 1) := by decide +kernel
theorem dl_418 : decode code 418 = .ok (.iload_n 3, 1) := by decide +kernel
theorem dl_419 : decode code 419 = .ok (.iconst 3, 1) := by decide +kernel
theorem dl_420 : decode code 420 = .ok (.iadd, 1) := by decide +kernel
theorem dl_421 : decode code 421 = .ok (.iaload, 1) := by decide +kernel
theorem dl_422 : decode code 422 = .ok (.i2l, 1) := by decide +kernel
theorem dl_423 : decode code 423 = .ok (.bipush 32, 2) := by decide +kernel
theorem dl_425 : decode code 425 = .ok (.lshl, 1) := by decide +kernel
theorem dl_426 : decode code 426 = .ok (.aload_n 0, 1) := by decide +kernel
theorem dl_427 : decode code 427 = .ok (.iload_n 3, 1) := by decide +kernel
theorem dl_428 : decode code 428 = .ok (.iconst 4, 1) := by decide +kernel
theorem dl_429 : decode code 429 = .ok (.iadd, 1) := by decide +kernel
theorem dl_430 : decode code 430 = .ok (.iaload, 1) := by decide +kernel
theorem dl_431 : decode code 431 = .ok (.i2l, 1) := by decide +kernel
theorem dl_432 : decode code 432 = .ok (.ldc2_w 32, 3) := by decide +kernel
theorem dl_435 : decode code 435 = .ok (.land, 1) := by decide +kernel
theorem dl_436 : decode code 436 = .ok (.lor, 1) := by decide +kernel
theorem dl_437 : decode code 437 = .ok (.invokevirtual 38, 3) := by decide +kernel
theorem dl_440 : decode code 440 = .ok (.if_icmp .eq 1585, 3) := by decide +kernel
theorem dl_443 : decode code 443 = .ok (.iconst 0, 1) := by decide +kernel
theorem dl_444 : decode code 444 = .ok (.ireturn, 1) := by decide +kernel
theorem dl_445 : decode code 445 = .ok (.aload_n 1, 1) := by decide +kernel
theorem dl_446 : decode code 446 = .ok (.aload_n 0, 1) := by decide +kernel
theorem dl_447 : decode code 447 = .ok (.iload_n 3, 1) := by decide +kernel
theorem dl_448 : decode code 448 = .ok (.iconst 1, 1) := by decide +kernel
theorem dl_449 : decode code 449 = .ok (.iadd, 1) := by decide +kernel
theorem dl_450 : decode code 450 = .ok (.iaload, 1) := by decide +kernel
theorem dl_451 : decode code 451 = .ok (.aload_n 0, 1) := by decide +kernel
theorem dl_452 : decode code 452 = .ok (.iload_n 3, 1) := by decide +kernel
theorem dl_453 : decode code 453 = .ok (.iconst 2, 1) := by decide +kernel
theorem dl_454 : decode code 454 = .ok (.iadd, 1) := by decide +kernel
theorem dl_455 : decode code 455 = .ok (.iaload, 1) := by decide +kernel
theorem dl_456 : decode code 456 = .ok (.invokevirtual 39, 3) := by decide +kernel
theorem dl_459 : decode code 459 = .ok (.aload_n 2, 1) := by decide +kernel
theorem dl_460 : decode code 460 = .ok (.aload_n 0, 1) := by decide +kernel
theorem dl_461 : decode code 461 = .ok (.iload_n 3, 1) := by decide +kernel
theorem dl_462 : decode code 462 = .ok (.iconst 1, 1) := by decide +kernel
theorem dl_463 : decode code 463 = .ok (.iadd, 1) := by decide +kernel
theorem dl_464 : decode code 464 = .ok (.iaload, 1) := by decide +kernel
theorem dl_465 : decode code 465 = .ok (.aload_n 0, 1) := by decide +kernel
theorem dl_466 : decode code 466 = .ok (.iload_n 3, 1) := by decide +kernel
theorem dl_467 : decode code 467 = .ok (.iconst 2, 1) := by decide +kernel
theorem dl_468 : decode code 468 = .ok (.iadd, 1) := by decide +kernel
theorem dl_469 : decode code 469 = .ok (.iaload, 1) := by decide +kernel
theorem dl_470 : decode code 470 = .ok (.invokevirtual 43, 3) := by decide +kernel
theorem dl_473 : decode code 473 = .ok (.lcmp, 1) := by decide +kernel
theorem dl_474 : decode code 474 = .ok (.ifCond .eq 1551, 3) := by decide +kernel
theorem dl_477 : decode code 477 = .ok (.iconst 0, 1) := by decide +kernel
theorem dl_478 : decode code 478 = .ok (.ireturn, 1) := by decide +kernel
theorem dl_479 : decode code 479 = .ok (.aload_n 1, 1) := by decide +kernel
theorem dl_480 : decode code 480 = .ok (.aload_n 0, 1) := by decide +kernel
theorem dl_481 : decode code 481 = .ok (.iload_n 3, 1) := by decide +kernel
theorem dl_482 : decode code 482 = .ok (.iconst 1, 1) := by decide +kernel
theorem dl_483 : decode code 483 = .ok (.iadd, 1) := by decide +kernel
theorem dl_484 : decode code 484 = .ok (.iaload, 1) := by decide +kernel
theorem dl_485 : decode code 485 = .ok (.aload_n 0, 1) := by decide +kernel
theorem dl_486 : decode code 486 = .ok (.iload_n 3, 1) := by decide +kernel
theorem dl_487 : decode code 487 = .ok (.iconst 2, 1) := by decide +kernel
theorem dl_488 : decode code 488 = .ok (.iadd, 1) := by decide +kernel
theorem dl_489 : decode code 489 = .ok (.iaload, 1) := by decide +kernel
theorem dl_490 : decode code 490 = .ok (.aload_n 0, 1) := by decide +kernel
theorem dl_491 : decode code 491 = .ok (.iload_n 3, 1) := by decide +kernel
theorem dl_492 : decode code 492 = .ok (.iconst 3, 1) := by decide +kernel
theorem dl_493 : decode code 493 = .ok (.iadd, 1) := by decide +kernel
theorem dl_494 : decode code 494 = .ok (.iaload, 1) := by decide +kernel
theorem dl_495 : decode code 495 = .ok (.aload_n 0, 1) := by decide +kernel
theorem dl_496 : decode code 496 = .ok (.iload_n 3, 1) := by decide +kernel
theorem dl_497 : decode code 497 = .ok (.iconst 4, 1) := by decide +kernel
theorem dl_498 : decode code 498 = .ok (.iadd, 1) := by decide +kernel
theorem dl_499 : decode code 499 = .ok (.iaload, 1) := by decide +kernel
theorem dl_500 : decode code 500 = .ok (.aload_n 0, 1) := by decide +kernel
theorem dl_501 : decode code 501 = .ok (.iload_n 3, 1) := by decide +kernel
theorem dl_502 : decode code 502 = .ok (.iconst 5, 1) := by decide +kernel
theorem dl_503 : decode code 503 = .ok (.iadd, 1) := by decide +kernel
theorem dl_504 : decode code 504 = .ok (.iaload, 1) := by decide +kernel
theorem dl_505 : decode code 505 = .ok (.invokevirtual 44, 3) := by decide +kernel

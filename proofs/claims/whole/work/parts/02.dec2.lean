theorem dX8_layWater_334 : decode cX8_layWater 334 = .ok (.iconst 0, 1) := by decide +kernel
theorem dX8_layWater_335 : decode cX8_layWater 335 = .ok (.istore_n 1, 1) := by decide +kernel
theorem dX8_layWater_336 : decode cX8_layWater 336 = .ok (.iload_n 1, 1) := by decide +kernel
theorem dX8_layWater_337 : decode cX8_layWater 337 = .ok (.aload_n 0, 1) := by decide +kernel
theorem dX8_layWater_338 : decode cX8_layWater 338 = .ok (.getfield 7, 3) := by decide +kernel
theorem dX8_layWater_341 : decode cX8_layWater 341 = .ok (.aload_n 0, 1) := by decide +kernel
theorem dX8_layWater_342 : decode cX8_layWater 342 = .ok (.getfield 7, 3) := by decide +kernel
theorem dX8_layWater_345 : decode cX8_layWater 345 = .ok (.imul, 1) := by decide +kernel
theorem dX8_layWater_346 : decode cX8_layWater 346 = .ok (.if_icmp .ge 16, 3) := by decide +kernel
theorem dX8_layWater_349 : decode cX8_layWater 349 = .ok (.aload_n 0, 1) := by decide +kernel
theorem dX8_layWater_350 : decode cX8_layWater 350 = .ok (.getfield 41, 3) := by decide +kernel
theorem dX8_layWater_353 : decode cX8_layWater 353 = .ok (.iload_n 1, 1) := by decide +kernel
theorem dX8_layWater_354 : decode cX8_layWater 354 = .ok (.iconst 1, 1) := by decide +kernel
theorem dX8_layWater_355 : decode cX8_layWater 355 = .ok (.iastore, 1) := by decide +kernel
theorem dX8_layWater_356 : decode cX8_layWater 356 = .ok (.iinc 1 1, 3) := by decide +kernel
theorem dX8_layWater_359 : decode cX8_layWater 359 = .ok (.goto (-23), 3) := by decide +kernel
theorem dX8_layWater_362 : decode cX8_layWater 362 = .ok (.aload_n 0, 1) := by decide +kernel
theorem dX8_layWater_363 : decode cX8_layWater 363 = .ok (.getfield 7, 3) := by decide +kernel
theorem dX8_layWater_366 : decode cX8_layWater 366 = .ok (.aload_n 0, 1) := by decide +kernel
theorem dX8_layWater_367 : decode cX8_layWater 367 = .ok (.getfield 7, 3) := by decide +kernel
theorem dX8_layWater_370 : decode cX8_layWater 370 = .ok (.imul, 1) := by decide +kernel
theorem dX8_layWater_371 : decode cX8_layWater 371 = .ok (.iconst 1, 1) := by decide +kernel
theorem dX8_layWater_372 : decode cX8_layWater 372 = .ok (.isub, 1) := by decide +kernel
theorem dX8_layWater_373 : decode cX8_layWater 373 = .ok (.istore_n 1, 1) := by decide +kernel
theorem dX8_layWater_374 : decode cX8_layWater 374 = .ok (.iload_n 1, 1) := by decide +kernel
theorem dX8_layWater_375 : decode cX8_layWater 375 = .ok (.ifCond .lt 45, 3) := by decide +kernel
theorem dX8_layWater_378 : decode cX8_layWater 378 = .ok (.aload_n 0, 1) := by decide +kernel
theorem dX8_layWater_379 : decode cX8_layWater 379 = .ok (.getfield 38, 3) := by decide +kernel
theorem dX8_layWater_382 : decode cX8_layWater 382 = .ok (.iload_n 1, 1) := by decide +kernel
theorem dX8_layWater_383 : decode cX8_layWater 383 = .ok (.iaload, 1) := by decide +kernel
theorem dX8_layWater_384 : decode cX8_layWater 384 = .ok (.istore_n 2, 1) := by decide +kernel
theorem dX8_layWater_385 : decode cX8_layWater 385 = .ok (.aload_n 0, 1) := by decide +kernel
theorem dX8_layWater_386 : decode cX8_layWater 386 = .ok (.getfield 32, 3) := by decide +kernel
theorem dX8_layWater_389 : decode cX8_layWater 389 = .ok (.iload_n 2, 1) := by decide +kernel
theorem dX8_layWater_390 : decode cX8_layWater 390 = .ok (.iaload, 1) := by decide +kernel
theorem dX8_layWater_391 : decode cX8_layWater 391 = .ok (.ifCond .lt 23, 3) := by decide +kernel
theorem dX8_layWater_394 : decode cX8_layWater 394 = .ok (.aload_n 0, 1) := by decide +kernel
theorem dX8_layWater_395 : decode cX8_layWater 395 = .ok (.getfield 41, 3) := by decide +kernel
theorem dX8_layWater_398 : decode cX8_layWater 398 = .ok (.aload_n 0, 1) := by decide +kernel
theorem dX8_layWater_399 : decode cX8_layWater 399 = .ok (.getfield 32, 3) := by decide +kernel
theorem dX8_layWater_402 : decode cX8_layWater 402 = .ok (.iload_n 2, 1) := by decide +kernel
theorem dX8_layWater_403 : decode cX8_layWater 403 = .ok (.iaload, 1) := by decide +kernel
theorem dX8_layWater_404 : decode cX8_layWater 404 = .ok (.dup2, 1) := by decide +kernel
theorem dX8_layWater_405 : decode cX8_layWater 405 = .ok (.iaload, 1) := by decide +kernel
theorem dX8_layWater_406 : decode cX8_layWater 406 = .ok (.aload_n 0, 1) := by decide +kernel
theorem dX8_layWater_407 : decode cX8_layWater 407 = .ok (.getfield 41, 3) := by decide +kernel
theorem dX8_layWater_410 : decode cX8_layWater 410 = .ok (.iload_n 2, 1) := by decide +kernel
theorem dX8_layWater_411 : decode cX8_layWater 411 = .ok (.iaload, 1) := by decide +kernel
theorem dX8_layWater_412 : decode cX8_layWater 412 = .ok (.iadd, 1) := by decide +kernel
theorem dX8_layWater_413 : decode cX8_layWater 413 = .ok (.iastore, 1) := by decide +kernel
theorem dX8_layWater_414 : decode cX8_layWater 414 = .ok (.iinc 1 (-1), 3) := by decide +kernel
theorem dX8_layWater_417 : decode cX8_layWater 417 = .ok (.goto (-43), 3) := by decide +kernel
theorem dX8_layWater_420 : decode cX8_layWater 420 = .ok (.iconst 0, 1) := by decide +kernel
theorem dX8_layWater_421 : decode cX8_layWater 421 = .ok (.istore_n 1, 1) := by decide +kernel
theorem dX8_layWater_422 : decode cX8_layWater 422 = .ok (.iload_n 1, 1) := by decide +kernel
theorem dX8_layWater_423 : decode cX8_layWater 423 = .ok (.aload_n 0, 1) := by decide +kernel
theorem dX8_layWater_424 : decode cX8_layWater 424 = .ok (.getfield 7, 3) := by decide +kernel
theorem dX8_layWater_427 : decode cX8_layWater 427 = .ok (.aload_n 0, 1) := by decide +kernel
theorem dX8_layWater_428 : decode cX8_layWater 428 = .ok (.getfield 7, 3) := by decide +kernel
theorem dX8_layWater_431 : decode cX8_layWater 431 = .ok (.imul, 1) := by decide +kernel
theorem dX8_layWater_432 : decode cX8_layWater 432 = .ok (.if_icmp .ge 67, 3) := by decide +kernel
theorem dX8_layWater_435 : decode cX8_layWater 435 = .ok (.aload_n 0, 1) := by decide +kernel
theorem dX8_layWater_436 : decode cX8_layWater 436 = .ok (.getfield 44, 3) := by decide +kernel
theorem dX8_layWater_439 : decode cX8_layWater 439 = .ok (.iload_n 1, 1) := by decide +kernel
theorem dX8_layWater_440 : decode cX8_layWater 440 = .ok (.aload_n 0, 1) := by decide +kernel
theorem dX8_layWater_441 : decode cX8_layWater 441 = .ok (.iload_n 1, 1) := by decide +kernel
theorem dX8_layWater_442 : decode cX8_layWater 442 = .ok (.invokevirtual 117, 3) := by decide +kernel
theorem dX8_layWater_445 : decode cX8_layWater 445 = .ok (.ifCond .eq 7, 3) := by decide +kernel
theorem dX8_layWater_448 : decode cX8_layWater 448 = .ok (.iconst 1, 1) := by decide +kernel
theorem dX8_layWater_449 : decode cX8_layWater 449 = .ok (.goto 43, 3) := by decide +kernel
theorem dX8_layWater_452 : decode cX8_layWater 452 = .ok (.aload_n 0, 1) := by decide +kernel
theorem dX8_layWater_453 : decode cX8_layWater 453 = .ok (.getfield 29, 3) := by decide +kernel
theorem dX8_layWater_456 : decode cX8_layWater 456 = .ok (.iload_n 1, 1) := by decide +kernel
theorem dX8_layWater_457 : decode cX8_layWater 457 = .ok (.iaload, 1) := by decide +kernel
theorem dX8_layWater_458 : decode cX8_layWater 458 = .ok (.aload_n 0, 1) := by decide +kernel
theorem dX8_layWater_459 : decode cX8_layWater 459 = .ok (.getfield 26, 3) := by decide +kernel
theorem dX8_layWater_462 : decode cX8_layWater 462 = .ok (.iload_n 1, 1) := by decide +kernel
theorem dX8_layWater_463 : decode cX8_layWater 463 = .ok (.iaload, 1) := by decide +kernel
theorem dX8_layWater_464 : decode cX8_layWater 464 = .ok (.if_icmp .le 7, 3) := by decide +kernel
theorem dX8_layWater_467 : decode cX8_layWater 467 = .ok (.iconst 2, 1) := by decide +kernel
theorem dX8_layWater_468 : decode cX8_layWater 468 = .ok (.goto 24, 3) := by decide +kernel
theorem dX8_layWater_471 : decode cX8_layWater 471 = .ok (.aload_n 0, 1) := by decide +kernel
theorem dX8_layWater_472 : decode cX8_layWater 472 = .ok (.getfield 41, 3) := by decide +kernel
theorem dX8_layWater_475 : decode cX8_layWater 475 = .ok (.iload_n 1, 1) := by decide +kernel
theorem dX8_layWater_476 : decode cX8_layWater 476 = .ok (.iaload, 1) := by decide +kernel
theorem dX8_layWater_477 : decode cX8_layWater 477 = .ok (.aload_n 0, 1) := by decide +kernel
theorem dX8_layWater_478 : decode cX8_layWater 478 = .ok (.getfield 13, 3) := by decide +kernel
theorem dX8_layWater_481 : decode cX8_layWater 481 = .ok (.iconst 1, 1) := by decide +kernel
theorem dX8_layWater_482 : decode cX8_layWater 482 = .ok (.iaload, 1) := by decide +kernel
theorem dX8_layWater_483 : decode cX8_layWater 483 = .ok (.if_icmp .lt 7, 3) := by decide +kernel
theorem dX8_layWater_486 : decode cX8_layWater 486 = .ok (.iconst 4, 1) := by decide +kernel
theorem dX8_layWater_487 : decode cX8_layWater 487 = .ok (.goto 5, 3) := by decide +kernel
theorem dX8_layWater_490 : decode cX8_layWater 490 = .ok (.bipush 8, 2) := by decide +kernel
theorem dX8_layWater_492 : decode cX8_layWater 492 = .ok (.iastore, 1) := by decide +kernel
theorem dX8_layWater_493 : decode cX8_layWater 493 = .ok (.iinc 1 1, 3) := by decide +kernel
theorem dX8_layWater_496 : decode cX8_layWater 496 = .ok (.goto (-74), 3) := by decide +kernel
theorem dX8_layWater_499 : decode cX8_layWater 499 = .ok (.return_, 1) := by decide +kernel
theorem dX8_worth_0 : decode cX8_worth 0 = .ok (.aload_n 0, 1) := by decide +kernel
theorem dX8_worth_1 : decode cX8_worth 1 = .ok (.getfield 44, 3) := by decide +kernel
theorem dX8_worth_4 : decode cX8_worth 4 = .ok (.iload_n 1, 1) := by decide +kernel
theorem dX8_worth_5 : decode cX8_worth 5 = .ok (.iaload, 1) := by decide +kernel
theorem dX8_worth_6 : decode cX8_worth 6 = .ok (.bipush 8, 2) := by decide +kernel
theorem dX8_worth_8 : decode cX8_worth 8 = .ok (.if_icmp .eq 6, 3) := by decide +kernel
theorem dX8_worth_11 : decode cX8_worth 11 = .ok (.bipush (-6), 2) := by decide +kernel
theorem dX8_worth_13 : decode cX8_worth 13 = .ok (.ireturn, 1) := by decide +kernel
theorem dX8_worth_14 : decode cX8_worth 14 = .ok (.iconst 0, 1) := by decide +kernel
theorem dX8_worth_15 : decode cX8_worth 15 = .ok (.istore_n 2, 1) := by decide +kernel
theorem dX8_worth_16 : decode cX8_worth 16 = .ok (.iconst 0, 1) := by decide +kernel
theorem dX8_worth_17 : decode cX8_worth 17 = .ok (.istore_n 3, 1) := by decide +kernel
theorem dX8_worth_18 : decode cX8_worth 18 = .ok (.iload_n 3, 1) := by decide +kernel
theorem dX8_worth_19 : decode cX8_worth 19 = .ok (.iconst 4, 1) := by decide +kernel
theorem dX8_worth_20 : decode cX8_worth 20 = .ok (.if_icmp .ge 56, 3) := by decide +kernel
theorem dX8_worth_23 : decode cX8_worth 23 = .ok (.aload_n 0, 1) := by decide +kernel
theorem dX8_worth_24 : decode cX8_worth 24 = .ok (.iload_n 1, 1) := by decide +kernel
theorem dX8_worth_25 : decode cX8_worth 25 = .ok (.iload_n 3, 1) := by decide +kernel
theorem dX8_worth_26 : decode cX8_worth 26 = .ok (.invokevirtual 114, 3) := by decide +kernel
theorem dX8_worth_29 : decode cX8_worth 29 = .ok (.istore 4, 2) := by decide +kernel
theorem dX8_worth_31 : decode cX8_worth 31 = .ok (.iload 4, 2) := by decide +kernel
theorem dX8_worth_33 : decode cX8_worth 33 = .ok (.ifCond .lt 35, 3) := by decide +kernel
theorem dX8_worth_36 : decode cX8_worth 36 = .ok (.aload_n 0, 1) := by decide +kernel
theorem dX8_worth_37 : decode cX8_worth 37 = .ok (.getfield 44, 3) := by decide +kernel
theorem dX8_worth_40 : decode cX8_worth 40 = .ok (.iload 4, 2) := by decide +kernel
theorem dX8_worth_42 : decode cX8_worth 42 = .ok (.iaload, 1) := by decide +kernel
theorem dX8_worth_43 : decode cX8_worth 43 = .ok (.iconst 4, 1) := by decide +kernel
theorem dX8_worth_44 : decode cX8_worth 44 = .ok (.if_icmp .ne 24, 3) := by decide +kernel
theorem dX8_worth_47 : decode cX8_worth 47 = .ok (.aload_n 0, 1) := by decide +kernel
theorem dX8_worth_48 : decode cX8_worth 48 = .ok (.getfield 41, 3) := by decide +kernel
theorem dX8_worth_51 : decode cX8_worth 51 = .ok (.iload 4, 2) := by decide +kernel
theorem dX8_worth_53 : decode cX8_worth 53 = .ok (.iaload, 1) := by decide +kernel
theorem dX8_worth_54 : decode cX8_worth 54 = .ok (.iload_n 2, 1) := by decide +kernel
theorem dX8_worth_55 : decode cX8_worth 55 = .ok (.if_icmp .le 13, 3) := by decide +kernel
theorem dX8_worth_58 : decode cX8_worth 58 = .ok (.aload_n 0, 1) := by decide +kernel
theorem dX8_worth_59 : decode cX8_worth 59 = .ok (.getfield 41, 3) := by decide +kernel
theorem dX8_worth_62 : decode cX8_worth 62 = .ok (.iload 4, 2) := by decide +kernel
theorem dX8_worth_64 : decode cX8_worth 64 = .ok (.iaload, 1) := by decide +kernel
theorem dX8_worth_65 : decode cX8_worth 65 = .ok (.goto 4, 3) := by decide +kernel
theorem dX8_worth_68 : decode cX8_worth 68 = .ok (.iload_n 2, 1) := by decide +kernel
theorem dX8_worth_69 : decode cX8_worth 69 = .ok (.istore_n 2, 1) := by decide +kernel
theorem dX8_worth_70 : decode cX8_worth 70 = .ok (.iinc 3 1, 3) := by decide +kernel
theorem dX8_worth_73 : decode cX8_worth 73 = .ok (.goto (-55), 3) := by decide +kernel
theorem dX8_worth_76 : decode cX8_worth 76 = .ok (.sipush 500, 3) := by decide +kernel
theorem dX8_worth_79 : decode cX8_worth 79 = .ok (.aload_n 0, 1) := by decide +kernel
theorem dX8_worth_80 : decode cX8_worth 80 = .ok (.getfield 26, 3) := by decide +kernel
theorem dX8_worth_83 : decode cX8_worth 83 = .ok (.iload_n 1, 1) := by decide +kernel
theorem dX8_worth_84 : decode cX8_worth 84 = .ok (.iaload, 1) := by decide +kernel
theorem dX8_worth_85 : decode cX8_worth 85 = .ok (.isub, 1) := by decide +kernel
theorem dX8_worth_86 : decode cX8_worth 86 = .ok (.iload_n 2, 1) := by decide +kernel
theorem dX8_worth_87 : decode cX8_worth 87 = .ok (.bipush 60, 2) := by decide +kernel
theorem dX8_worth_89 : decode cX8_worth 89 = .ok (.if_icmp .le 8, 3) := by decide +kernel
theorem dX8_worth_92 : decode cX8_worth 92 = .ok (.bipush 60, 2) := by decide +kernel
theorem dX8_worth_94 : decode cX8_worth 94 = .ok (.goto 4, 3) := by decide +kernel
theorem dX8_worth_97 : decode cX8_worth 97 = .ok (.iload_n 2, 1) := by decide +kernel
theorem dX8_worth_98 : decode cX8_worth 98 = .ok (.iadd, 1) := by decide +kernel
theorem dX8_worth_99 : decode cX8_worth 99 = .ok (.ireturn, 1) := by decide +kernel
theorem dX8_isFar_0 : decode cX8_isFar 0 = .ok (.iconst 1, 1) := by decide +kernel
theorem dX8_isFar_1 : decode cX8_isFar 1 = .ok (.istore_n 2, 1) := by decide +kernel
theorem dX8_isFar_2 : decode cX8_isFar 2 = .ok (.iconst 0, 1) := by decide +kernel
theorem dX8_isFar_3 : decode cX8_isFar 3 = .ok (.istore_n 3, 1) := by decide +kernel
theorem dX8_isFar_4 : decode cX8_isFar 4 = .ok (.iload_n 3, 1) := by decide +kernel
theorem dX8_isFar_5 : decode cX8_isFar 5 = .ok (.aload_n 0, 1) := by decide +kernel
theorem dX8_isFar_6 : decode cX8_isFar 6 = .ok (.getfield 134, 3) := by decide +kernel
theorem dX8_isFar_9 : decode cX8_isFar 9 = .ok (.if_icmp .ge 95, 3) := by decide +kernel
theorem dX8_isFar_12 : decode cX8_isFar 12 = .ok (.iload_n 1, 1) := by decide +kernel
theorem dX8_isFar_13 : decode cX8_isFar 13 = .ok (.aload_n 0, 1) := by decide +kernel
theorem dX8_isFar_14 : decode cX8_isFar 14 = .ok (.getfield 7, 3) := by decide +kernel
theorem dX8_isFar_17 : decode cX8_isFar 17 = .ok (.irem, 1) := by decide +kernel
theorem dX8_isFar_18 : decode cX8_isFar 18 = .ok (.aload_n 0, 1) := by decide +kernel
theorem dX8_isFar_19 : decode cX8_isFar 19 = .ok (.getfield 47, 3) := by decide +kernel
theorem dX8_isFar_22 : decode cX8_isFar 22 = .ok (.iload_n 3, 1) := by decide +kernel
theorem dX8_isFar_23 : decode cX8_isFar 23 = .ok (.iaload, 1) := by decide +kernel
theorem dX8_isFar_24 : decode cX8_isFar 24 = .ok (.aload_n 0, 1) := by decide +kernel
theorem dX8_isFar_25 : decode cX8_isFar 25 = .ok (.getfield 7, 3) := by decide +kernel
theorem dX8_isFar_28 : decode cX8_isFar 28 = .ok (.irem, 1) := by decide +kernel
theorem dX8_isFar_29 : decode cX8_isFar 29 = .ok (.isub, 1) := by decide +kernel
theorem dX8_isFar_30 : decode cX8_isFar 30 = .ok (.istore 4, 2) := by decide +kernel
theorem dX8_isFar_32 : decode cX8_isFar 32 = .ok (.iload_n 1, 1) := by decide +kernel
theorem dX8_isFar_33 : decode cX8_isFar 33 = .ok (.aload_n 0, 1) := by decide +kernel
theorem dX8_isFar_34 : decode cX8_isFar 34 = .ok (.getfield 7, 3) := by decide +kernel
theorem dX8_isFar_37 : decode cX8_isFar 37 = .ok (.idiv, 1) := by decide +kernel
theorem dX8_isFar_38 : decode cX8_isFar 38 = .ok (.aload_n 0, 1) := by decide +kernel
theorem dX8_isFar_39 : decode cX8_isFar 39 = .ok (.getfield 47, 3) := by decide +kernel
theorem dX8_isFar_42 : decode cX8_isFar 42 = .ok (.iload_n 3, 1) := by decide +kernel
theorem dX8_isFar_43 : decode cX8_isFar 43 = .ok (.iaload, 1) := by decide +kernel
theorem dX8_isFar_44 : decode cX8_isFar 44 = .ok (.aload_n 0, 1) := by decide +kernel
theorem dX8_isFar_45 : decode cX8_isFar 45 = .ok (.getfield 7, 3) := by decide +kernel
theorem dX8_isFar_48 : decode cX8_isFar 48 = .ok (.idiv, 1) := by decide +kernel
theorem dX8_isFar_49 : decode cX8_isFar 49 = .ok (.isub, 1) := by decide +kernel
theorem dX8_isFar_50 : decode cX8_isFar 50 = .ok (.istore 5, 2) := by decide +kernel
theorem dX8_isFar_52 : decode cX8_isFar 52 = .ok (.iload_n 2, 1) := by decide +kernel
theorem dX8_isFar_53 : decode cX8_isFar 53 = .ok (.ifCond .eq 43, 3) := by decide +kernel
theorem dX8_isFar_56 : decode cX8_isFar 56 = .ok (.iload 4, 2) := by decide +kernel
theorem dX8_isFar_58 : decode cX8_isFar 58 = .ok (.ifCond .ge 9, 3) := by decide +kernel
theorem dX8_isFar_61 : decode cX8_isFar 61 = .ok (.iload 4, 2) := by decide +kernel
theorem dX8_isFar_63 : decode cX8_isFar 63 = .ok (.ineg, 1) := by decide +kernel
theorem dX8_isFar_64 : decode cX8_isFar 64 = .ok (.goto 5, 3) := by decide +kernel
theorem dX8_isFar_67 : decode cX8_isFar 67 = .ok (.iload 4, 2) := by decide +kernel
theorem dX8_isFar_69 : decode cX8_isFar 69 = .ok (.iload 5, 2) := by decide +kernel
theorem dX8_isFar_71 : decode cX8_isFar 71 = .ok (.ifCond .ge 9, 3) := by decide +kernel
theorem dX8_isFar_74 : decode cX8_isFar 74 = .ok (.iload 5, 2) := by decide +kernel
theorem dX8_isFar_76 : decode cX8_isFar 76 = .ok (.ineg, 1) := by decide +kernel
theorem dX8_isFar_77 : decode cX8_isFar 77 = .ok (.goto 5, 3) := by decide +kernel
theorem dX8_isFar_80 : decode cX8_isFar 80 = .ok (.iload 5, 2) := by decide +kernel
theorem dX8_isFar_82 : decode cX8_isFar 82 = .ok (.iadd, 1) := by decide +kernel
theorem dX8_isFar_83 : decode cX8_isFar 83 = .ok (.aload_n 0, 1) := by decide +kernel
theorem dX8_isFar_84 : decode cX8_isFar 84 = .ok (.getfield 13, 3) := by decide +kernel
theorem dX8_isFar_87 : decode cX8_isFar 87 = .ok (.iconst 2, 1) := by decide +kernel
theorem dX8_isFar_88 : decode cX8_isFar 88 = .ok (.iaload, 1) := by decide +kernel
theorem dX8_isFar_89 : decode cX8_isFar 89 = .ok (.if_icmp .lt 7, 3) := by decide +kernel
theorem dX8_isFar_92 : decode cX8_isFar 92 = .ok (.iconst 1, 1) := by decide +kernel
theorem dX8_isFar_93 : decode cX8_isFar 93 = .ok (.goto 4, 3) := by decide +kernel
theorem dX8_isFar_96 : decode cX8_isFar 96 = .ok (.iconst 0, 1) := by decide +kernel
theorem dX8_isFar_97 : decode cX8_isFar 97 = .ok (.istore_n 2, 1) := by decide +kernel
theorem dX8_isFar_98 : decode cX8_isFar 98 = .ok (.iinc 3 1, 3) := by decide +kernel
theorem dX8_isFar_101 : decode cX8_isFar 101 = .ok (.goto (-97), 3) := by decide +kernel
theorem dX8_isFar_104 : decode cX8_isFar 104 = .ok (.iload_n 2, 1) := by decide +kernel
theorem dX8_isFar_105 : decode cX8_isFar 105 = .ok (.ireturn, 1) := by decide +kernel
theorem dX8_layTowns_0 : decode cX8_layTowns 0 = .ok (.aload_n 0, 1) := by decide +kernel
theorem dX8_layTowns_1 : decode cX8_layTowns 1 = .ok (.iconst 0, 1) := by decide +kernel
theorem dX8_layTowns_2 : decode cX8_layTowns 2 = .ok (.putfield 134, 3) := by decide +kernel
theorem dX8_layTowns_5 : decode cX8_layTowns 5 = .ok (.iconst 1, 1) := by decide +kernel
theorem dX8_layTowns_6 : decode cX8_layTowns 6 = .ok (.istore_n 1, 1) := by decide +kernel
theorem dX8_layTowns_7 : decode cX8_layTowns 7 = .ok (.aload_n 0, 1) := by decide +kernel
theorem dX8_layTowns_8 : decode cX8_layTowns 8 = .ok (.getfield 134, 3) := by decide +kernel
theorem dX8_layTowns_11 : decode cX8_layTowns 11 = .ok (.aload_n 0, 1) := by decide +kernel
theorem dX8_layTowns_12 : decode cX8_layTowns 12 = .ok (.getfield 137, 3) := by decide +kernel
theorem dX8_layTowns_15 : decode cX8_layTowns 15 = .ok (.if_icmp .ge 122, 3) := by decide +kernel
theorem dX8_layTowns_18 : decode cX8_layTowns 18 = .ok (.iload_n 1, 1) := by decide +kernel
theorem dX8_layTowns_19 : decode cX8_layTowns 19 = .ok (.ifCond .eq 118, 3) := by decide +kernel
theorem dX8_layTowns_22 : decode cX8_layTowns 22 = .ok (.bipush (-6), 2) := by decide +kernel
theorem dX8_layTowns_24 : decode cX8_layTowns 24 = .ok (.istore_n 2, 1) := by decide +kernel
theorem dX8_layTowns_25 : decode cX8_layTowns 25 = .ok (.iconst 0, 1) := by decide +kernel
theorem dX8_layTowns_26 : decode cX8_layTowns 26 = .ok (.istore_n 3, 1) := by decide +kernel
theorem dX8_layTowns_27 : decode cX8_layTowns 27 = .ok (.iload_n 3, 1) := by decide +kernel
theorem dX8_layTowns_28 : decode cX8_layTowns 28 = .ok (.aload_n 0, 1) := by decide +kernel
theorem dX8_layTowns_29 : decode cX8_layTowns 29 = .ok (.getfield 7, 3) := by decide +kernel
theorem dX8_layTowns_32 : decode cX8_layTowns 32 = .ok (.aload_n 0, 1) := by decide +kernel
theorem dX8_layTowns_33 : decode cX8_layTowns 33 = .ok (.getfield 7, 3) := by decide +kernel
theorem dX8_layTowns_36 : decode cX8_layTowns 36 = .ok (.imul, 1) := by decide +kernel
theorem dX8_layTowns_37 : decode cX8_layTowns 37 = .ok (.if_icmp .ge 63, 3) := by decide +kernel
theorem dX8_layTowns_40 : decode cX8_layTowns 40 = .ok (.aload_n 0, 1) := by decide +kernel
theorem dX8_layTowns_41 : decode cX8_layTowns 41 = .ok (.getfield 44, 3) := by decide +kernel
theorem dX8_layTowns_44 : decode cX8_layTowns 44 = .ok (.iload_n 3, 1) := by decide +kernel
theorem dX8_layTowns_45 : decode cX8_layTowns 45 = .ok (.iaload, 1) := by decide +kernel
theorem dX8_layTowns_46 : decode cX8_layTowns 46 = .ok (.bipush 8, 2) := by decide +kernel
theorem dX8_layTowns_48 : decode cX8_layTowns 48 = .ok (.if_icmp .ne 15, 3) := by decide +kernel
theorem dX8_layTowns_51 : decode cX8_layTowns 51 = .ok (.aload_n 0, 1) := by decide +kernel
theorem dX8_layTowns_52 : decode cX8_layTowns 52 = .ok (.iload_n 3, 1) := by decide +kernel
theorem dX8_layTowns_53 : decode cX8_layTowns 53 = .ok (.invokevirtual 140, 3) := by decide +kernel
theorem dX8_layTowns_56 : decode cX8_layTowns 56 = .ok (.ifCond .eq 7, 3) := by decide +kernel
theorem dX8_layTowns_59 : decode cX8_layTowns 59 = .ok (.iconst 1, 1) := by decide +kernel
theorem dX8_layTowns_60 : decode cX8_layTowns 60 = .ok (.goto 4, 3) := by decide +kernel
theorem dX8_layTowns_63 : decode cX8_layTowns 63 = .ok (.iconst 0, 1) := by decide +kernel
theorem dX8_layTowns_64 : decode cX8_layTowns 64 = .ok (.istore 4, 2) := by decide +kernel
theorem dX8_layTowns_66 : decode cX8_layTowns 66 = .ok (.iload 4, 2) := by decide +kernel
theorem dX8_layTowns_68 : decode cX8_layTowns 68 = .ok (.ifCond .eq 24, 3) := by decide +kernel
theorem dX8_layTowns_71 : decode cX8_layTowns 71 = .ok (.iload_n 2, 1) := by decide +kernel
theorem dX8_layTowns_72 : decode cX8_layTowns 72 = .ok (.ifCond .lt 16, 3) := by decide +kernel
theorem dX8_layTowns_75 : decode cX8_layTowns 75 = .ok (.aload_n 0, 1) := by decide +kernel
theorem dX8_layTowns_76 : decode cX8_layTowns 76 = .ok (.iload_n 3, 1) := by decide +kernel
theorem dX8_layTowns_77 : decode cX8_layTowns 77 = .ok (.invokevirtual 143, 3) := by decide +kernel
theorem dX8_layTowns_80 : decode cX8_layTowns 80 = .ok (.aload_n 0, 1) := by decide +kernel
theorem dX8_layTowns_81 : decode cX8_layTowns 81 = .ok (.iload_n 2, 1) := by decide +kernel
theorem dX8_layTowns_82 : decode cX8_layTowns 82 = .ok (.invokevirtual 143, 3) := by decide +kernel
theorem dX8_layTowns_85 : decode cX8_layTowns 85 = .ok (.if_icmp .le 7, 3) := by decide +kernel
theorem dX8_layTowns_88 : decode cX8_layTowns 88 = .ok (.iload_n 3, 1) := by decide +kernel
theorem dX8_layTowns_89 : decode cX8_layTowns 89 = .ok (.goto 4, 3) := by decide +kernel
theorem dX8_layTowns_92 : decode cX8_layTowns 92 = .ok (.iload_n 2, 1) := by decide +kernel
theorem dX8_layTowns_93 : decode cX8_layTowns 93 = .ok (.istore_n 2, 1) := by decide +kernel
theorem dX8_layTowns_94 : decode cX8_layTowns 94 = .ok (.iinc 3 1, 3) := by decide +kernel
theorem dX8_layTowns_97 : decode cX8_layTowns 97 = .ok (.goto (-70), 3) := by decide +kernel
theorem dX8_layTowns_100 : decode cX8_layTowns 100 = .ok (.iload_n 2, 1) := by decide +kernel
theorem dX8_layTowns_101 : decode cX8_layTowns 101 = .ok (.ifCond .lt 7, 3) := by decide +kernel
theorem dX8_layTowns_104 : decode cX8_layTowns 104 = .ok (.iconst 1, 1) := by decide +kernel
theorem dX8_layTowns_105 : decode cX8_layTowns 105 = .ok (.goto 4, 3) := by decide +kernel
theorem dX8_layTowns_108 : decode cX8_layTowns 108 = .ok (.iconst 0, 1) := by decide +kernel
theorem dX8_layTowns_109 : decode cX8_layTowns 109 = .ok (.istore_n 1, 1) := by decide +kernel
theorem dX8_layTowns_110 : decode cX8_layTowns 110 = .ok (.iload_n 1, 1) := by decide +kernel
theorem dX8_layTowns_111 : decode cX8_layTowns 111 = .ok (.ifCond .eq 23, 3) := by decide +kernel
theorem dX8_layTowns_114 : decode cX8_layTowns 114 = .ok (.aload_n 0, 1) := by decide +kernel
theorem dX8_layTowns_115 : decode cX8_layTowns 115 = .ok (.getfield 47, 3) := by decide +kernel
theorem dX8_layTowns_118 : decode cX8_layTowns 118 = .ok (.aload_n 0, 1) := by decide +kernel
theorem dX8_layTowns_119 : decode cX8_layTowns 119 = .ok (.getfield 134, 3) := by decide +kernel
theorem dX8_layTowns_122 : decode cX8_layTowns 122 = .ok (.iload_n 2, 1) := by decide +kernel
theorem dX8_layTowns_123 : decode cX8_layTowns 123 = .ok (.iastore, 1) := by decide +kernel
theorem dX8_layTowns_124 : decode cX8_layTowns 124 = .ok (.aload_n 0, 1) := by decide +kernel
theorem dX8_layTowns_125 : decode cX8_layTowns 125 = .ok (.dup, 1) := by decide +kernel
theorem dX8_layTowns_126 : decode cX8_layTowns 126 = .ok (.getfield 134, 3) := by decide +kernel
theorem dX8_layTowns_129 : decode cX8_layTowns 129 = .ok (.iconst 1, 1) := by decide +kernel
theorem dX8_layTowns_130 : decode cX8_layTowns 130 = .ok (.iadd, 1) := by decide +kernel
theorem dX8_layTowns_131 : decode cX8_layTowns 131 = .ok (.putfield 134, 3) := by decide +kernel
theorem dX8_layTowns_134 : decode cX8_layTowns 134 = .ok (.goto (-127), 3) := by decide +kernel
theorem dX8_layTowns_137 : decode cX8_layTowns 137 = .ok (.return_, 1) := by decide +kernel
theorem dX8_stepCost_0 : decode cX8_stepCost 0 = .ok (.aload_n 0, 1) := by decide +kernel
theorem dX8_stepCost_1 : decode cX8_stepCost 1 = .ok (.getfield 26, 3) := by decide +kernel
theorem dX8_stepCost_4 : decode cX8_stepCost 4 = .ok (.iload_n 1, 1) := by decide +kernel
theorem dX8_stepCost_5 : decode cX8_stepCost 5 = .ok (.iaload, 1) := by decide +kernel
theorem dX8_stepCost_6 : decode cX8_stepCost 6 = .ok (.aload_n 0, 1) := by decide +kernel
theorem dX8_stepCost_7 : decode cX8_stepCost 7 = .ok (.getfield 26, 3) := by decide +kernel
theorem dX8_stepCost_10 : decode cX8_stepCost 10 = .ok (.iload_n 2, 1) := by decide +kernel
theorem dX8_stepCost_11 : decode cX8_stepCost 11 = .ok (.iaload, 1) := by decide +kernel
theorem dX8_stepCost_12 : decode cX8_stepCost 12 = .ok (.isub, 1) := by decide +kernel
theorem dX8_stepCost_13 : decode cX8_stepCost 13 = .ok (.istore_n 3, 1) := by decide +kernel
theorem dX8_stepCost_14 : decode cX8_stepCost 14 = .ok (.bipush 10, 2) := by decide +kernel
theorem dX8_stepCost_16 : decode cX8_stepCost 16 = .ok (.iload_n 3, 1) := by decide +kernel
theorem dX8_stepCost_17 : decode cX8_stepCost 17 = .ok (.ifCond .ge 8, 3) := by decide +kernel
theorem dX8_stepCost_20 : decode cX8_stepCost 20 = .ok (.iload_n 3, 1) := by decide +kernel
theorem dX8_stepCost_21 : decode cX8_stepCost 21 = .ok (.ineg, 1) := by decide +kernel
theorem dX8_stepCost_22 : decode cX8_stepCost 22 = .ok (.goto 4, 3) := by decide +kernel
theorem dX8_stepCost_25 : decode cX8_stepCost 25 = .ok (.iload_n 3, 1) := by decide +kernel
theorem dX8_stepCost_26 : decode cX8_stepCost 26 = .ok (.iadd, 1) := by decide +kernel
theorem dX8_stepCost_27 : decode cX8_stepCost 27 = .ok (.aload_n 0, 1) := by decide +kernel
theorem dX8_stepCost_28 : decode cX8_stepCost 28 = .ok (.getfield 44, 3) := by decide +kernel
theorem dX8_stepCost_31 : decode cX8_stepCost 31 = .ok (.iload_n 1, 1) := by decide +kernel
theorem dX8_stepCost_32 : decode cX8_stepCost 32 = .ok (.iaload, 1) := by decide +kernel
theorem dX8_stepCost_33 : decode cX8_stepCost 33 = .ok (.iconst 4, 1) := by decide +kernel
theorem dX8_stepCost_34 : decode cX8_stepCost 34 = .ok (.if_icmp .eq 13, 3) := by decide +kernel
theorem dX8_stepCost_37 : decode cX8_stepCost 37 = .ok (.aload_n 0, 1) := by decide +kernel
theorem dX8_stepCost_38 : decode cX8_stepCost 38 = .ok (.getfield 44, 3) := by decide +kernel
theorem dX8_stepCost_41 : decode cX8_stepCost 41 = .ok (.iload_n 2, 1) := by decide +kernel
theorem dX8_stepCost_42 : decode cX8_stepCost 42 = .ok (.iaload, 1) := by decide +kernel
theorem dX8_stepCost_43 : decode cX8_stepCost 43 = .ok (.iconst 4, 1) := by decide +kernel
theorem dX8_stepCost_44 : decode cX8_stepCost 44 = .ok (.if_icmp .ne 12, 3) := by decide +kernel
theorem dX8_stepCost_47 : decode cX8_stepCost 47 = .ok (.aload_n 0, 1) := by decide +kernel
theorem dX8_stepCost_48 : decode cX8_stepCost 48 = .ok (.getfield 13, 3) := by decide +kernel
theorem dX8_stepCost_51 : decode cX8_stepCost 51 = .ok (.iconst 3, 1) := by decide +kernel
theorem dX8_stepCost_52 : decode cX8_stepCost 52 = .ok (.iaload, 1) := by decide +kernel
theorem dX8_stepCost_53 : decode cX8_stepCost 53 = .ok (.goto 4, 3) := by decide +kernel
theorem dX8_stepCost_56 : decode cX8_stepCost 56 = .ok (.iconst 0, 1) := by decide +kernel
theorem dX8_stepCost_57 : decode cX8_stepCost 57 = .ok (.iadd, 1) := by decide +kernel
theorem dX8_stepCost_58 : decode cX8_stepCost 58 = .ok (.ireturn, 1) := by decide +kernel
theorem dX8_isWay_0 : decode cX8_isWay 0 = .ok (.aload_n 0, 1) := by decide +kernel
theorem dX8_isWay_1 : decode cX8_isWay 1 = .ok (.getfield 44, 3) := by decide +kernel
theorem dX8_isWay_4 : decode cX8_isWay 4 = .ok (.iload_n 1, 1) := by decide +kernel
theorem dX8_isWay_5 : decode cX8_isWay 5 = .ok (.iaload, 1) := by decide +kernel
theorem dX8_isWay_6 : decode cX8_isWay 6 = .ok (.iconst 4, 1) := by decide +kernel
theorem dX8_isWay_7 : decode cX8_isWay 7 = .ok (.if_icmp .lt 7, 3) := by decide +kernel
theorem dX8_isWay_10 : decode cX8_isWay 10 = .ok (.iconst 1, 1) := by decide +kernel
theorem dX8_isWay_11 : decode cX8_isWay 11 = .ok (.goto 4, 3) := by decide +kernel
theorem dX8_isWay_14 : decode cX8_isWay 14 = .ok (.iconst 0, 1) := by decide +kernel
theorem dX8_isWay_15 : decode cX8_isWay 15 = .ok (.ireturn, 1) := by decide +kernel
theorem dX8_reckon_0 : decode cX8_reckon 0 = .ok (.iconst 0, 1) := by decide +kernel
theorem dX8_reckon_1 : decode cX8_reckon 1 = .ok (.istore_n 2, 1) := by decide +kernel
theorem dX8_reckon_2 : decode cX8_reckon 2 = .ok (.iload_n 2, 1) := by decide +kernel
theorem dX8_reckon_3 : decode cX8_reckon 3 = .ok (.aload_n 0, 1) := by decide +kernel
theorem dX8_reckon_4 : decode cX8_reckon 4 = .ok (.getfield 7, 3) := by decide +kernel
theorem dX8_reckon_7 : decode cX8_reckon 7 = .ok (.aload_n 0, 1) := by decide +kernel
theorem dX8_reckon_8 : decode cX8_reckon 8 = .ok (.getfield 7, 3) := by decide +kernel
theorem dX8_reckon_11 : decode cX8_reckon 11 = .ok (.imul, 1) := by decide +kernel
theorem dX8_reckon_12 : decode cX8_reckon 12 = .ok (.if_icmp .ge 23, 3) := by decide +kernel
theorem dX8_reckon_15 : decode cX8_reckon 15 = .ok (.aload_n 0, 1) := by decide +kernel
theorem dX8_reckon_16 : decode cX8_reckon 16 = .ok (.getfield 59, 3) := by decide +kernel
theorem dX8_reckon_19 : decode cX8_reckon 19 = .ok (.iload_n 2, 1) := by decide +kernel
theorem dX8_reckon_20 : decode cX8_reckon 20 = .ok (.iconst (-1), 1) := by decide +kernel
theorem dX8_reckon_21 : decode cX8_reckon 21 = .ok (.iastore, 1) := by decide +kernel
theorem dX8_reckon_22 : decode cX8_reckon 22 = .ok (.aload_n 0, 1) := by decide +kernel
theorem dX8_reckon_23 : decode cX8_reckon 23 = .ok (.getfield 62, 3) := by decide +kernel
theorem dX8_reckon_26 : decode cX8_reckon 26 = .ok (.iload_n 2, 1) := by decide +kernel
theorem dX8_reckon_27 : decode cX8_reckon 27 = .ok (.iconst 0, 1) := by decide +kernel
theorem dX8_reckon_28 : decode cX8_reckon 28 = .ok (.bastore, 1) := by decide +kernel
theorem dX8_reckon_29 : decode cX8_reckon 29 = .ok (.iinc 2 1, 3) := by decide +kernel
theorem dX8_reckon_32 : decode cX8_reckon 32 = .ok (.goto (-30), 3) := by decide +kernel
theorem dX8_reckon_35 : decode cX8_reckon 35 = .ok (.aload_n 0, 1) := by decide +kernel
theorem dX8_reckon_36 : decode cX8_reckon 36 = .ok (.getfield 59, 3) := by decide +kernel
theorem dX8_reckon_39 : decode cX8_reckon 39 = .ok (.iload_n 1, 1) := by decide +kernel
theorem dX8_reckon_40 : decode cX8_reckon 40 = .ok (.iconst 0, 1) := by decide +kernel
theorem dX8_reckon_41 : decode cX8_reckon 41 = .ok (.iastore, 1) := by decide +kernel
theorem dX8_reckon_42 : decode cX8_reckon 42 = .ok (.iload_n 1, 1) := by decide +kernel
theorem dX8_reckon_43 : decode cX8_reckon 43 = .ok (.istore_n 2, 1) := by decide +kernel
theorem dX8_reckon_44 : decode cX8_reckon 44 = .ok (.iload_n 2, 1) := by decide +kernel
theorem dX8_reckon_45 : decode cX8_reckon 45 = .ok (.ifCond .lt 172, 3) := by decide +kernel
theorem dX8_reckon_48 : decode cX8_reckon 48 = .ok (.aload_n 0, 1) := by decide +kernel
theorem dX8_reckon_49 : decode cX8_reckon 49 = .ok (.getfield 62, 3) := by decide +kernel
theorem dX8_reckon_52 : decode cX8_reckon 52 = .ok (.iload_n 2, 1) := by decide +kernel
theorem dX8_reckon_53 : decode cX8_reckon 53 = .ok (.iconst 1, 1) := by decide +kernel
theorem dX8_reckon_54 : decode cX8_reckon 54 = .ok (.bastore, 1) := by decide +kernel
theorem dX8_reckon_55 : decode cX8_reckon 55 = .ok (.iconst 0, 1) := by decide +kernel
theorem dX8_reckon_56 : decode cX8_reckon 56 = .ok (.istore_n 3, 1) := by decide +kernel
theorem dX8_reckon_57 : decode cX8_reckon 57 = .ok (.iload_n 3, 1) := by decide +kernel
theorem dX8_reckon_58 : decode cX8_reckon 58 = .ok (.iconst 4, 1) := by decide +kernel
theorem dX8_reckon_59 : decode cX8_reckon 59 = .ok (.if_icmp .ge 88, 3) := by decide +kernel
theorem dX8_reckon_62 : decode cX8_reckon 62 = .ok (.aload_n 0, 1) := by decide +kernel
theorem dX8_reckon_63 : decode cX8_reckon 63 = .ok (.iload_n 2, 1) := by decide +kernel
theorem dX8_reckon_64 : decode cX8_reckon 64 = .ok (.iload_n 3, 1) := by decide +kernel
theorem dX8_reckon_65 : decode cX8_reckon 65 = .ok (.invokevirtual 114, 3) := by decide +kernel
theorem dX8_reckon_68 : decode cX8_reckon 68 = .ok (.istore 4, 2) := by decide +kernel
theorem dX8_reckon_70 : decode cX8_reckon 70 = .ok (.iload 4, 2) := by decide +kernel
theorem dX8_reckon_72 : decode cX8_reckon 72 = .ok (.ifCond .lt 69, 3) := by decide +kernel
theorem dX8_reckon_75 : decode cX8_reckon 75 = .ok (.aload_n 0, 1) := by decide +kernel
theorem dX8_reckon_76 : decode cX8_reckon 76 = .ok (.iload 4, 2) := by decide +kernel
theorem dX8_reckon_78 : decode cX8_reckon 78 = .ok (.invokevirtual 146, 3) := by decide +kernel
theorem dX8_reckon_81 : decode cX8_reckon 81 = .ok (.ifCond .eq 60, 3) := by decide +kernel
theorem dX8_reckon_84 : decode cX8_reckon 84 = .ok (.aload_n 0, 1) := by decide +kernel
theorem dX8_reckon_85 : decode cX8_reckon 85 = .ok (.getfield 59, 3) := by decide +kernel
theorem dX8_reckon_88 : decode cX8_reckon 88 = .ok (.iload_n 2, 1) := by decide +kernel
theorem dX8_reckon_89 : decode cX8_reckon 89 = .ok (.iaload, 1) := by decide +kernel
theorem dX8_reckon_90 : decode cX8_reckon 90 = .ok (.aload_n 0, 1) := by decide +kernel
theorem dX8_reckon_91 : decode cX8_reckon 91 = .ok (.iload_n 2, 1) := by decide +kernel
theorem dX8_reckon_92 : decode cX8_reckon 92 = .ok (.iload 4, 2) := by decide +kernel
theorem dX8_reckon_94 : decode cX8_reckon 94 = .ok (.invokevirtual 149, 3) := by decide +kernel
theorem dX8_reckon_97 : decode cX8_reckon 97 = .ok (.iadd, 1) := by decide +kernel
theorem dX8_reckon_98 : decode cX8_reckon 98 = .ok (.istore 5, 2) := by decide +kernel
theorem dX8_reckon_100 : decode cX8_reckon 100 = .ok (.aload_n 0, 1) := by decide +kernel
theorem dX8_reckon_101 : decode cX8_reckon 101 = .ok (.getfield 59, 3) := by decide +kernel
theorem dX8_reckon_104 : decode cX8_reckon 104 = .ok (.iload 4, 2) := by decide +kernel
theorem dX8_reckon_106 : decode cX8_reckon 106 = .ok (.aload_n 0, 1) := by decide +kernel
theorem dX8_reckon_107 : decode cX8_reckon 107 = .ok (.getfield 59, 3) := by decide +kernel
theorem dX8_reckon_110 : decode cX8_reckon 110 = .ok (.iload 4, 2) := by decide +kernel
theorem dX8_reckon_112 : decode cX8_reckon 112 = .ok (.iaload, 1) := by decide +kernel
theorem dX8_reckon_113 : decode cX8_reckon 113 = .ok (.ifCond .lt 15, 3) := by decide +kernel
theorem dX8_reckon_116 : decode cX8_reckon 116 = .ok (.iload 5, 2) := by decide +kernel
theorem dX8_reckon_118 : decode cX8_reckon 118 = .ok (.aload_n 0, 1) := by decide +kernel
theorem dX8_reckon_119 : decode cX8_reckon 119 = .ok (.getfield 59, 3) := by decide +kernel
theorem dX8_reckon_122 : decode cX8_reckon 122 = .ok (.iload 4, 2) := by decide +kernel
theorem dX8_reckon_124 : decode cX8_reckon 124 = .ok (.iaload, 1) := by decide +kernel
theorem dX8_reckon_125 : decode cX8_reckon 125 = .ok (.if_icmp .ge 8, 3) := by decide +kernel
theorem dX8_reckon_128 : decode cX8_reckon 128 = .ok (.iload 5, 2) := by decide +kernel
theorem dX8_reckon_130 : decode cX8_reckon 130 = .ok (.goto 10, 3) := by decide +kernel
theorem dX8_reckon_133 : decode cX8_reckon 133 = .ok (.aload_n 0, 1) := by decide +kernel
theorem dX8_reckon_134 : decode cX8_reckon 134 = .ok (.getfield 59, 3) := by decide +kernel
theorem dX8_reckon_137 : decode cX8_reckon 137 = .ok (.iload 4, 2) := by decide +kernel
theorem dX8_reckon_139 : decode cX8_reckon 139 = .ok (.iaload, 1) := by decide +kernel
theorem dX8_reckon_140 : decode cX8_reckon 140 = .ok (.iastore, 1) := by decide +kernel
theorem dX8_reckon_141 : decode cX8_reckon 141 = .ok (.iinc 3 1, 3) := by decide +kernel
theorem dX8_reckon_144 : decode cX8_reckon 144 = .ok (.goto (-87), 3) := by decide +kernel
theorem dX8_reckon_147 : decode cX8_reckon 147 = .ok (.bipush (-6), 2) := by decide +kernel
theorem dX8_reckon_149 : decode cX8_reckon 149 = .ok (.istore_n 2, 1) := by decide +kernel
theorem dX8_reckon_150 : decode cX8_reckon 150 = .ok (.iconst 0, 1) := by decide +kernel
theorem dX8_reckon_151 : decode cX8_reckon 151 = .ok (.istore_n 3, 1) := by decide +kernel
theorem dX8_reckon_152 : decode cX8_reckon 152 = .ok (.iload_n 3, 1) := by decide +kernel
theorem dX8_reckon_153 : decode cX8_reckon 153 = .ok (.aload_n 0, 1) := by decide +kernel
theorem dX8_reckon_154 : decode cX8_reckon 154 = .ok (.getfield 7, 3) := by decide +kernel
theorem dX8_reckon_157 : decode cX8_reckon 157 = .ok (.aload_n 0, 1) := by decide +kernel
theorem dX8_reckon_158 : decode cX8_reckon 158 = .ok (.getfield 7, 3) := by decide +kernel
theorem dX8_reckon_161 : decode cX8_reckon 161 = .ok (.imul, 1) := by decide +kernel
theorem dX8_reckon_162 : decode cX8_reckon 162 = .ok (.if_icmp .ge 52, 3) := by decide +kernel
theorem dX8_reckon_165 : decode cX8_reckon 165 = .ok (.aload_n 0, 1) := by decide +kernel
theorem dX8_reckon_166 : decode cX8_reckon 166 = .ok (.getfield 62, 3) := by decide +kernel
theorem dX8_reckon_169 : decode cX8_reckon 169 = .ok (.iload_n 3, 1) := by decide +kernel
theorem dX8_reckon_170 : decode cX8_reckon 170 = .ok (.baload, 1) := by decide +kernel
theorem dX8_reckon_171 : decode cX8_reckon 171 = .ok (.ifCond .ne 35, 3) := by decide +kernel
theorem dX8_reckon_174 : decode cX8_reckon 174 = .ok (.aload_n 0, 1) := by decide +kernel
theorem dX8_reckon_175 : decode cX8_reckon 175 = .ok (.getfield 59, 3) := by decide +kernel
theorem dX8_reckon_178 : decode cX8_reckon 178 = .ok (.iload_n 3, 1) := by decide +kernel
theorem dX8_reckon_179 : decode cX8_reckon 179 = .ok (.iaload, 1) := by decide +kernel
theorem dX8_reckon_180 : decode cX8_reckon 180 = .ok (.ifCond .lt 26, 3) := by decide +kernel
theorem dX8_reckon_183 : decode cX8_reckon 183 = .ok (.iload_n 2, 1) := by decide +kernel
theorem dX8_reckon_184 : decode cX8_reckon 184 = .ok (.ifCond .lt 18, 3) := by decide +kernel
theorem dX8_reckon_187 : decode cX8_reckon 187 = .ok (.aload_n 0, 1) := by decide +kernel
theorem dX8_reckon_188 : decode cX8_reckon 188 = .ok (.getfield 59, 3) := by decide +kernel
theorem dX8_reckon_191 : decode cX8_reckon 191 = .ok (.iload_n 3, 1) := by decide +kernel
theorem dX8_reckon_192 : decode cX8_reckon 192 = .ok (.iaload, 1) := by decide +kernel
theorem dX8_reckon_193 : decode cX8_reckon 193 = .ok (.aload_n 0, 1) := by decide +kernel
theorem dX8_reckon_194 : decode cX8_reckon 194 = .ok (.getfield 59, 3) := by decide +kernel
theorem dX8_reckon_197 : decode cX8_reckon 197 = .ok (.iload_n 2, 1) := by decide +kernel
theorem dX8_reckon_198 : decode cX8_reckon 198 = .ok (.iaload, 1) := by decide +kernel
theorem dX8_reckon_199 : decode cX8_reckon 199 = .ok (.if_icmp .ge 7, 3) := by decide +kernel
theorem dX8_reckon_202 : decode cX8_reckon 202 = .ok (.iload_n 3, 1) := by decide +kernel
theorem dX8_reckon_203 : decode cX8_reckon 203 = .ok (.goto 4, 3) := by decide +kernel
theorem dX8_reckon_206 : decode cX8_reckon 206 = .ok (.iload_n 2, 1) := by decide +kernel
theorem dX8_reckon_207 : decode cX8_reckon 207 = .ok (.istore_n 2, 1) := by decide +kernel
theorem dX8_reckon_208 : decode cX8_reckon 208 = .ok (.iinc 3 1, 3) := by decide +kernel
theorem dX8_reckon_211 : decode cX8_reckon 211 = .ok (.goto (-59), 3) := by decide +kernel
theorem dX8_reckon_214 : decode cX8_reckon 214 = .ok (.goto (-170), 3) := by decide +kernel
theorem dX8_reckon_217 : decode cX8_reckon 217 = .ok (.return_, 1) := by decide +kernel
theorem dX8_next_0 : decode cX8_next 0 = .ok (.bipush (-6), 2) := by decide +kernel
theorem dX8_next_2 : decode cX8_next 2 = .ok (.istore_n 2, 1) := by decide +kernel
theorem dX8_next_3 : decode cX8_next 3 = .ok (.iconst 3, 1) := by decide +kernel
theorem dX8_next_4 : decode cX8_next 4 = .ok (.istore_n 3, 1) := by decide +kernel
theorem dX8_next_5 : decode cX8_next 5 = .ok (.iload_n 3, 1) := by decide +kernel
theorem dX8_next_6 : decode cX8_next 6 = .ok (.ifCond .lt 72, 3) := by decide +kernel
theorem dX8_next_9 : decode cX8_next 9 = .ok (.aload_n 0, 1) := by decide +kernel
theorem dX8_next_10 : decode cX8_next 10 = .ok (.iload_n 1, 1) := by decide +kernel
theorem dX8_next_11 : decode cX8_next 11 = .ok (.iload_n 3, 1) := by decide +kernel
theorem dX8_next_12 : decode cX8_next 12 = .ok (.invokevirtual 114, 3) := by decide +kernel
theorem dX8_next_15 : decode cX8_next 15 = .ok (.istore 4, 2) := by decide +kernel
theorem dX8_next_17 : decode cX8_next 17 = .ok (.iload 4, 2) := by decide +kernel
theorem dX8_next_19 : decode cX8_next 19 = .ok (.ifCond .lt 51, 3) := by decide +kernel
theorem dX8_next_22 : decode cX8_next 22 = .ok (.aload_n 0, 1) := by decide +kernel
theorem dX8_next_23 : decode cX8_next 23 = .ok (.iload 4, 2) := by decide +kernel
theorem dX8_next_25 : decode cX8_next 25 = .ok (.invokevirtual 146, 3) := by decide +kernel
theorem dX8_next_28 : decode cX8_next 28 = .ok (.ifCond .eq 42, 3) := by decide +kernel
theorem dX8_next_31 : decode cX8_next 31 = .ok (.aload_n 0, 1) := by decide +kernel
theorem dX8_next_32 : decode cX8_next 32 = .ok (.getfield 59, 3) := by decide +kernel
theorem dX8_next_35 : decode cX8_next 35 = .ok (.iload 4, 2) := by decide +kernel
theorem dX8_next_37 : decode cX8_next 37 = .ok (.iaload, 1) := by decide +kernel
theorem dX8_next_38 : decode cX8_next 38 = .ok (.ifCond .lt 32, 3) := by decide +kernel
theorem dX8_next_41 : decode cX8_next 41 = .ok (.aload_n 0, 1) := by decide +kernel
theorem dX8_next_42 : decode cX8_next 42 = .ok (.getfield 59, 3) := by decide +kernel
theorem dX8_next_45 : decode cX8_next 45 = .ok (.iload 4, 2) := by decide +kernel
theorem dX8_next_47 : decode cX8_next 47 = .ok (.iaload, 1) := by decide +kernel
theorem dX8_next_48 : decode cX8_next 48 = .ok (.aload_n 0, 1) := by decide +kernel
theorem dX8_next_49 : decode cX8_next 49 = .ok (.iload_n 1, 1) := by decide +kernel
theorem dX8_next_50 : decode cX8_next 50 = .ok (.iload 4, 2) := by decide +kernel
theorem dX8_next_52 : decode cX8_next 52 = .ok (.invokevirtual 149, 3) := by decide +kernel
theorem dX8_next_55 : decode cX8_next 55 = .ok (.iadd, 1) := by decide +kernel
theorem dX8_next_56 : decode cX8_next 56 = .ok (.aload_n 0, 1) := by decide +kernel
theorem dX8_next_57 : decode cX8_next 57 = .ok (.getfield 59, 3) := by decide +kernel
theorem dX8_next_60 : decode cX8_next 60 = .ok (.iload_n 1, 1) := by decide +kernel
theorem dX8_next_61 : decode cX8_next 61 = .ok (.iaload, 1) := by decide +kernel
theorem dX8_next_62 : decode cX8_next 62 = .ok (.if_icmp .ne 8, 3) := by decide +kernel
theorem dX8_next_65 : decode cX8_next 65 = .ok (.iload 4, 2) := by decide +kernel
theorem dX8_next_67 : decode cX8_next 67 = .ok (.goto 4, 3) := by decide +kernel
theorem dX8_next_70 : decode cX8_next 70 = .ok (.iload_n 2, 1) := by decide +kernel
theorem dX8_next_71 : decode cX8_next 71 = .ok (.istore_n 2, 1) := by decide +kernel
theorem dX8_next_72 : decode cX8_next 72 = .ok (.iinc 3 (-1), 3) := by decide +kernel
theorem dX8_next_75 : decode cX8_next 75 = .ok (.goto (-70), 3) := by decide +kernel
theorem dX8_next_78 : decode cX8_next 78 = .ok (.iload_n 2, 1) := by decide +kernel
theorem dX8_next_79 : decode cX8_next 79 = .ok (.ireturn, 1) := by decide +kernel
theorem dX8_layNet_0 : decode cX8_layNet 0 = .ok (.aload_n 0, 1) := by decide +kernel
theorem dX8_layNet_1 : decode cX8_layNet 1 = .ok (.aload_n 0, 1) := by decide +kernel
theorem dX8_layNet_2 : decode cX8_layNet 2 = .ok (.getfield 134, 3) := by decide +kernel
theorem dX8_layNet_5 : decode cX8_layNet 5 = .ok (.ifCond .le 7, 3) := by decide +kernel
theorem dX8_layNet_8 : decode cX8_layNet 8 = .ok (.iconst 1, 1) := by decide +kernel
theorem dX8_layNet_9 : decode cX8_layNet 9 = .ok (.goto 4, 3) := by decide +kernel
theorem dX8_layNet_12 : decode cX8_layNet 12 = .ok (.iconst 0, 1) := by decide +kernel
theorem dX8_layNet_13 : decode cX8_layNet 13 = .ok (.putfield 152, 3) := by decide +kernel
theorem dX8_layNet_16 : decode cX8_layNet 16 = .ok (.aload_n 0, 1) := by decide +kernel
theorem dX8_layNet_17 : decode cX8_layNet 17 = .ok (.iconst 0, 1) := by decide +kernel
theorem dX8_layNet_18 : decode cX8_layNet 18 = .ok (.putfield 155, 3) := by decide +kernel
theorem dX8_layNet_21 : decode cX8_layNet 21 = .ok (.aload_n 0, 1) := by decide +kernel
theorem dX8_layNet_22 : decode cX8_layNet 22 = .ok (.iconst 0, 1) := by decide +kernel
theorem dX8_layNet_23 : decode cX8_layNet 23 = .ok (.putfield 158, 3) := by decide +kernel
theorem dX8_layNet_26 : decode cX8_layNet 26 = .ok (.iconst 0, 1) := by decide +kernel
theorem dX8_layNet_27 : decode cX8_layNet 27 = .ok (.istore_n 1, 1) := by decide +kernel
theorem dX8_layNet_28 : decode cX8_layNet 28 = .ok (.iload_n 1, 1) := by decide +kernel
theorem dX8_layNet_29 : decode cX8_layNet 29 = .ok (.aload_n 0, 1) := by decide +kernel
theorem dX8_layNet_30 : decode cX8_layNet 30 = .ok (.getfield 7, 3) := by decide +kernel
theorem dX8_layNet_33 : decode cX8_layNet 33 = .ok (.aload_n 0, 1) := by decide +kernel
theorem dX8_layNet_34 : decode cX8_layNet 34 = .ok (.getfield 7, 3) := by decide +kernel
theorem dX8_layNet_37 : decode cX8_layNet 37 = .ok (.imul, 1) := by decide +kernel
theorem dX8_layNet_38 : decode cX8_layNet 38 = .ok (.if_icmp .ge 16, 3) := by decide +kernel
theorem dX8_layNet_41 : decode cX8_layNet 41 = .ok (.aload_n 0, 1) := by decide +kernel
theorem dX8_layNet_42 : decode cX8_layNet 42 = .ok (.getfield 56, 3) := by decide +kernel
theorem dX8_layNet_45 : decode cX8_layNet 45 = .ok (.iload_n 1, 1) := by decide +kernel
theorem dX8_layNet_46 : decode cX8_layNet 46 = .ok (.iconst 0, 1) := by decide +kernel
theorem dX8_layNet_47 : decode cX8_layNet 47 = .ok (.iastore, 1) := by decide +kernel
theorem dX8_layNet_48 : decode cX8_layNet 48 = .ok (.iinc 1 1, 3) := by decide +kernel
theorem dX8_layNet_51 : decode cX8_layNet 51 = .ok (.goto (-23), 3) := by decide +kernel
theorem dX8_layNet_54 : decode cX8_layNet 54 = .ok (.aload_n 0, 1) := by decide +kernel
theorem dX8_layNet_55 : decode cX8_layNet 55 = .ok (.getfield 152, 3) := by decide +kernel
theorem dX8_layNet_58 : decode cX8_layNet 58 = .ok (.istore_n 1, 1) := by decide +kernel
theorem dX8_layNet_59 : decode cX8_layNet 59 = .ok (.iconst 1, 1) := by decide +kernel
theorem dX8_layNet_60 : decode cX8_layNet 60 = .ok (.istore_n 2, 1) := by decide +kernel
theorem dX8_layNet_61 : decode cX8_layNet 61 = .ok (.iload_n 2, 1) := by decide +kernel
theorem dX8_layNet_62 : decode cX8_layNet 62 = .ok (.ifCond .eq 308, 3) := by decide +kernel
theorem dX8_layNet_65 : decode cX8_layNet 65 = .ok (.iconst (-1), 1) := by decide +kernel
theorem dX8_layNet_66 : decode cX8_layNet 66 = .ok (.istore_n 3, 1) := by decide +kernel
theorem dX8_layNet_67 : decode cX8_layNet 67 = .ok (.bipush (-6), 2) := by decide +kernel
theorem dX8_layNet_69 : decode cX8_layNet 69 = .ok (.istore 4, 2) := by decide +kernel
theorem dX8_layNet_71 : decode cX8_layNet 71 = .ok (.bipush (-6), 2) := by decide +kernel
theorem dX8_layNet_73 : decode cX8_layNet 73 = .ok (.istore 5, 2) := by decide +kernel
theorem dX8_layNet_75 : decode cX8_layNet 75 = .ok (.iconst 0, 1) := by decide +kernel
theorem dX8_layNet_76 : decode cX8_layNet 76 = .ok (.istore 6, 2) := by decide +kernel
theorem dX8_layNet_78 : decode cX8_layNet 78 = .ok (.iload 6, 2) := by decide +kernel
theorem dX8_layNet_80 : decode cX8_layNet 80 = .ok (.aload_n 0, 1) := by decide +kernel
theorem dX8_layNet_81 : decode cX8_layNet 81 = .ok (.getfield 134, 3) := by decide +kernel
theorem dX8_layNet_84 : decode cX8_layNet 84 = .ok (.if_icmp .ge 140, 3) := by decide +kernel
theorem dX8_layNet_87 : decode cX8_layNet 87 = .ok (.iload_n 1, 1) := by decide +kernel
theorem dX8_layNet_88 : decode cX8_layNet 88 = .ok (.iload 6, 2) := by decide +kernel
theorem dX8_layNet_90 : decode cX8_layNet 90 = .ok (.ishr, 1) := by decide +kernel
theorem dX8_layNet_91 : decode cX8_layNet 91 = .ok (.iconst 1, 1) := by decide +kernel
theorem dX8_layNet_92 : decode cX8_layNet 92 = .ok (.iand, 1) := by decide +kernel
theorem dX8_layNet_93 : decode cX8_layNet 93 = .ok (.ifCond .ne 125, 3) := by decide +kernel
theorem dX8_layNet_96 : decode cX8_layNet 96 = .ok (.aload_n 0, 1) := by decide +kernel
theorem dX8_layNet_97 : decode cX8_layNet 97 = .ok (.aload_n 0, 1) := by decide +kernel
theorem dX8_layNet_98 : decode cX8_layNet 98 = .ok (.getfield 47, 3) := by decide +kernel
theorem dX8_layNet_101 : decode cX8_layNet 101 = .ok (.iload 6, 2) := by decide +kernel
theorem dX8_layNet_103 : decode cX8_layNet 103 = .ok (.iaload, 1) := by decide +kernel
theorem dX8_layNet_104 : decode cX8_layNet 104 = .ok (.invokevirtual 161, 3) := by decide +kernel
theorem dX8_layNet_107 : decode cX8_layNet 107 = .ok (.iconst 0, 1) := by decide +kernel
theorem dX8_layNet_108 : decode cX8_layNet 108 = .ok (.istore 7, 2) := by decide +kernel
theorem dX8_layNet_110 : decode cX8_layNet 110 = .ok (.iload 7, 2) := by decide +kernel
theorem dX8_layNet_112 : decode cX8_layNet 112 = .ok (.aload_n 0, 1) := by decide +kernel
theorem dX8_layNet_113 : decode cX8_layNet 113 = .ok (.getfield 134, 3) := by decide +kernel
theorem dX8_layNet_116 : decode cX8_layNet 116 = .ok (.if_icmp .ge 102, 3) := by decide +kernel
theorem dX8_layNet_119 : decode cX8_layNet 119 = .ok (.iload_n 1, 1) := by decide +kernel
theorem dX8_layNet_120 : decode cX8_layNet 120 = .ok (.iload 7, 2) := by decide +kernel
theorem dX8_layNet_122 : decode cX8_layNet 122 = .ok (.ishr, 1) := by decide +kernel
theorem dX8_layNet_123 : decode cX8_layNet 123 = .ok (.iconst 1, 1) := by decide +kernel
theorem dX8_layNet_124 : decode cX8_layNet 124 = .ok (.iand, 1) := by decide +kernel
theorem dX8_layNet_125 : decode cX8_layNet 125 = .ok (.iconst 1, 1) := by decide +kernel
theorem dX8_layNet_126 : decode cX8_layNet 126 = .ok (.if_icmp .ne 18, 3) := by decide +kernel
theorem dX8_layNet_129 : decode cX8_layNet 129 = .ok (.aload_n 0, 1) := by decide +kernel
theorem dX8_layNet_130 : decode cX8_layNet 130 = .ok (.getfield 59, 3) := by decide +kernel
theorem dX8_layNet_133 : decode cX8_layNet 133 = .ok (.aload_n 0, 1) := by decide +kernel
theorem dX8_layNet_134 : decode cX8_layNet 134 = .ok (.getfield 47, 3) := by decide +kernel
theorem dX8_layNet_137 : decode cX8_layNet 137 = .ok (.iload 7, 2) := by decide +kernel
theorem dX8_layNet_139 : decode cX8_layNet 139 = .ok (.iaload, 1) := by decide +kernel
theorem dX8_layNet_140 : decode cX8_layNet 140 = .ok (.iaload, 1) := by decide +kernel
theorem dX8_layNet_141 : decode cX8_layNet 141 = .ok (.goto 4, 3) := by decide +kernel
theorem dX8_layNet_144 : decode cX8_layNet 144 = .ok (.iconst (-1), 1) := by decide +kernel
theorem dX8_layNet_145 : decode cX8_layNet 145 = .ok (.istore 8, 2) := by decide +kernel
theorem dX8_layNet_147 : decode cX8_layNet 147 = .ok (.iload 8, 2) := by decide +kernel
theorem dX8_layNet_149 : decode cX8_layNet 149 = .ok (.ifCond .lt 44, 3) := by decide +kernel
theorem dX8_layNet_152 : decode cX8_layNet 152 = .ok (.iload_n 3, 1) := by decide +kernel
theorem dX8_layNet_153 : decode cX8_layNet 153 = .ok (.ifCond .lt 36, 3) := by decide +kernel
theorem dX8_layNet_156 : decode cX8_layNet 156 = .ok (.iload 8, 2) := by decide +kernel
theorem dX8_layNet_158 : decode cX8_layNet 158 = .ok (.iload_n 3, 1) := by decide +kernel
theorem dX8_layNet_159 : decode cX8_layNet 159 = .ok (.if_icmp .lt 30, 3) := by decide +kernel
theorem dX8_layNet_162 : decode cX8_layNet 162 = .ok (.iload 8, 2) := by decide +kernel
theorem dX8_layNet_164 : decode cX8_layNet 164 = .ok (.iload_n 3, 1) := by decide +kernel
theorem dX8_layNet_165 : decode cX8_layNet 165 = .ok (.if_icmp .ne 28, 3) := by decide +kernel
theorem dX8_layNet_168 : decode cX8_layNet 168 = .ok (.iload 7, 2) := by decide +kernel
theorem dX8_layNet_170 : decode cX8_layNet 170 = .ok (.iload 4, 2) := by decide +kernel
theorem dX8_layNet_172 : decode cX8_layNet 172 = .ok (.if_icmp .lt 17, 3) := by decide +kernel
theorem dX8_layNet_175 : decode cX8_layNet 175 = .ok (.iload 7, 2) := by decide +kernel
theorem dX8_layNet_177 : decode cX8_layNet 177 = .ok (.iload 4, 2) := by decide +kernel
theorem dX8_layNet_179 : decode cX8_layNet 179 = .ok (.if_icmp .ne 14, 3) := by decide +kernel
theorem dX8_layNet_182 : decode cX8_layNet 182 = .ok (.iload 6, 2) := by decide +kernel
theorem dX8_layNet_184 : decode cX8_layNet 184 = .ok (.iload 5, 2) := by decide +kernel
theorem dX8_layNet_186 : decode cX8_layNet 186 = .ok (.if_icmp .ge 7, 3) := by decide +kernel
theorem dX8_layNet_189 : decode cX8_layNet 189 = .ok (.iconst 1, 1) := by decide +kernel
theorem dX8_layNet_190 : decode cX8_layNet 190 = .ok (.goto 4, 3) := by decide +kernel
theorem dX8_layNet_193 : decode cX8_layNet 193 = .ok (.iconst 0, 1) := by decide +kernel
theorem dX8_layNet_194 : decode cX8_layNet 194 = .ok (.istore 9, 2) := by decide +kernel
theorem dX8_layNet_196 : decode cX8_layNet 196 = .ok (.iload 9, 2) := by decide +kernel
theorem dX8_layNet_198 : decode cX8_layNet 198 = .ok (.ifCond .eq 14, 3) := by decide +kernel
theorem dX8_layNet_201 : decode cX8_layNet 201 = .ok (.iload 8, 2) := by decide +kernel
theorem dX8_layNet_203 : decode cX8_layNet 203 = .ok (.istore_n 3, 1) := by decide +kernel
theorem dX8_layNet_204 : decode cX8_layNet 204 = .ok (.iload 7, 2) := by decide +kernel
theorem dX8_layNet_206 : decode cX8_layNet 206 = .ok (.istore 4, 2) := by decide +kernel
theorem dX8_layNet_208 : decode cX8_layNet 208 = .ok (.iload 6, 2) := by decide +kernel
theorem dX8_layNet_210 : decode cX8_layNet 210 = .ok (.istore 5, 2) := by decide +kernel
theorem dX8_layNet_212 : decode cX8_layNet 212 = .ok (.iinc 7 1, 3) := by decide +kernel
theorem dX8_layNet_215 : decode cX8_layNet 215 = .ok (.goto (-105), 3) := by decide +kernel
theorem dX8_layNet_218 : decode cX8_layNet 218 = .ok (.iinc 6 1, 3) := by decide +kernel
theorem dX8_layNet_221 : decode cX8_layNet 221 = .ok (.goto (-143), 3) := by decide +kernel
theorem dX8_layNet_224 : decode cX8_layNet 224 = .ok (.iload_n 3, 1) := by decide +kernel
theorem dX8_layNet_225 : decode cX8_layNet 225 = .ok (.ifCond .lt 7, 3) := by decide +kernel
theorem dX8_layNet_228 : decode cX8_layNet 228 = .ok (.iconst 1, 1) := by decide +kernel
theorem dX8_layNet_229 : decode cX8_layNet 229 = .ok (.goto 4, 3) := by decide +kernel
theorem dX8_layNet_232 : decode cX8_layNet 232 = .ok (.iconst 0, 1) := by decide +kernel
theorem dX8_layNet_233 : decode cX8_layNet 233 = .ok (.istore_n 2, 1) := by decide +kernel
theorem dX8_layNet_234 : decode cX8_layNet 234 = .ok (.iload_n 2, 1) := by decide +kernel
theorem dX8_layNet_235 : decode cX8_layNet 235 = .ok (.ifCond .eq 132, 3) := by decide +kernel
theorem dX8_layNet_238 : decode cX8_layNet 238 = .ok (.iload_n 1, 1) := by decide +kernel
theorem dX8_layNet_239 : decode cX8_layNet 239 = .ok (.iconst 1, 1) := by decide +kernel
theorem dX8_layNet_240 : decode cX8_layNet 240 = .ok (.iload 5, 2) := by decide +kernel
theorem dX8_layNet_242 : decode cX8_layNet 242 = .ok (.ishl, 1) := by decide +kernel
theorem dX8_layNet_243 : decode cX8_layNet 243 = .ok (.ior, 1) := by decide +kernel
theorem dX8_layNet_244 : decode cX8_layNet 244 = .ok (.istore_n 1, 1) := by decide +kernel
theorem dX8_layNet_245 : decode cX8_layNet 245 = .ok (.aload_n 0, 1) := by decide +kernel
theorem dX8_layNet_246 : decode cX8_layNet 246 = .ok (.dup, 1) := by decide +kernel
theorem dX8_layNet_247 : decode cX8_layNet 247 = .ok (.getfield 152, 3) := by decide +kernel
theorem dX8_layNet_250 : decode cX8_layNet 250 = .ok (.iconst 1, 1) := by decide +kernel
theorem dX8_layNet_251 : decode cX8_layNet 251 = .ok (.iadd, 1) := by decide +kernel
theorem dX8_layNet_252 : decode cX8_layNet 252 = .ok (.putfield 152, 3) := by decide +kernel
theorem dX8_layNet_255 : decode cX8_layNet 255 = .ok (.aload_n 0, 1) := by decide +kernel
theorem dX8_layNet_256 : decode cX8_layNet 256 = .ok (.dup, 1) := by decide +kernel
theorem dX8_layNet_257 : decode cX8_layNet 257 = .ok (.getfield 155, 3) := by decide +kernel
theorem dX8_layNet_260 : decode cX8_layNet 260 = .ok (.iload_n 3, 1) := by decide +kernel
theorem dX8_layNet_261 : decode cX8_layNet 261 = .ok (.iadd, 1) := by decide +kernel
theorem dX8_layNet_262 : decode cX8_layNet 262 = .ok (.putfield 155, 3) := by decide +kernel
theorem dX8_layNet_265 : decode cX8_layNet 265 = .ok (.aload_n 0, 1) := by decide +kernel
theorem dX8_layNet_266 : decode cX8_layNet 266 = .ok (.getfield 50, 3) := by decide +kernel
theorem dX8_layNet_269 : decode cX8_layNet 269 = .ok (.aload_n 0, 1) := by decide +kernel
theorem dX8_layNet_270 : decode cX8_layNet 270 = .ok (.getfield 158, 3) := by decide +kernel
theorem dX8_layNet_273 : decode cX8_layNet 273 = .ok (.iload 4, 2) := by decide +kernel
theorem dX8_layNet_275 : decode cX8_layNet 275 = .ok (.iastore, 1) := by decide +kernel
theorem dX8_layNet_276 : decode cX8_layNet 276 = .ok (.aload_n 0, 1) := by decide +kernel
theorem dX8_layNet_277 : decode cX8_layNet 277 = .ok (.getfield 53, 3) := by decide +kernel
theorem dX8_layNet_280 : decode cX8_layNet 280 = .ok (.aload_n 0, 1) := by decide +kernel
theorem dX8_layNet_281 : decode cX8_layNet 281 = .ok (.getfield 158, 3) := by decide +kernel
theorem dX8_layNet_284 : decode cX8_layNet 284 = .ok (.iload 5, 2) := by decide +kernel
theorem dX8_layNet_286 : decode cX8_layNet 286 = .ok (.iastore, 1) := by decide +kernel
theorem dX8_layNet_287 : decode cX8_layNet 287 = .ok (.aload_n 0, 1) := by decide +kernel
theorem dX8_layNet_288 : decode cX8_layNet 288 = .ok (.dup, 1) := by decide +kernel
theorem dX8_layNet_289 : decode cX8_layNet 289 = .ok (.getfield 158, 3) := by decide +kernel
theorem dX8_layNet_292 : decode cX8_layNet 292 = .ok (.iconst 1, 1) := by decide +kernel
theorem dX8_layNet_293 : decode cX8_layNet 293 = .ok (.iadd, 1) := by decide +kernel
theorem dX8_layNet_294 : decode cX8_layNet 294 = .ok (.putfield 158, 3) := by decide +kernel
theorem dX8_layNet_297 : decode cX8_layNet 297 = .ok (.aload_n 0, 1) := by decide +kernel
theorem dX8_layNet_298 : decode cX8_layNet 298 = .ok (.aload_n 0, 1) := by decide +kernel
theorem dX8_layNet_299 : decode cX8_layNet 299 = .ok (.getfield 47, 3) := by decide +kernel
theorem dX8_layNet_302 : decode cX8_layNet 302 = .ok (.iload 5, 2) := by decide +kernel
theorem dX8_layNet_304 : decode cX8_layNet 304 = .ok (.iaload, 1) := by decide +kernel
theorem dX8_layNet_305 : decode cX8_layNet 305 = .ok (.invokevirtual 161, 3) := by decide +kernel
theorem dX8_layNet_308 : decode cX8_layNet 308 = .ok (.aload_n 0, 1) := by decide +kernel
theorem dX8_layNet_309 : decode cX8_layNet 309 = .ok (.getfield 56, 3) := by decide +kernel
theorem dX8_layNet_312 : decode cX8_layNet 312 = .ok (.aload_n 0, 1) := by decide +kernel
theorem dX8_layNet_313 : decode cX8_layNet 313 = .ok (.getfield 47, 3) := by decide +kernel
theorem dX8_layNet_316 : decode cX8_layNet 316 = .ok (.iload 4, 2) := by decide +kernel
theorem dX8_layNet_318 : decode cX8_layNet 318 = .ok (.iaload, 1) := by decide +kernel
theorem dX8_layNet_319 : decode cX8_layNet 319 = .ok (.dup2, 1) := by decide +kernel
theorem dX8_layNet_320 : decode cX8_layNet 320 = .ok (.iaload, 1) := by decide +kernel
theorem dX8_layNet_321 : decode cX8_layNet 321 = .ok (.iconst 1, 1) := by decide +kernel
theorem dX8_layNet_322 : decode cX8_layNet 322 = .ok (.iadd, 1) := by decide +kernel
theorem dX8_layNet_323 : decode cX8_layNet 323 = .ok (.iastore, 1) := by decide +kernel
theorem dX8_layNet_324 : decode cX8_layNet 324 = .ok (.aload_n 0, 1) := by decide +kernel
theorem dX8_layNet_325 : decode cX8_layNet 325 = .ok (.getfield 47, 3) := by decide +kernel
theorem dX8_layNet_328 : decode cX8_layNet 328 = .ok (.iload 4, 2) := by decide +kernel
theorem dX8_layNet_330 : decode cX8_layNet 330 = .ok (.iaload, 1) := by decide +kernel
theorem dX8_layNet_331 : decode cX8_layNet 331 = .ok (.istore 6, 2) := by decide +kernel
theorem dX8_layNet_333 : decode cX8_layNet 333 = .ok (.iload 6, 2) := by decide +kernel
theorem dX8_layNet_335 : decode cX8_layNet 335 = .ok (.aload_n 0, 1) := by decide +kernel
theorem dX8_layNet_336 : decode cX8_layNet 336 = .ok (.getfield 47, 3) := by decide +kernel
theorem dX8_layNet_339 : decode cX8_layNet 339 = .ok (.iload 5, 2) := by decide +kernel
theorem dX8_layNet_341 : decode cX8_layNet 341 = .ok (.iaload, 1) := by decide +kernel
theorem dX8_layNet_342 : decode cX8_layNet 342 = .ok (.if_icmp .eq 25, 3) := by decide +kernel
theorem dX8_layNet_345 : decode cX8_layNet 345 = .ok (.aload_n 0, 1) := by decide +kernel
theorem dX8_layNet_346 : decode cX8_layNet 346 = .ok (.iload 6, 2) := by decide +kernel
theorem dX8_layNet_348 : decode cX8_layNet 348 = .ok (.invokevirtual 165, 3) := by decide +kernel
theorem dX8_layNet_351 : decode cX8_layNet 351 = .ok (.istore 6, 2) := by decide +kernel
theorem dX8_layNet_353 : decode cX8_layNet 353 = .ok (.aload_n 0, 1) := by decide +kernel
theorem dX8_layNet_354 : decode cX8_layNet 354 = .ok (.getfield 56, 3) := by decide +kernel
theorem dX8_layNet_357 : decode cX8_layNet 357 = .ok (.iload 6, 2) := by decide +kernel
theorem dX8_layNet_359 : decode cX8_layNet 359 = .ok (.dup2, 1) := by decide +kernel
theorem dX8_layNet_360 : decode cX8_layNet 360 = .ok (.iaload, 1) := by decide +kernel
theorem dX8_layNet_361 : decode cX8_layNet 361 = .ok (.iconst 1, 1) := by decide +kernel
theorem dX8_layNet_362 : decode cX8_layNet 362 = .ok (.iadd, 1) := by decide +kernel
theorem dX8_layNet_363 : decode cX8_layNet 363 = .ok (.iastore, 1) := by decide +kernel
theorem dX8_layNet_364 : decode cX8_layNet 364 = .ok (.goto (-31), 3) := by decide +kernel
theorem dX8_layNet_367 : decode cX8_layNet 367 = .ok (.goto (-306), 3) := by decide +kernel
theorem dX8_layNet_370 : decode cX8_layNet 370 = .ok (.return_, 1) := by decide +kernel
theorem dX8_lay_0 : decode cX8_lay 0 = .ok (.aload_n 0, 1) := by decide +kernel
theorem dX8_lay_1 : decode cX8_lay 1 = .ok (.getfield 76, 3) := by decide +kernel
theorem dX8_lay_4 : decode cX8_lay 4 = .ok (.ifCond .ne 20, 3) := by decide +kernel
theorem dX8_lay_7 : decode cX8_lay 7 = .ok (.aload_n 0, 1) := by decide +kernel
theorem dX8_lay_8 : decode cX8_lay 8 = .ok (.iconst 1, 1) := by decide +kernel
theorem dX8_lay_9 : decode cX8_lay 9 = .ok (.putfield 76, 3) := by decide +kernel
theorem dX8_lay_12 : decode cX8_lay 12 = .ok (.aload_n 0, 1) := by decide +kernel
theorem dX8_lay_13 : decode cX8_lay 13 = .ok (.invokevirtual 168, 3) := by decide +kernel
theorem dX8_lay_16 : decode cX8_lay 16 = .ok (.aload_n 0, 1) := by decide +kernel
theorem dX8_lay_17 : decode cX8_lay 17 = .ok (.invokevirtual 171, 3) := by decide +kernel
theorem dX8_lay_20 : decode cX8_lay 20 = .ok (.aload_n 0, 1) := by decide +kernel
theorem dX8_lay_21 : decode cX8_lay 21 = .ok (.invokevirtual 174, 3) := by decide +kernel
theorem dX8_lay_24 : decode cX8_lay 24 = .ok (.return_, 1) := by decide +kernel
theorem dX8_outletOf_0 : decode cX8_outletOf 0 = .ok (.iload_n 1, 1) := by decide +kernel
theorem dX8_outletOf_1 : decode cX8_outletOf 1 = .ok (.istore_n 2, 1) := by decide +kernel
theorem dX8_outletOf_2 : decode cX8_outletOf 2 = .ok (.aload_n 0, 1) := by decide +kernel
theorem dX8_outletOf_3 : decode cX8_outletOf 3 = .ok (.getfield 32, 3) := by decide +kernel
theorem dX8_outletOf_6 : decode cX8_outletOf 6 = .ok (.iload_n 2, 1) := by decide +kernel
theorem dX8_outletOf_7 : decode cX8_outletOf 7 = .ok (.iaload, 1) := by decide +kernel
theorem dX8_outletOf_8 : decode cX8_outletOf 8 = .ok (.ifCond .lt 13, 3) := by decide +kernel
theorem dX8_outletOf_11 : decode cX8_outletOf 11 = .ok (.aload_n 0, 1) := by decide +kernel
theorem dX8_outletOf_12 : decode cX8_outletOf 12 = .ok (.getfield 32, 3) := by decide +kernel
theorem dX8_outletOf_15 : decode cX8_outletOf 15 = .ok (.iload_n 2, 1) := by decide +kernel
theorem dX8_outletOf_16 : decode cX8_outletOf 16 = .ok (.iaload, 1) := by decide +kernel
theorem dX8_outletOf_17 : decode cX8_outletOf 17 = .ok (.istore_n 2, 1) := by decide +kernel
theorem dX8_outletOf_18 : decode cX8_outletOf 18 = .ok (.goto (-16), 3) := by decide +kernel
theorem dX8_outletOf_21 : decode cX8_outletOf 21 = .ok (.iload_n 2, 1) := by decide +kernel
theorem dX8_outletOf_22 : decode cX8_outletOf 22 = .ok (.ireturn, 1) := by decide +kernel
theorem dX8_about_0 : decode cX8_about 0 = .ok (.aload_n 0, 1) := by decide +kernel
theorem dX8_about_1 : decode cX8_about 1 = .ok (.iload_n 1, 1) := by decide +kernel
theorem dX8_about_2 : decode cX8_about 2 = .ok (.invokevirtual 104, 3) := by decide +kernel
theorem dX8_about_5 : decode cX8_about 5 = .ok (.ifCond .ne 5, 3) := by decide +kernel
theorem dX8_about_8 : decode cX8_about 8 = .ok (.iconst (-1), 1) := by decide +kernel
theorem dX8_about_9 : decode cX8_about 9 = .ok (.ireturn, 1) := by decide +kernel
theorem dX8_about_10 : decode cX8_about 10 = .ok (.aload_n 0, 1) := by decide +kernel
theorem dX8_about_11 : decode cX8_about 11 = .ok (.invokevirtual 177, 3) := by decide +kernel
theorem dX8_about_14 : decode cX8_about 14 = .ok (.iload_n 2, 1) := by decide +kernel
theorem dX8_about_15 : decode cX8_about 15 = .ok (.tableswitch 88 0 6 #[41, 48, 55, 62, 69, 75, 82], 41) := by decide +kernel
theorem dX8_about_56 : decode cX8_about 56 = .ok (.aload_n 0, 1) := by decide +kernel
theorem dX8_about_57 : decode cX8_about 57 = .ok (.getfield 26, 3) := by decide +kernel
theorem dX8_about_60 : decode cX8_about 60 = .ok (.iload_n 1, 1) := by decide +kernel
theorem dX8_about_61 : decode cX8_about 61 = .ok (.iaload, 1) := by decide +kernel
theorem dX8_about_62 : decode cX8_about 62 = .ok (.ireturn, 1) := by decide +kernel
theorem dX8_about_63 : decode cX8_about 63 = .ok (.aload_n 0, 1) := by decide +kernel
theorem dX8_about_64 : decode cX8_about 64 = .ok (.getfield 29, 3) := by decide +kernel
theorem dX8_about_67 : decode cX8_about 67 = .ok (.iload_n 1, 1) := by decide +kernel
theorem dX8_about_68 : decode cX8_about 68 = .ok (.iaload, 1) := by decide +kernel
theorem dX8_about_69 : decode cX8_about 69 = .ok (.ireturn, 1) := by decide +kernel
theorem dX8_about_70 : decode cX8_about 70 = .ok (.aload_n 0, 1) := by decide +kernel
theorem dX8_about_71 : decode cX8_about 71 = .ok (.getfield 32, 3) := by decide +kernel
theorem dX8_about_74 : decode cX8_about 74 = .ok (.iload_n 1, 1) := by decide +kernel
theorem dX8_about_75 : decode cX8_about 75 = .ok (.iaload, 1) := by decide +kernel
theorem dX8_about_76 : decode cX8_about 76 = .ok (.ireturn, 1) := by decide +kernel
theorem dX8_about_77 : decode cX8_about 77 = .ok (.aload_n 0, 1) := by decide +kernel
theorem dX8_about_78 : decode cX8_about 78 = .ok (.getfield 41, 3) := by decide +kernel
theorem dX8_about_81 : decode cX8_about 81 = .ok (.iload_n 1, 1) := by decide +kernel
theorem dX8_about_82 : decode cX8_about 82 = .ok (.iaload, 1) := by decide +kernel
theorem dX8_about_83 : decode cX8_about 83 = .ok (.ireturn, 1) := by decide +kernel
theorem dX8_about_84 : decode cX8_about 84 = .ok (.aload_n 0, 1) := by decide +kernel
theorem dX8_about_85 : decode cX8_about 85 = .ok (.iload_n 1, 1) := by decide +kernel
theorem dX8_about_86 : decode cX8_about 86 = .ok (.invokevirtual 180, 3) := by decide +kernel
theorem dX8_about_89 : decode cX8_about 89 = .ok (.ireturn, 1) := by decide +kernel
theorem dX8_about_90 : decode cX8_about 90 = .ok (.aload_n 0, 1) := by decide +kernel
theorem dX8_about_91 : decode cX8_about 91 = .ok (.getfield 35, 3) := by decide +kernel
theorem dX8_about_94 : decode cX8_about 94 = .ok (.iload_n 1, 1) := by decide +kernel
theorem dX8_about_95 : decode cX8_about 95 = .ok (.iaload, 1) := by decide +kernel
theorem dX8_about_96 : decode cX8_about 96 = .ok (.ireturn, 1) := by decide +kernel
theorem dX8_about_97 : decode cX8_about 97 = .ok (.aload_n 0, 1) := by decide +kernel
theorem dX8_about_98 : decode cX8_about 98 = .ok (.iload_n 1, 1) := by decide +kernel
theorem dX8_about_99 : decode cX8_about 99 = .ok (.invokevirtual 143, 3) := by decide +kernel
theorem dX8_about_102 : decode cX8_about 102 = .ok (.ireturn, 1) := by decide +kernel
theorem dX8_about_103 : decode cX8_about 103 = .ok (.bipush (-2), 2) := by decide +kernel
theorem dX8_about_105 : decode cX8_about 105 = .ok (.ireturn, 1) := by decide +kernel
theorem dX8_isAll_0 : decode cX8_isAll 0 = .ok (.aload_n 0, 1) := by decide +kernel
theorem dX8_isAll_1 : decode cX8_isAll 1 = .ok (.getfield 44, 3) := by decide +kernel
theorem dX8_isAll_4 : decode cX8_isAll 4 = .ok (.iload_n 1, 1) := by decide +kernel
theorem dX8_isAll_5 : decode cX8_isAll 5 = .ok (.iaload, 1) := by decide +kernel
theorem dX8_isAll_6 : decode cX8_isAll 6 = .ok (.aload_n 0, 1) := by decide +kernel
theorem dX8_isAll_7 : decode cX8_isAll 7 = .ok (.getfield 56, 3) := by decide +kernel
theorem dX8_isAll_10 : decode cX8_isAll 10 = .ok (.iload_n 1, 1) := by decide +kernel
theorem dX8_isAll_11 : decode cX8_isAll 11 = .ok (.iaload, 1) := by decide +kernel
theorem dX8_isAll_12 : decode cX8_isAll 12 = .ok (.ifCond .le 8, 3) := by decide +kernel
theorem dX8_isAll_15 : decode cX8_isAll 15 = .ok (.bipush 32, 2) := by decide +kernel
theorem dX8_isAll_17 : decode cX8_isAll 17 = .ok (.goto 4, 3) := by decide +kernel
theorem dX8_isAll_20 : decode cX8_isAll 20 = .ok (.iconst 0, 1) := by decide +kernel
theorem dX8_isAll_21 : decode cX8_isAll 21 = .ok (.iadd, 1) := by decide +kernel
theorem dX8_isAll_22 : decode cX8_isAll 22 = .ok (.istore_n 2, 1) := by decide +kernel
theorem dX8_isAll_23 : decode cX8_isAll 23 = .ok (.iconst 0, 1) := by decide +kernel
theorem dX8_isAll_24 : decode cX8_isAll 24 = .ok (.istore_n 3, 1) := by decide +kernel
theorem dX8_isAll_25 : decode cX8_isAll 25 = .ok (.iload_n 3, 1) := by decide +kernel
theorem dX8_isAll_26 : decode cX8_isAll 26 = .ok (.aload_n 0, 1) := by decide +kernel
theorem dX8_isAll_27 : decode cX8_isAll 27 = .ok (.getfield 134, 3) := by decide +kernel
theorem dX8_isAll_30 : decode cX8_isAll 30 = .ok (.if_icmp .ge 28, 3) := by decide +kernel
theorem dX8_isAll_33 : decode cX8_isAll 33 = .ok (.iload_n 2, 1) := by decide +kernel
theorem dX8_isAll_34 : decode cX8_isAll 34 = .ok (.aload_n 0, 1) := by decide +kernel
theorem dX8_isAll_35 : decode cX8_isAll 35 = .ok (.getfield 47, 3) := by decide +kernel
theorem dX8_isAll_38 : decode cX8_isAll 38 = .ok (.iload_n 3, 1) := by decide +kernel
theorem dX8_isAll_39 : decode cX8_isAll 39 = .ok (.iaload, 1) := by decide +kernel
theorem dX8_isAll_40 : decode cX8_isAll 40 = .ok (.iload_n 1, 1) := by decide +kernel
theorem dX8_isAll_41 : decode cX8_isAll 41 = .ok (.if_icmp .ne 8, 3) := by decide +kernel
theorem dX8_isAll_44 : decode cX8_isAll 44 = .ok (.bipush 16, 2) := by decide +kernel
theorem dX8_isAll_46 : decode cX8_isAll 46 = .ok (.goto 4, 3) := by decide +kernel
theorem dX8_isAll_49 : decode cX8_isAll 49 = .ok (.iconst 0, 1) := by decide +kernel
theorem dX8_isAll_50 : decode cX8_isAll 50 = .ok (.iadd, 1) := by decide +kernel
theorem dX8_isAll_51 : decode cX8_isAll 51 = .ok (.istore_n 2, 1) := by decide +kernel
theorem dX8_isAll_52 : decode cX8_isAll 52 = .ok (.iinc 3 1, 3) := by decide +kernel
theorem dX8_isAll_55 : decode cX8_isAll 55 = .ok (.goto (-30), 3) := by decide +kernel
theorem dX8_isAll_58 : decode cX8_isAll 58 = .ok (.iload_n 2, 1) := by decide +kernel
theorem dX8_isAll_59 : decode cX8_isAll 59 = .ok (.ireturn, 1) := by decide +kernel
theorem dX8_is_0 : decode cX8_is 0 = .ok (.aload_n 0, 1) := by decide +kernel
theorem dX8_is_1 : decode cX8_is 1 = .ok (.iload_n 1, 1) := by decide +kernel
theorem dX8_is_2 : decode cX8_is 2 = .ok (.invokevirtual 104, 3) := by decide +kernel
theorem dX8_is_5 : decode cX8_is 5 = .ok (.ifCond .ne 5, 3) := by decide +kernel
theorem dX8_is_8 : decode cX8_is 8 = .ok (.iconst (-1), 1) := by decide +kernel
theorem dX8_is_9 : decode cX8_is 9 = .ok (.ireturn, 1) := by decide +kernel
theorem dX8_is_10 : decode cX8_is 10 = .ok (.aload_n 0, 1) := by decide +kernel
theorem dX8_is_11 : decode cX8_is 11 = .ok (.invokevirtual 177, 3) := by decide +kernel
theorem dX8_is_14 : decode cX8_is 14 = .ok (.aload_n 0, 1) := by decide +kernel
theorem dX8_is_15 : decode cX8_is 15 = .ok (.iload_n 1, 1) := by decide +kernel
theorem dX8_is_16 : decode cX8_is 16 = .ok (.invokevirtual 183, 3) := by decide +kernel
theorem dX8_is_19 : decode cX8_is 19 = .ok (.ireturn, 1) := by decide +kernel
theorem dX8_many_0 : decode cX8_many 0 = .ok (.iload_n 1, 1) := by decide +kernel
theorem dX8_many_1 : decode cX8_many 1 = .ok (.iconst 1, 1) := by decide +kernel
theorem dX8_many_2 : decode cX8_many 2 = .ok (.if_icmp .eq 34, 3) := by decide +kernel
theorem dX8_many_5 : decode cX8_many 5 = .ok (.iload_n 1, 1) := by decide +kernel
theorem dX8_many_6 : decode cX8_many 6 = .ok (.iconst 2, 1) := by decide +kernel
theorem dX8_many_7 : decode cX8_many 7 = .ok (.if_icmp .eq 29, 3) := by decide +kernel
theorem dX8_many_10 : decode cX8_many 10 = .ok (.iload_n 1, 1) := by decide +kernel
theorem dX8_many_11 : decode cX8_many 11 = .ok (.iconst 4, 1) := by decide +kernel
theorem dX8_many_12 : decode cX8_many 12 = .ok (.if_icmp .eq 24, 3) := by decide +kernel
theorem dX8_many_15 : decode cX8_many 15 = .ok (.iload_n 1, 1) := by decide +kernel
theorem dX8_many_16 : decode cX8_many 16 = .ok (.bipush 8, 2) := by decide +kernel
theorem dX8_many_18 : decode cX8_many 18 = .ok (.if_icmp .eq 18, 3) := by decide +kernel
theorem dX8_many_21 : decode cX8_many 21 = .ok (.iload_n 1, 1) := by decide +kernel
theorem dX8_many_22 : decode cX8_many 22 = .ok (.bipush 16, 2) := by decide +kernel
theorem dX8_many_24 : decode cX8_many 24 = .ok (.if_icmp .eq 12, 3) := by decide +kernel
theorem dX8_many_27 : decode cX8_many 27 = .ok (.iload_n 1, 1) := by decide +kernel
theorem dX8_many_28 : decode cX8_many 28 = .ok (.bipush 32, 2) := by decide +kernel
theorem dX8_many_30 : decode cX8_many 30 = .ok (.if_icmp .eq 6, 3) := by decide +kernel
theorem dX8_many_33 : decode cX8_many 33 = .ok (.bipush (-2), 2) := by decide +kernel
theorem dX8_many_35 : decode cX8_many 35 = .ok (.ireturn, 1) := by decide +kernel
theorem dX8_many_36 : decode cX8_many 36 = .ok (.aload_n 0, 1) := by decide +kernel
theorem dX8_many_37 : decode cX8_many 37 = .ok (.invokevirtual 177, 3) := by decide +kernel
theorem dX8_many_40 : decode cX8_many 40 = .ok (.iconst 0, 1) := by decide +kernel
theorem dX8_many_41 : decode cX8_many 41 = .ok (.istore_n 2, 1) := by decide +kernel
theorem dX8_many_42 : decode cX8_many 42 = .ok (.iconst 0, 1) := by decide +kernel
theorem dX8_many_43 : decode cX8_many 43 = .ok (.istore_n 3, 1) := by decide +kernel
theorem dX8_many_44 : decode cX8_many 44 = .ok (.iload_n 3, 1) := by decide +kernel
theorem dX8_many_45 : decode cX8_many 45 = .ok (.aload_n 0, 1) := by decide +kernel
theorem dX8_many_46 : decode cX8_many 46 = .ok (.getfield 7, 3) := by decide +kernel
theorem dX8_many_49 : decode cX8_many 49 = .ok (.aload_n 0, 1) := by decide +kernel
theorem dX8_many_50 : decode cX8_many 50 = .ok (.getfield 7, 3) := by decide +kernel
theorem dX8_many_53 : decode cX8_many 53 = .ok (.imul, 1) := by decide +kernel
theorem dX8_many_54 : decode cX8_many 54 = .ok (.if_icmp .ge 27, 3) := by decide +kernel
theorem dX8_many_57 : decode cX8_many 57 = .ok (.iload_n 2, 1) := by decide +kernel
theorem dX8_many_58 : decode cX8_many 58 = .ok (.aload_n 0, 1) := by decide +kernel
theorem dX8_many_59 : decode cX8_many 59 = .ok (.iload_n 3, 1) := by decide +kernel
theorem dX8_many_60 : decode cX8_many 60 = .ok (.invokevirtual 183, 3) := by decide +kernel
theorem dX8_many_63 : decode cX8_many 63 = .ok (.iload_n 1, 1) := by decide +kernel
theorem dX8_many_64 : decode cX8_many 64 = .ok (.iand, 1) := by decide +kernel
theorem dX8_many_65 : decode cX8_many 65 = .ok (.ifCond .eq 7, 3) := by decide +kernel
theorem dX8_many_68 : decode cX8_many 68 = .ok (.iconst 1, 1) := by decide +kernel
theorem dX8_many_69 : decode cX8_many 69 = .ok (.goto 4, 3) := by decide +kernel
theorem dX8_many_72 : decode cX8_many 72 = .ok (.iconst 0, 1) := by decide +kernel
theorem dX8_many_73 : decode cX8_many 73 = .ok (.iadd, 1) := by decide +kernel
theorem dX8_many_74 : decode cX8_many 74 = .ok (.istore_n 2, 1) := by decide +kernel
theorem dX8_many_75 : decode cX8_many 75 = .ok (.iinc 3 1, 3) := by decide +kernel
theorem dX8_many_78 : decode cX8_many 78 = .ok (.goto (-34), 3) := by decide +kernel
theorem dX8_many_81 : decode cX8_many 81 = .ok (.iload_n 2, 1) := by decide +kernel
theorem dX8_many_82 : decode cX8_many 82 = .ok (.ireturn, 1) := by decide +kernel
theorem dX8_layMarks_0 : decode cX8_layMarks 0 = .ok (.iconst 0, 1) := by decide +kernel
theorem dX8_layMarks_1 : decode cX8_layMarks 1 = .ok (.istore_n 1, 1) := by decide +kernel
theorem dX8_layMarks_2 : decode cX8_layMarks 2 = .ok (.iload_n 1, 1) := by decide +kernel
theorem dX8_layMarks_3 : decode cX8_layMarks 3 = .ok (.aload_n 0, 1) := by decide +kernel
theorem dX8_layMarks_4 : decode cX8_layMarks 4 = .ok (.getfield 7, 3) := by decide +kernel
theorem dX8_layMarks_7 : decode cX8_layMarks 7 = .ok (.aload_n 0, 1) := by decide +kernel
theorem dX8_layMarks_8 : decode cX8_layMarks 8 = .ok (.getfield 7, 3) := by decide +kernel
theorem dX8_layMarks_11 : decode cX8_layMarks 11 = .ok (.imul, 1) := by decide +kernel
theorem dX8_layMarks_12 : decode cX8_layMarks 12 = .ok (.if_icmp .ge 31, 3) := by decide +kernel
theorem dX8_layMarks_15 : decode cX8_layMarks 15 = .ok (.aload_n 0, 1) := by decide +kernel
theorem dX8_layMarks_16 : decode cX8_layMarks 16 = .ok (.getfield 66, 3) := by decide +kernel
theorem dX8_layMarks_19 : decode cX8_layMarks 19 = .ok (.iload_n 1, 1) := by decide +kernel
theorem dX8_layMarks_20 : decode cX8_layMarks 20 = .ok (.aload_n 0, 1) := by decide +kernel
theorem dX8_layMarks_21 : decode cX8_layMarks 21 = .ok (.getfield 44, 3) := by decide +kernel
theorem dX8_layMarks_24 : decode cX8_layMarks 24 = .ok (.iload_n 1, 1) := by decide +kernel
theorem dX8_layMarks_25 : decode cX8_layMarks 25 = .ok (.iaload, 1) := by decide +kernel
theorem dX8_layMarks_26 : decode cX8_layMarks 26 = .ok (.iconst 2, 1) := by decide +kernel
theorem dX8_layMarks_27 : decode cX8_layMarks 27 = .ok (.if_icmp .ne 7, 3) := by decide +kernel
theorem dX8_layMarks_30 : decode cX8_layMarks 30 = .ok (.iload_n 1, 1) := by decide +kernel
theorem dX8_layMarks_31 : decode cX8_layMarks 31 = .ok (.goto 5, 3) := by decide +kernel
theorem dX8_layMarks_34 : decode cX8_layMarks 34 = .ok (.bipush (-6), 2) := by decide +kernel
theorem dX8_layMarks_36 : decode cX8_layMarks 36 = .ok (.iastore, 1) := by decide +kernel
theorem dX8_layMarks_37 : decode cX8_layMarks 37 = .ok (.iinc 1 1, 3) := by decide +kernel
theorem dX8_layMarks_40 : decode cX8_layMarks 40 = .ok (.goto (-38), 3) := by decide +kernel
theorem dX8_layMarks_43 : decode cX8_layMarks 43 = .ok (.iconst 1, 1) := by decide +kernel
theorem dX8_layMarks_44 : decode cX8_layMarks 44 = .ok (.istore_n 1, 1) := by decide +kernel
theorem dX8_layMarks_45 : decode cX8_layMarks 45 = .ok (.iload_n 1, 1) := by decide +kernel
theorem dX8_layMarks_46 : decode cX8_layMarks 46 = .ok (.ifCond .eq 121, 3) := by decide +kernel
theorem dX8_layMarks_49 : decode cX8_layMarks 49 = .ok (.iconst 0, 1) := by decide +kernel
theorem dX8_layMarks_50 : decode cX8_layMarks 50 = .ok (.istore_n 1, 1) := by decide +kernel
theorem dX8_layMarks_51 : decode cX8_layMarks 51 = .ok (.iconst 0, 1) := by decide +kernel
theorem dX8_layMarks_52 : decode cX8_layMarks 52 = .ok (.istore_n 2, 1) := by decide +kernel
theorem dX8_layMarks_53 : decode cX8_layMarks 53 = .ok (.iload_n 2, 1) := by decide +kernel
theorem dX8_layMarks_54 : decode cX8_layMarks 54 = .ok (.aload_n 0, 1) := by decide +kernel
theorem dX8_layMarks_55 : decode cX8_layMarks 55 = .ok (.getfield 7, 3) := by decide +kernel
theorem dX8_layMarks_58 : decode cX8_layMarks 58 = .ok (.aload_n 0, 1) := by decide +kernel
theorem dX8_layMarks_59 : decode cX8_layMarks 59 = .ok (.getfield 7, 3) := by decide +kernel
theorem dX8_layMarks_62 : decode cX8_layMarks 62 = .ok (.imul, 1) := by decide +kernel
theorem dX8_layMarks_63 : decode cX8_layMarks 63 = .ok (.if_icmp .ge 101, 3) := by decide +kernel
theorem dX8_layMarks_66 : decode cX8_layMarks 66 = .ok (.iconst 0, 1) := by decide +kernel
theorem dX8_layMarks_67 : decode cX8_layMarks 67 = .ok (.istore_n 3, 1) := by decide +kernel
theorem dX8_layMarks_68 : decode cX8_layMarks 68 = .ok (.iload_n 3, 1) := by decide +kernel
theorem dX8_layMarks_69 : decode cX8_layMarks 69 = .ok (.iconst 4, 1) := by decide +kernel
theorem dX8_layMarks_70 : decode cX8_layMarks 70 = .ok (.if_icmp .ge 88, 3) := by decide +kernel
theorem dX8_layMarks_73 : decode cX8_layMarks 73 = .ok (.aload_n 0, 1) := by decide +kernel
theorem dX8_layMarks_74 : decode cX8_layMarks 74 = .ok (.getfield 66, 3) := by decide +kernel
theorem dX8_layMarks_77 : decode cX8_layMarks 77 = .ok (.iload_n 2, 1) := by decide +kernel
theorem dX8_layMarks_78 : decode cX8_layMarks 78 = .ok (.iaload, 1) := by decide +kernel
theorem dX8_layMarks_79 : decode cX8_layMarks 79 = .ok (.ifCond .lt 79, 3) := by decide +kernel
theorem dX8_layMarks_82 : decode cX8_layMarks 82 = .ok (.aload_n 0, 1) := by decide +kernel
theorem dX8_layMarks_83 : decode cX8_layMarks 83 = .ok (.iload_n 2, 1) := by decide +kernel
theorem dX8_layMarks_84 : decode cX8_layMarks 84 = .ok (.iload_n 3, 1) := by decide +kernel
theorem dX8_layMarks_85 : decode cX8_layMarks 85 = .ok (.invokevirtual 114, 3) := by decide +kernel
theorem dX8_layMarks_88 : decode cX8_layMarks 88 = .ok (.istore 4, 2) := by decide +kernel
theorem dX8_layMarks_90 : decode cX8_layMarks 90 = .ok (.iload 4, 2) := by decide +kernel
theorem dX8_layMarks_92 : decode cX8_layMarks 92 = .ok (.ifCond .lt 60, 3) := by decide +kernel
theorem dX8_layMarks_95 : decode cX8_layMarks 95 = .ok (.aload_n 0, 1) := by decide +kernel
theorem dX8_layMarks_96 : decode cX8_layMarks 96 = .ok (.getfield 66, 3) := by decide +kernel
theorem dX8_layMarks_99 : decode cX8_layMarks 99 = .ok (.iload 4, 2) := by decide +kernel
theorem dX8_layMarks_101 : decode cX8_layMarks 101 = .ok (.iaload, 1) := by decide +kernel
theorem dX8_layMarks_102 : decode cX8_layMarks 102 = .ok (.ifCond .lt 50, 3) := by decide +kernel
theorem dX8_layMarks_105 : decode cX8_layMarks 105 = .ok (.aload_n 0, 1) := by decide +kernel
theorem dX8_layMarks_106 : decode cX8_layMarks 106 = .ok (.getfield 29, 3) := by decide +kernel
theorem dX8_layMarks_109 : decode cX8_layMarks 109 = .ok (.iload 4, 2) := by decide +kernel
theorem dX8_layMarks_111 : decode cX8_layMarks 111 = .ok (.iaload, 1) := by decide +kernel
theorem dX8_layMarks_112 : decode cX8_layMarks 112 = .ok (.aload_n 0, 1) := by decide +kernel
theorem dX8_layMarks_113 : decode cX8_layMarks 113 = .ok (.getfield 29, 3) := by decide +kernel
theorem dX8_layMarks_116 : decode cX8_layMarks 116 = .ok (.iload_n 2, 1) := by decide +kernel
theorem dX8_layMarks_117 : decode cX8_layMarks 117 = .ok (.iaload, 1) := by decide +kernel
theorem dX8_layMarks_118 : decode cX8_layMarks 118 = .ok (.if_icmp .ne 34, 3) := by decide +kernel
theorem dX8_layMarks_121 : decode cX8_layMarks 121 = .ok (.aload_n 0, 1) := by decide +kernel
theorem dX8_layMarks_122 : decode cX8_layMarks 122 = .ok (.getfield 66, 3) := by decide +kernel
theorem dX8_layMarks_125 : decode cX8_layMarks 125 = .ok (.iload 4, 2) := by decide +kernel
theorem dX8_layMarks_127 : decode cX8_layMarks 127 = .ok (.iaload, 1) := by decide +kernel
theorem dX8_layMarks_128 : decode cX8_layMarks 128 = .ok (.aload_n 0, 1) := by decide +kernel
theorem dX8_layMarks_129 : decode cX8_layMarks 129 = .ok (.getfield 66, 3) := by decide +kernel
theorem dX8_layMarks_132 : decode cX8_layMarks 132 = .ok (.iload_n 2, 1) := by decide +kernel
theorem dX8_layMarks_133 : decode cX8_layMarks 133 = .ok (.iaload, 1) := by decide +kernel
theorem dX8_layMarks_134 : decode cX8_layMarks 134 = .ok (.if_icmp .ge 18, 3) := by decide +kernel
theorem dX8_layMarks_137 : decode cX8_layMarks 137 = .ok (.aload_n 0, 1) := by decide +kernel
theorem dX8_layMarks_138 : decode cX8_layMarks 138 = .ok (.getfield 66, 3) := by decide +kernel
theorem dX8_layMarks_141 : decode cX8_layMarks 141 = .ok (.iload_n 2, 1) := by decide +kernel
theorem dX8_layMarks_142 : decode cX8_layMarks 142 = .ok (.aload_n 0, 1) := by decide +kernel
theorem dX8_layMarks_143 : decode cX8_layMarks 143 = .ok (.getfield 66, 3) := by decide +kernel
theorem dX8_layMarks_146 : decode cX8_layMarks 146 = .ok (.iload 4, 2) := by decide +kernel
theorem dX8_layMarks_148 : decode cX8_layMarks 148 = .ok (.iaload, 1) := by decide +kernel
theorem dX8_layMarks_149 : decode cX8_layMarks 149 = .ok (.iastore, 1) := by decide +kernel
theorem dX8_layMarks_150 : decode cX8_layMarks 150 = .ok (.iconst 1, 1) := by decide +kernel
theorem dX8_layMarks_151 : decode cX8_layMarks 151 = .ok (.istore_n 1, 1) := by decide +kernel
theorem dX8_layMarks_152 : decode cX8_layMarks 152 = .ok (.iinc 3 1, 3) := by decide +kernel
theorem dX8_layMarks_155 : decode cX8_layMarks 155 = .ok (.goto (-87), 3) := by decide +kernel
theorem dX8_layMarks_158 : decode cX8_layMarks 158 = .ok (.iinc 2 1, 3) := by decide +kernel
theorem dX8_layMarks_161 : decode cX8_layMarks 161 = .ok (.goto (-108), 3) := by decide +kernel
theorem dX8_layMarks_164 : decode cX8_layMarks 164 = .ok (.goto (-119), 3) := by decide +kernel
theorem dX8_layMarks_167 : decode cX8_layMarks 167 = .ok (.return_, 1) := by decide +kernel
theorem dX8_lakes_0 : decode cX8_lakes 0 = .ok (.aload_n 0, 1) := by decide +kernel
theorem dX8_lakes_1 : decode cX8_lakes 1 = .ok (.invokevirtual 177, 3) := by decide +kernel
theorem dX8_lakes_4 : decode cX8_lakes 4 = .ok (.aload_n 0, 1) := by decide +kernel
theorem dX8_lakes_5 : decode cX8_lakes 5 = .ok (.invokevirtual 186, 3) := by decide +kernel
theorem dX8_lakes_8 : decode cX8_lakes 8 = .ok (.iconst 0, 1) := by decide +kernel
theorem dX8_lakes_9 : decode cX8_lakes 9 = .ok (.istore_n 1, 1) := by decide +kernel
theorem dX8_lakes_10 : decode cX8_lakes 10 = .ok (.iconst 0, 1) := by decide +kernel
theorem dX8_lakes_11 : decode cX8_lakes 11 = .ok (.istore_n 2, 1) := by decide +kernel
theorem dX8_lakes_12 : decode cX8_lakes 12 = .ok (.iload_n 2, 1) := by decide +kernel
theorem dX8_lakes_13 : decode cX8_lakes 13 = .ok (.aload_n 0, 1) := by decide +kernel
theorem dX8_lakes_14 : decode cX8_lakes 14 = .ok (.getfield 7, 3) := by decide +kernel
theorem dX8_lakes_17 : decode cX8_lakes 17 = .ok (.aload_n 0, 1) := by decide +kernel
theorem dX8_lakes_18 : decode cX8_lakes 18 = .ok (.getfield 7, 3) := by decide +kernel
theorem dX8_lakes_21 : decode cX8_lakes 21 = .ok (.imul, 1) := by decide +kernel
theorem dX8_lakes_22 : decode cX8_lakes 22 = .ok (.if_icmp .ge 27, 3) := by decide +kernel
theorem dX8_lakes_25 : decode cX8_lakes 25 = .ok (.iload_n 1, 1) := by decide +kernel
theorem dX8_lakes_26 : decode cX8_lakes 26 = .ok (.aload_n 0, 1) := by decide +kernel
theorem dX8_lakes_27 : decode cX8_lakes 27 = .ok (.getfield 66, 3) := by decide +kernel
theorem dX8_lakes_30 : decode cX8_lakes 30 = .ok (.iload_n 2, 1) := by decide +kernel
theorem dX8_lakes_31 : decode cX8_lakes 31 = .ok (.iaload, 1) := by decide +kernel
theorem dX8_lakes_32 : decode cX8_lakes 32 = .ok (.iload_n 2, 1) := by decide +kernel
theorem dX8_lakes_33 : decode cX8_lakes 33 = .ok (.if_icmp .ne 7, 3) := by decide +kernel
theorem dX8_lakes_36 : decode cX8_lakes 36 = .ok (.iconst 1, 1) := by decide +kernel
theorem dX8_lakes_37 : decode cX8_lakes 37 = .ok (.goto 4, 3) := by decide +kernel
theorem dX8_lakes_40 : decode cX8_lakes 40 = .ok (.iconst 0, 1) := by decide +kernel
theorem dX8_lakes_41 : decode cX8_lakes 41 = .ok (.iadd, 1) := by decide +kernel
theorem dX8_lakes_42 : decode cX8_lakes 42 = .ok (.istore_n 1, 1) := by decide +kernel
theorem dX8_lakes_43 : decode cX8_lakes 43 = .ok (.iinc 2 1, 3) := by decide +kernel
theorem dX8_lakes_46 : decode cX8_lakes 46 = .ok (.goto (-34), 3) := by decide +kernel
theorem dX8_lakes_49 : decode cX8_lakes 49 = .ok (.iload_n 1, 1) := by decide +kernel
theorem dX8_lakes_50 : decode cX8_lakes 50 = .ok (.ireturn, 1) := by decide +kernel
theorem dX8_lake_0 : decode cX8_lake 0 = .ok (.aload_n 0, 1) := by decide +kernel
theorem dX8_lake_1 : decode cX8_lake 1 = .ok (.iload_n 1, 1) := by decide +kernel
theorem dX8_lake_2 : decode cX8_lake 2 = .ok (.invokevirtual 104, 3) := by decide +kernel
theorem dX8_lake_5 : decode cX8_lake 5 = .ok (.ifCond .ne 5, 3) := by decide +kernel
theorem dX8_lake_8 : decode cX8_lake 8 = .ok (.iconst (-1), 1) := by decide +kernel
theorem dX8_lake_9 : decode cX8_lake 9 = .ok (.ireturn, 1) := by decide +kernel
theorem dX8_lake_10 : decode cX8_lake 10 = .ok (.aload_n 0, 1) := by decide +kernel
theorem dX8_lake_11 : decode cX8_lake 11 = .ok (.invokevirtual 177, 3) := by decide +kernel
theorem dX8_lake_14 : decode cX8_lake 14 = .ok (.aload_n 0, 1) := by decide +kernel
theorem dX8_lake_15 : decode cX8_lake 15 = .ok (.invokevirtual 186, 3) := by decide +kernel
theorem dX8_lake_18 : decode cX8_lake 18 = .ok (.iconst 0, 1) := by decide +kernel
theorem dX8_lake_19 : decode cX8_lake 19 = .ok (.istore_n 2, 1) := by decide +kernel
theorem dX8_lake_20 : decode cX8_lake 20 = .ok (.iconst 0, 1) := by decide +kernel
theorem dX8_lake_21 : decode cX8_lake 21 = .ok (.istore_n 3, 1) := by decide +kernel
theorem dX8_lake_22 : decode cX8_lake 22 = .ok (.iload_n 3, 1) := by decide +kernel
theorem dX8_lake_23 : decode cX8_lake 23 = .ok (.aload_n 0, 1) := by decide +kernel
theorem dX8_lake_24 : decode cX8_lake 24 = .ok (.getfield 7, 3) := by decide +kernel
theorem dX8_lake_27 : decode cX8_lake 27 = .ok (.aload_n 0, 1) := by decide +kernel
theorem dX8_lake_28 : decode cX8_lake 28 = .ok (.getfield 7, 3) := by decide +kernel
theorem dX8_lake_31 : decode cX8_lake 31 = .ok (.imul, 1) := by decide +kernel
theorem dX8_lake_32 : decode cX8_lake 32 = .ok (.if_icmp .ge 41, 3) := by decide +kernel
theorem dX8_lake_35 : decode cX8_lake 35 = .ok (.iload_n 2, 1) := by decide +kernel
theorem dX8_lake_36 : decode cX8_lake 36 = .ok (.aload_n 0, 1) := by decide +kernel
theorem dX8_lake_37 : decode cX8_lake 37 = .ok (.getfield 66, 3) := by decide +kernel
theorem dX8_lake_40 : decode cX8_lake 40 = .ok (.iload_n 1, 1) := by decide +kernel
theorem dX8_lake_41 : decode cX8_lake 41 = .ok (.iaload, 1) := by decide +kernel
theorem dX8_lake_42 : decode cX8_lake 42 = .ok (.ifCond .lt 22, 3) := by decide +kernel
theorem dX8_lake_45 : decode cX8_lake 45 = .ok (.aload_n 0, 1) := by decide +kernel
theorem dX8_lake_46 : decode cX8_lake 46 = .ok (.getfield 66, 3) := by decide +kernel
theorem dX8_lake_49 : decode cX8_lake 49 = .ok (.iload_n 3, 1) := by decide +kernel
theorem dX8_lake_50 : decode cX8_lake 50 = .ok (.iaload, 1) := by decide +kernel
theorem dX8_lake_51 : decode cX8_lake 51 = .ok (.aload_n 0, 1) := by decide +kernel
theorem dX8_lake_52 : decode cX8_lake 52 = .ok (.getfield 66, 3) := by decide +kernel
theorem dX8_lake_55 : decode cX8_lake 55 = .ok (.iload_n 1, 1) := by decide +kernel
theorem dX8_lake_56 : decode cX8_lake 56 = .ok (.iaload, 1) := by decide +kernel
theorem dX8_lake_57 : decode cX8_lake 57 = .ok (.if_icmp .ne 7, 3) := by decide +kernel
theorem dX8_lake_60 : decode cX8_lake 60 = .ok (.iconst 1, 1) := by decide +kernel
theorem dX8_lake_61 : decode cX8_lake 61 = .ok (.goto 4, 3) := by decide +kernel
theorem dX8_lake_64 : decode cX8_lake 64 = .ok (.iconst 0, 1) := by decide +kernel
theorem dX8_lake_65 : decode cX8_lake 65 = .ok (.iadd, 1) := by decide +kernel
theorem dX8_lake_66 : decode cX8_lake 66 = .ok (.istore_n 2, 1) := by decide +kernel
theorem dX8_lake_67 : decode cX8_lake 67 = .ok (.iinc 3 1, 3) := by decide +kernel
theorem dX8_lake_70 : decode cX8_lake 70 = .ok (.goto (-48), 3) := by decide +kernel
theorem dX8_lake_73 : decode cX8_lake 73 = .ok (.iload_n 2, 1) := by decide +kernel
theorem dX8_lake_74 : decode cX8_lake 74 = .ok (.ireturn, 1) := by decide +kernel
theorem dX8_towns_0 : decode cX8_towns 0 = .ok (.iload_n 1, 1) := by decide +kernel
theorem dX8_towns_1 : decode cX8_towns 1 = .ok (.iconst 0, 1) := by decide +kernel
theorem dX8_towns_2 : decode cX8_towns 2 = .ok (.bipush 6, 2) := by decide +kernel
theorem dX8_towns_4 : decode cX8_towns 4 = .ok (.invokestatic 69, 3) := by decide +kernel
theorem dX8_towns_7 : decode cX8_towns 7 = .ok (.ifCond .ne 6, 3) := by decide +kernel
theorem dX8_towns_10 : decode cX8_towns 10 = .ok (.bipush (-2), 2) := by decide +kernel
theorem dX8_towns_12 : decode cX8_towns 12 = .ok (.ireturn, 1) := by decide +kernel
theorem dX8_towns_13 : decode cX8_towns 13 = .ok (.aload_n 0, 1) := by decide +kernel
theorem dX8_towns_14 : decode cX8_towns 14 = .ok (.iload_n 1, 1) := by decide +kernel
theorem dX8_towns_15 : decode cX8_towns 15 = .ok (.putfield 137, 3) := by decide +kernel
theorem dX8_towns_18 : decode cX8_towns 18 = .ok (.aload_n 0, 1) := by decide +kernel
theorem dX8_towns_19 : decode cX8_towns 19 = .ok (.iconst 0, 1) := by decide +kernel
theorem dX8_towns_20 : decode cX8_towns 20 = .ok (.putfield 76, 3) := by decide +kernel
theorem dX8_towns_23 : decode cX8_towns 23 = .ok (.aload_n 0, 1) := by decide +kernel
theorem dX8_towns_24 : decode cX8_towns 24 = .ok (.invokevirtual 177, 3) := by decide +kernel
theorem dX8_towns_27 : decode cX8_towns 27 = .ok (.aload_n 0, 1) := by decide +kernel
theorem dX8_towns_28 : decode cX8_towns 28 = .ok (.getfield 134, 3) := by decide +kernel
theorem dX8_towns_31 : decode cX8_towns 31 = .ok (.ireturn, 1) := by decide +kernel
theorem dX8_isTown_0 : decode cX8_isTown 0 = .ok (.aload_n 0, 1) := by decide +kernel
theorem dX8_isTown_1 : decode cX8_isTown 1 = .ok (.invokevirtual 177, 3) := by decide +kernel
theorem dX8_isTown_4 : decode cX8_isTown 4 = .ok (.iload_n 1, 1) := by decide +kernel
theorem dX8_isTown_5 : decode cX8_isTown 5 = .ok (.iconst 0, 1) := by decide +kernel
theorem dX8_isTown_6 : decode cX8_isTown 6 = .ok (.aload_n 0, 1) := by decide +kernel
theorem dX8_isTown_7 : decode cX8_isTown 7 = .ok (.getfield 134, 3) := by decide +kernel
theorem dX8_isTown_10 : decode cX8_isTown 10 = .ok (.iconst 1, 1) := by decide +kernel
theorem dX8_isTown_11 : decode cX8_isTown 11 = .ok (.isub, 1) := by decide +kernel
theorem dX8_isTown_12 : decode cX8_isTown 12 = .ok (.invokestatic 69, 3) := by decide +kernel
theorem dX8_isTown_15 : decode cX8_isTown 15 = .ok (.ireturn, 1) := by decide +kernel
theorem dX8_town_0 : decode cX8_town 0 = .ok (.aload_n 0, 1) := by decide +kernel
theorem dX8_town_1 : decode cX8_town 1 = .ok (.iload_n 1, 1) := by decide +kernel
theorem dX8_town_2 : decode cX8_town 2 = .ok (.invokevirtual 189, 3) := by decide +kernel
theorem dX8_town_5 : decode cX8_town 5 = .ok (.ifCond .eq 12, 3) := by decide +kernel
theorem dX8_town_8 : decode cX8_town 8 = .ok (.aload_n 0, 1) := by decide +kernel
theorem dX8_town_9 : decode cX8_town 9 = .ok (.getfield 47, 3) := by decide +kernel
theorem dX8_town_12 : decode cX8_town 12 = .ok (.iload_n 1, 1) := by decide +kernel
theorem dX8_town_13 : decode cX8_town 13 = .ok (.iaload, 1) := by decide +kernel
theorem dX8_town_14 : decode cX8_town 14 = .ok (.goto 4, 3) := by decide +kernel
theorem dX8_town_17 : decode cX8_town 17 = .ok (.iconst (-1), 1) := by decide +kernel
theorem dX8_town_18 : decode cX8_town 18 = .ok (.ireturn, 1) := by decide +kernel
theorem dX8_cost_0 : decode cX8_cost 0 = .ok (.aload_n 0, 1) := by decide +kernel
theorem dX8_cost_1 : decode cX8_cost 1 = .ok (.iload_n 1, 1) := by decide +kernel
theorem dX8_cost_2 : decode cX8_cost 2 = .ok (.invokevirtual 189, 3) := by decide +kernel
theorem dX8_cost_5 : decode cX8_cost 5 = .ok (.ifCond .eq 11, 3) := by decide +kernel
theorem dX8_cost_8 : decode cX8_cost 8 = .ok (.aload_n 0, 1) := by decide +kernel
theorem dX8_cost_9 : decode cX8_cost 9 = .ok (.iload_n 2, 1) := by decide +kernel
theorem dX8_cost_10 : decode cX8_cost 10 = .ok (.invokevirtual 189, 3) := by decide +kernel
theorem dX8_cost_13 : decode cX8_cost 13 = .ok (.ifCond .ne 5, 3) := by decide +kernel
theorem dX8_cost_16 : decode cX8_cost 16 = .ok (.iconst (-1), 1) := by decide +kernel
theorem dX8_cost_17 : decode cX8_cost 17 = .ok (.ireturn, 1) := by decide +kernel
theorem dX8_cost_18 : decode cX8_cost 18 = .ok (.aload_n 0, 1) := by decide +kernel
theorem dX8_cost_19 : decode cX8_cost 19 = .ok (.aload_n 0, 1) := by decide +kernel
theorem dX8_cost_20 : decode cX8_cost 20 = .ok (.getfield 47, 3) := by decide +kernel
theorem dX8_cost_23 : decode cX8_cost 23 = .ok (.iload_n 2, 1) := by decide +kernel
theorem dX8_cost_24 : decode cX8_cost 24 = .ok (.iaload, 1) := by decide +kernel
theorem dX8_cost_25 : decode cX8_cost 25 = .ok (.invokevirtual 161, 3) := by decide +kernel
theorem dX8_cost_28 : decode cX8_cost 28 = .ok (.aload_n 0, 1) := by decide +kernel
theorem dX8_cost_29 : decode cX8_cost 29 = .ok (.getfield 59, 3) := by decide +kernel
theorem dX8_cost_32 : decode cX8_cost 32 = .ok (.aload_n 0, 1) := by decide +kernel
theorem dX8_cost_33 : decode cX8_cost 33 = .ok (.getfield 47, 3) := by decide +kernel
theorem dX8_cost_36 : decode cX8_cost 36 = .ok (.iload_n 1, 1) := by decide +kernel
theorem dX8_cost_37 : decode cX8_cost 37 = .ok (.iaload, 1) := by decide +kernel
theorem dX8_cost_38 : decode cX8_cost 38 = .ok (.iaload, 1) := by decide +kernel
theorem dX8_cost_39 : decode cX8_cost 39 = .ok (.ifCond .ge 8, 3) := by decide +kernel
theorem dX8_cost_42 : decode cX8_cost 42 = .ok (.bipush (-6), 2) := by decide +kernel
theorem dX8_cost_44 : decode cX8_cost 44 = .ok (.goto 14, 3) := by decide +kernel
theorem dX8_cost_47 : decode cX8_cost 47 = .ok (.aload_n 0, 1) := by decide +kernel
theorem dX8_cost_48 : decode cX8_cost 48 = .ok (.getfield 59, 3) := by decide +kernel
theorem dX8_cost_51 : decode cX8_cost 51 = .ok (.aload_n 0, 1) := by decide +kernel
theorem dX8_cost_52 : decode cX8_cost 52 = .ok (.getfield 47, 3) := by decide +kernel
theorem dX8_cost_55 : decode cX8_cost 55 = .ok (.iload_n 1, 1) := by decide +kernel
theorem dX8_cost_56 : decode cX8_cost 56 = .ok (.iaload, 1) := by decide +kernel
theorem dX8_cost_57 : decode cX8_cost 57 = .ok (.iaload, 1) := by decide +kernel
theorem dX8_cost_58 : decode cX8_cost 58 = .ok (.ireturn, 1) := by decide +kernel
theorem dX8_way_0 : decode cX8_way 0 = .ok (.aload_n 0, 1) := by decide +kernel
theorem dX8_way_1 : decode cX8_way 1 = .ok (.iload_n 1, 1) := by decide +kernel
theorem dX8_way_2 : decode cX8_way 2 = .ok (.invokevirtual 189, 3) := by decide +kernel
theorem dX8_way_5 : decode cX8_way 5 = .ok (.ifCond .eq 11, 3) := by decide +kernel
theorem dX8_way_8 : decode cX8_way 8 = .ok (.aload_n 0, 1) := by decide +kernel
theorem dX8_way_9 : decode cX8_way 9 = .ok (.iload_n 2, 1) := by decide +kernel
theorem dX8_way_10 : decode cX8_way 10 = .ok (.invokevirtual 189, 3) := by decide +kernel
theorem dX8_way_13 : decode cX8_way 13 = .ok (.ifCond .ne 5, 3) := by decide +kernel
theorem dX8_way_16 : decode cX8_way 16 = .ok (.iconst (-1), 1) := by decide +kernel
theorem dX8_way_17 : decode cX8_way 17 = .ok (.ireturn, 1) := by decide +kernel
theorem dX8_way_18 : decode cX8_way 18 = .ok (.aload_n 0, 1) := by decide +kernel
theorem dX8_way_19 : decode cX8_way 19 = .ok (.aload_n 0, 1) := by decide +kernel
theorem dX8_way_20 : decode cX8_way 20 = .ok (.getfield 47, 3) := by decide +kernel
theorem dX8_way_23 : decode cX8_way 23 = .ok (.iload_n 2, 1) := by decide +kernel
theorem dX8_way_24 : decode cX8_way 24 = .ok (.iaload, 1) := by decide +kernel
theorem dX8_way_25 : decode cX8_way 25 = .ok (.invokevirtual 161, 3) := by decide +kernel
theorem dX8_way_28 : decode cX8_way 28 = .ok (.iload_n 3, 1) := by decide +kernel
theorem dX8_way_29 : decode cX8_way 29 = .ok (.ifCond .lt 17, 3) := by decide +kernel
theorem dX8_way_32 : decode cX8_way 32 = .ok (.aload_n 0, 1) := by decide +kernel
theorem dX8_way_33 : decode cX8_way 33 = .ok (.getfield 59, 3) := by decide +kernel
theorem dX8_way_36 : decode cX8_way 36 = .ok (.aload_n 0, 1) := by decide +kernel
theorem dX8_way_37 : decode cX8_way 37 = .ok (.getfield 47, 3) := by decide +kernel
theorem dX8_way_40 : decode cX8_way 40 = .ok (.iload_n 1, 1) := by decide +kernel
theorem dX8_way_41 : decode cX8_way 41 = .ok (.iaload, 1) := by decide +kernel
theorem dX8_way_42 : decode cX8_way 42 = .ok (.iaload, 1) := by decide +kernel
theorem dX8_way_43 : decode cX8_way 43 = .ok (.ifCond .ge 6, 3) := by decide +kernel
theorem dX8_way_46 : decode cX8_way 46 = .ok (.bipush (-6), 2) := by decide +kernel
theorem dX8_way_48 : decode cX8_way 48 = .ok (.ireturn, 1) := by decide +kernel
theorem dX8_way_49 : decode cX8_way 49 = .ok (.aload_n 0, 1) := by decide +kernel
theorem dX8_way_50 : decode cX8_way 50 = .ok (.getfield 47, 3) := by decide +kernel
theorem dX8_way_53 : decode cX8_way 53 = .ok (.iload_n 1, 1) := by decide +kernel
theorem dX8_way_54 : decode cX8_way 54 = .ok (.iaload, 1) := by decide +kernel
theorem dX8_way_55 : decode cX8_way 55 = .ok (.istore 4, 2) := by decide +kernel
theorem dX8_way_57 : decode cX8_way 57 = .ok (.iconst 0, 1) := by decide +kernel
theorem dX8_way_58 : decode cX8_way 58 = .ok (.istore 5, 2) := by decide +kernel
theorem dX8_way_60 : decode cX8_way 60 = .ok (.iload 5, 2) := by decide +kernel
theorem dX8_way_62 : decode cX8_way 62 = .ok (.iload_n 3, 1) := by decide +kernel
theorem dX8_way_63 : decode cX8_way 63 = .ok (.if_icmp .ge 38, 3) := by decide +kernel
theorem dX8_way_66 : decode cX8_way 66 = .ok (.iload 4, 2) := by decide +kernel
theorem dX8_way_68 : decode cX8_way 68 = .ok (.ifCond .lt 33, 3) := by decide +kernel
theorem dX8_way_71 : decode cX8_way 71 = .ok (.iload 4, 2) := by decide +kernel
theorem dX8_way_73 : decode cX8_way 73 = .ok (.aload_n 0, 1) := by decide +kernel
theorem dX8_way_74 : decode cX8_way 74 = .ok (.getfield 47, 3) := by decide +kernel
theorem dX8_way_77 : decode cX8_way 77 = .ok (.iload_n 2, 1) := by decide +kernel
theorem dX8_way_78 : decode cX8_way 78 = .ok (.iaload, 1) := by decide +kernel
theorem dX8_way_79 : decode cX8_way 79 = .ok (.if_icmp .ne 8, 3) := by decide +kernel
theorem dX8_way_82 : decode cX8_way 82 = .ok (.bipush (-6), 2) := by decide +kernel
theorem dX8_way_84 : decode cX8_way 84 = .ok (.goto 9, 3) := by decide +kernel
theorem dX8_way_87 : decode cX8_way 87 = .ok (.aload_n 0, 1) := by decide +kernel
theorem dX8_way_88 : decode cX8_way 88 = .ok (.iload 4, 2) := by decide +kernel
theorem dX8_way_90 : decode cX8_way 90 = .ok (.invokevirtual 165, 3) := by decide +kernel
theorem dX8_way_93 : decode cX8_way 93 = .ok (.istore 4, 2) := by decide +kernel
theorem dX8_way_95 : decode cX8_way 95 = .ok (.iinc 5 1, 3) := by decide +kernel
theorem dX8_way_98 : decode cX8_way 98 = .ok (.goto (-38), 3) := by decide +kernel
theorem dX8_way_101 : decode cX8_way 101 = .ok (.iload 4, 2) := by decide +kernel
theorem dX8_way_103 : decode cX8_way 103 = .ok (.ireturn, 1) := by decide +kernel
theorem dX8_net_0 : decode cX8_net 0 = .ok (.aload_n 0, 1) := by decide +kernel
theorem dX8_net_1 : decode cX8_net 1 = .ok (.invokevirtual 177, 3) := by decide +kernel
theorem dX8_net_4 : decode cX8_net 4 = .ok (.iload_n 1, 1) := by decide +kernel
theorem dX8_net_5 : decode cX8_net 5 = .ok (.iconst 0, 1) := by decide +kernel
theorem dX8_net_6 : decode cX8_net 6 = .ok (.iconst 2, 1) := by decide +kernel
theorem dX8_net_7 : decode cX8_net 7 = .ok (.invokestatic 69, 3) := by decide +kernel
theorem dX8_net_10 : decode cX8_net 10 = .ok (.ifCond .eq 31, 3) := by decide +kernel
theorem dX8_net_13 : decode cX8_net 13 = .ok (.iload_n 1, 1) := by decide +kernel
theorem dX8_net_14 : decode cX8_net 14 = .ok (.ifCond .ne 10, 3) := by decide +kernel
theorem dX8_net_17 : decode cX8_net 17 = .ok (.aload_n 0, 1) := by decide +kernel
theorem dX8_net_18 : decode cX8_net 18 = .ok (.getfield 152, 3) := by decide +kernel
theorem dX8_net_21 : decode cX8_net 21 = .ok (.goto 19, 3) := by decide +kernel
theorem dX8_net_24 : decode cX8_net 24 = .ok (.iload_n 1, 1) := by decide +kernel
theorem dX8_net_25 : decode cX8_net 25 = .ok (.iconst 1, 1) := by decide +kernel
theorem dX8_net_26 : decode cX8_net 26 = .ok (.if_icmp .ne 10, 3) := by decide +kernel
theorem dX8_net_29 : decode cX8_net 29 = .ok (.aload_n 0, 1) := by decide +kernel
theorem dX8_net_30 : decode cX8_net 30 = .ok (.getfield 155, 3) := by decide +kernel
theorem dX8_net_33 : decode cX8_net 33 = .ok (.goto 7, 3) := by decide +kernel
theorem dX8_net_36 : decode cX8_net 36 = .ok (.aload_n 0, 1) := by decide +kernel
theorem dX8_net_37 : decode cX8_net 37 = .ok (.getfield 158, 3) := by decide +kernel
theorem dX8_net_40 : decode cX8_net 40 = .ok (.ireturn, 1) := by decide +kernel
theorem dX8_net_41 : decode cX8_net 41 = .ok (.iload_n 1, 1) := by decide +kernel
theorem dX8_net_42 : decode cX8_net 42 = .ok (.bipush 10, 2) := by decide +kernel
theorem dX8_net_44 : decode cX8_net 44 = .ok (.if_icmp .ge 6, 3) := by decide +kernel
theorem dX8_net_47 : decode cX8_net 47 = .ok (.bipush (-2), 2) := by decide +kernel
theorem dX8_net_49 : decode cX8_net 49 = .ok (.ireturn, 1) := by decide +kernel
theorem dX8_net_50 : decode cX8_net 50 = .ok (.iload_n 1, 1) := by decide +kernel
theorem dX8_net_51 : decode cX8_net 51 = .ok (.bipush 10, 2) := by decide +kernel
theorem dX8_net_53 : decode cX8_net 53 = .ok (.isub, 1) := by decide +kernel
theorem dX8_net_54 : decode cX8_net 54 = .ok (.iconst 2, 1) := by decide +kernel
theorem dX8_net_55 : decode cX8_net 55 = .ok (.idiv, 1) := by decide +kernel
theorem dX8_net_56 : decode cX8_net 56 = .ok (.istore_n 2, 1) := by decide +kernel
theorem dX8_net_57 : decode cX8_net 57 = .ok (.iload_n 2, 1) := by decide +kernel
theorem dX8_net_58 : decode cX8_net 58 = .ok (.aload_n 0, 1) := by decide +kernel
theorem dX8_net_59 : decode cX8_net 59 = .ok (.getfield 158, 3) := by decide +kernel
theorem dX8_net_62 : decode cX8_net 62 = .ok (.if_icmp .lt 8, 3) := by decide +kernel
theorem dX8_net_65 : decode cX8_net 65 = .ok (.bipush (-6), 2) := by decide +kernel
theorem dX8_net_67 : decode cX8_net 67 = .ok (.goto 24, 3) := by decide +kernel
theorem dX8_net_70 : decode cX8_net 70 = .ok (.iload_n 1, 1) := by decide +kernel
theorem dX8_net_71 : decode cX8_net 71 = .ok (.iconst 2, 1) := by decide +kernel
theorem dX8_net_72 : decode cX8_net 72 = .ok (.irem, 1) := by decide +kernel
theorem dX8_net_73 : decode cX8_net 73 = .ok (.ifCond .ne 12, 3) := by decide +kernel
theorem dX8_net_76 : decode cX8_net 76 = .ok (.aload_n 0, 1) := by decide +kernel
theorem dX8_net_77 : decode cX8_net 77 = .ok (.getfield 50, 3) := by decide +kernel
theorem dX8_net_80 : decode cX8_net 80 = .ok (.iload_n 2, 1) := by decide +kernel
theorem dX8_net_81 : decode cX8_net 81 = .ok (.iaload, 1) := by decide +kernel
theorem dX8_net_82 : decode cX8_net 82 = .ok (.goto 9, 3) := by decide +kernel
theorem dX8_net_85 : decode cX8_net 85 = .ok (.aload_n 0, 1) := by decide +kernel
theorem dX8_net_86 : decode cX8_net 86 = .ok (.getfield 53, 3) := by decide +kernel
theorem dX8_net_89 : decode cX8_net 89 = .ok (.iload_n 2, 1) := by decide +kernel
theorem dX8_net_90 : decode cX8_net 90 = .ok (.iaload, 1) := by decide +kernel
theorem dX8_net_91 : decode cX8_net 91 = .ok (.ireturn, 1) := by decide +kernel
theorem dX8_roads_0 : decode cX8_roads 0 = .ok (.aload_n 0, 1) := by decide +kernel
theorem dX8_roads_1 : decode cX8_roads 1 = .ok (.iload_n 1, 1) := by decide +kernel
theorem dX8_roads_2 : decode cX8_roads 2 = .ok (.invokevirtual 104, 3) := by decide +kernel
theorem dX8_roads_5 : decode cX8_roads 5 = .ok (.ifCond .ne 5, 3) := by decide +kernel
theorem dX8_roads_8 : decode cX8_roads 8 = .ok (.iconst (-1), 1) := by decide +kernel
theorem dX8_roads_9 : decode cX8_roads 9 = .ok (.ireturn, 1) := by decide +kernel
theorem dX8_roads_10 : decode cX8_roads 10 = .ok (.aload_n 0, 1) := by decide +kernel
theorem dX8_roads_11 : decode cX8_roads 11 = .ok (.invokevirtual 177, 3) := by decide +kernel
theorem dX8_roads_14 : decode cX8_roads 14 = .ok (.aload_n 0, 1) := by decide +kernel
theorem dX8_roads_15 : decode cX8_roads 15 = .ok (.getfield 56, 3) := by decide +kernel
theorem dX8_roads_18 : decode cX8_roads 18 = .ok (.iload_n 1, 1) := by decide +kernel
theorem dX8_roads_19 : decode cX8_roads 19 = .ok (.iaload, 1) := by decide +kernel
theorem dX8_roads_20 : decode cX8_roads 20 = .ok (.ireturn, 1) := by decide +kernel
theorem dX8_told_0 : decode cX8_told 0 = .ok (.aload_n 0, 1) := by decide +kernel
theorem dX8_told_1 : decode cX8_told 1 = .ok (.invokevirtual 177, 3) := by decide +kernel
theorem dX8_told_4 : decode cX8_told 4 = .ok (.iload_n 1, 1) := by decide +kernel
theorem dX8_told_5 : decode cX8_told 5 = .ok (.tableswitch 122 0 10 #[59, 64, 69, 74, 81, 88, 95, 102, 107, 112, 117], 59) := by decide +kernel
theorem dX8_told_64 : decode cX8_told 64 = .ok (.aload_n 0, 1) := by decide +kernel
theorem dX8_told_65 : decode cX8_told 65 = .ok (.getfield 7, 3) := by decide +kernel
theorem dX8_told_68 : decode cX8_told 68 = .ok (.ireturn, 1) := by decide +kernel
theorem dX8_told_69 : decode cX8_told 69 = .ok (.aload_n 0, 1) := by decide +kernel
theorem dX8_told_70 : decode cX8_told 70 = .ok (.getfield 98, 3) := by decide +kernel
theorem dX8_told_73 : decode cX8_told 73 = .ok (.ireturn, 1) := by decide +kernel
theorem dX8_told_74 : decode cX8_told 74 = .ok (.aload_n 0, 1) := by decide +kernel
theorem dX8_told_75 : decode cX8_told 75 = .ok (.getfield 101, 3) := by decide +kernel
theorem dX8_told_78 : decode cX8_told 78 = .ok (.ireturn, 1) := by decide +kernel
theorem dX8_told_79 : decode cX8_told 79 = .ok (.aload_n 0, 1) := by decide +kernel
theorem dX8_told_80 : decode cX8_told 80 = .ok (.getfield 13, 3) := by decide +kernel
theorem dX8_told_83 : decode cX8_told 83 = .ok (.iconst 0, 1) := by decide +kernel
theorem dX8_told_84 : decode cX8_told 84 = .ok (.iaload, 1) := by decide +kernel
theorem dX8_told_85 : decode cX8_told 85 = .ok (.ireturn, 1) := by decide +kernel
theorem dX8_told_86 : decode cX8_told 86 = .ok (.aload_n 0, 1) := by decide +kernel
theorem dX8_told_87 : decode cX8_told 87 = .ok (.getfield 13, 3) := by decide +kernel
theorem dX8_told_90 : decode cX8_told 90 = .ok (.iconst 1, 1) := by decide +kernel
theorem dX8_told_91 : decode cX8_told 91 = .ok (.iaload, 1) := by decide +kernel
theorem dX8_told_92 : decode cX8_told 92 = .ok (.ireturn, 1) := by decide +kernel
theorem dX8_told_93 : decode cX8_told 93 = .ok (.aload_n 0, 1) := by decide +kernel
theorem dX8_told_94 : decode cX8_told 94 = .ok (.getfield 13, 3) := by decide +kernel
theorem dX8_told_97 : decode cX8_told 97 = .ok (.iconst 2, 1) := by decide +kernel
theorem dX8_told_98 : decode cX8_told 98 = .ok (.iaload, 1) := by decide +kernel
theorem dX8_told_99 : decode cX8_told 99 = .ok (.ireturn, 1) := by decide +kernel
theorem dX8_told_100 : decode cX8_told 100 = .ok (.aload_n 0, 1) := by decide +kernel
theorem dX8_told_101 : decode cX8_told 101 = .ok (.getfield 13, 3) := by decide +kernel
theorem dX8_told_104 : decode cX8_told 104 = .ok (.iconst 3, 1) := by decide +kernel
theorem dX8_told_105 : decode cX8_told 105 = .ok (.iaload, 1) := by decide +kernel
theorem dX8_told_106 : decode cX8_told 106 = .ok (.ireturn, 1) := by decide +kernel
theorem dX8_told_107 : decode cX8_told 107 = .ok (.aload_n 0, 1) := by decide +kernel
theorem dX8_told_108 : decode cX8_told 108 = .ok (.getfield 134, 3) := by decide +kernel
theorem dX8_told_111 : decode cX8_told 111 = .ok (.ireturn, 1) := by decide +kernel
theorem dX8_told_112 : decode cX8_told 112 = .ok (.aload_n 0, 1) := by decide +kernel
theorem dX8_told_113 : decode cX8_told 113 = .ok (.getfield 137, 3) := by decide +kernel
theorem dX8_told_116 : decode cX8_told 116 = .ok (.ireturn, 1) := by decide +kernel
theorem dX8_told_117 : decode cX8_told 117 = .ok (.aload_n 0, 1) := by decide +kernel
theorem dX8_told_118 : decode cX8_told 118 = .ok (.getfield 108, 3) := by decide +kernel
theorem dX8_told_121 : decode cX8_told 121 = .ok (.ireturn, 1) := by decide +kernel
theorem dX8_told_122 : decode cX8_told 122 = .ok (.aload_n 0, 1) := by decide +kernel
theorem dX8_told_123 : decode cX8_told 123 = .ok (.getfield 73, 3) := by decide +kernel
theorem dX8_told_126 : decode cX8_told 126 = .ok (.ireturn, 1) := by decide +kernel
theorem dX8_told_127 : decode cX8_told 127 = .ok (.bipush (-2), 2) := by decide +kernel
theorem dX8_told_129 : decode cX8_told 129 = .ok (.ireturn, 1) := by decide +kernel
theorem dJ6_bitCount_0f7a4_0 : decode cJ6_bitCount_0f7a4 0 = .ok (.iload_n 0, 1) := by decide +kernel
theorem dJ6_bitCount_0f7a4_1 : decode cJ6_bitCount_0f7a4 1 = .ok (.iload_n 0, 1) := by decide +kernel
theorem dJ6_bitCount_0f7a4_2 : decode cJ6_bitCount_0f7a4 2 = .ok (.iconst 1, 1) := by decide +kernel
theorem dJ6_bitCount_0f7a4_3 : decode cJ6_bitCount_0f7a4 3 = .ok (.iushr, 1) := by decide +kernel
theorem dJ6_bitCount_0f7a4_4 : decode cJ6_bitCount_0f7a4 4 = .ok (.ldc_w 265, 3) := by decide +kernel
theorem dJ6_bitCount_0f7a4_7 : decode cJ6_bitCount_0f7a4 7 = .ok (.iand, 1) := by decide +kernel
theorem dJ6_bitCount_0f7a4_8 : decode cJ6_bitCount_0f7a4 8 = .ok (.isub, 1) := by decide +kernel
theorem dJ6_bitCount_0f7a4_9 : decode cJ6_bitCount_0f7a4 9 = .ok (.istore_n 0, 1) := by decide +kernel
theorem dJ6_bitCount_0f7a4_10 : decode cJ6_bitCount_0f7a4 10 = .ok (.iload_n 0, 1) := by decide +kernel
theorem dJ6_bitCount_0f7a4_11 : decode cJ6_bitCount_0f7a4 11 = .ok (.ldc_w 266, 3) := by decide +kernel
theorem dJ6_bitCount_0f7a4_14 : decode cJ6_bitCount_0f7a4 14 = .ok (.iand, 1) := by decide +kernel
theorem dJ6_bitCount_0f7a4_15 : decode cJ6_bitCount_0f7a4 15 = .ok (.iload_n 0, 1) := by decide +kernel
theorem dJ6_bitCount_0f7a4_16 : decode cJ6_bitCount_0f7a4 16 = .ok (.iconst 2, 1) := by decide +kernel
theorem dJ6_bitCount_0f7a4_17 : decode cJ6_bitCount_0f7a4 17 = .ok (.iushr, 1) := by decide +kernel
theorem dJ6_bitCount_0f7a4_18 : decode cJ6_bitCount_0f7a4 18 = .ok (.ldc_w 266, 3) := by decide +kernel
theorem dJ6_bitCount_0f7a4_21 : decode cJ6_bitCount_0f7a4 21 = .ok (.iand, 1) := by decide +kernel
theorem dJ6_bitCount_0f7a4_22 : decode cJ6_bitCount_0f7a4 22 = .ok (.iadd, 1) := by decide +kernel
theorem dJ6_bitCount_0f7a4_23 : decode cJ6_bitCount_0f7a4 23 = .ok (.istore_n 0, 1) := by decide +kernel
theorem dJ6_bitCount_0f7a4_24 : decode cJ6_bitCount_0f7a4 24 = .ok (.iload_n 0, 1) := by decide +kernel
theorem dJ6_bitCount_0f7a4_25 : decode cJ6_bitCount_0f7a4 25 = .ok (.iload_n 0, 1) := by decide +kernel
theorem dJ6_bitCount_0f7a4_26 : decode cJ6_bitCount_0f7a4 26 = .ok (.iconst 4, 1) := by decide +kernel
theorem dJ6_bitCount_0f7a4_27 : decode cJ6_bitCount_0f7a4 27 = .ok (.iushr, 1) := by decide +kernel
theorem dJ6_bitCount_0f7a4_28 : decode cJ6_bitCount_0f7a4 28 = .ok (.iadd, 1) := by decide +kernel
theorem dJ6_bitCount_0f7a4_29 : decode cJ6_bitCount_0f7a4 29 = .ok (.ldc_w 267, 3) := by decide +kernel
theorem dJ6_bitCount_0f7a4_32 : decode cJ6_bitCount_0f7a4 32 = .ok (.iand, 1) := by decide +kernel
theorem dJ6_bitCount_0f7a4_33 : decode cJ6_bitCount_0f7a4 33 = .ok (.istore_n 0, 1) := by decide +kernel
theorem dJ6_bitCount_0f7a4_34 : decode cJ6_bitCount_0f7a4 34 = .ok (.iload_n 0, 1) := by decide +kernel
theorem dJ6_bitCount_0f7a4_35 : decode cJ6_bitCount_0f7a4 35 = .ok (.iload_n 0, 1) := by decide +kernel
theorem dJ6_bitCount_0f7a4_36 : decode cJ6_bitCount_0f7a4 36 = .ok (.bipush 8, 2) := by decide +kernel
theorem dJ6_bitCount_0f7a4_38 : decode cJ6_bitCount_0f7a4 38 = .ok (.iushr, 1) := by decide +kernel
theorem dJ6_bitCount_0f7a4_39 : decode cJ6_bitCount_0f7a4 39 = .ok (.iadd, 1) := by decide +kernel
theorem dJ6_bitCount_0f7a4_40 : decode cJ6_bitCount_0f7a4 40 = .ok (.istore_n 0, 1) := by decide +kernel
theorem dJ6_bitCount_0f7a4_41 : decode cJ6_bitCount_0f7a4 41 = .ok (.iload_n 0, 1) := by decide +kernel
theorem dJ6_bitCount_0f7a4_42 : decode cJ6_bitCount_0f7a4 42 = .ok (.iload_n 0, 1) := by decide +kernel
theorem dJ6_bitCount_0f7a4_43 : decode cJ6_bitCount_0f7a4 43 = .ok (.bipush 16, 2) := by decide +kernel
theorem dJ6_bitCount_0f7a4_45 : decode cJ6_bitCount_0f7a4 45 = .ok (.iushr, 1) := by decide +kernel
theorem dJ6_bitCount_0f7a4_46 : decode cJ6_bitCount_0f7a4 46 = .ok (.iadd, 1) := by decide +kernel
theorem dJ6_bitCount_0f7a4_47 : decode cJ6_bitCount_0f7a4 47 = .ok (.istore_n 0, 1) := by decide +kernel
theorem dJ6_bitCount_0f7a4_48 : decode cJ6_bitCount_0f7a4 48 = .ok (.iload_n 0, 1) := by decide +kernel
theorem dJ6_bitCount_0f7a4_49 : decode cJ6_bitCount_0f7a4 49 = .ok (.bipush 63, 2) := by decide +kernel
theorem dJ6_bitCount_0f7a4_51 : decode cJ6_bitCount_0f7a4 51 = .ok (.iand, 1) := by decide +kernel
theorem dJ6_bitCount_0f7a4_52 : decode cJ6_bitCount_0f7a4 52 = .ok (.ireturn, 1) := by decide +kernel
theorem dJ9_abs_0f7a4_0 : decode cJ9_abs_0f7a4 0 = .ok (.iload_n 0, 1) := by decide +kernel
theorem dJ9_abs_0f7a4_1 : decode cJ9_abs_0f7a4 1 = .ok (.ifCond .ge 8, 3) := by decide +kernel
theorem dJ9_abs_0f7a4_4 : decode cJ9_abs_0f7a4 4 = .ok (.iload_n 0, 1) := by decide +kernel
theorem dJ9_abs_0f7a4_5 : decode cJ9_abs_0f7a4 5 = .ok (.ineg, 1) := by decide +kernel
theorem dJ9_abs_0f7a4_6 : decode cJ9_abs_0f7a4 6 = .ok (.goto 4, 3) := by decide +kernel
theorem dJ9_abs_0f7a4_9 : decode cJ9_abs_0f7a4 9 = .ok (.iload_n 0, 1) := by decide +kernel
theorem dJ9_abs_0f7a4_10 : decode cJ9_abs_0f7a4 10 = .ok (.ireturn, 1) := by decide +kernel
theorem dJ9_max_7cf53_0 : decode cJ9_max_7cf53 0 = .ok (.iload_n 0, 1) := by decide +kernel
theorem dJ9_max_7cf53_1 : decode cJ9_max_7cf53 1 = .ok (.iload_n 1, 1) := by decide +kernel
theorem dJ9_max_7cf53_2 : decode cJ9_max_7cf53 2 = .ok (.if_icmp .lt 7, 3) := by decide +kernel
theorem dJ9_max_7cf53_5 : decode cJ9_max_7cf53 5 = .ok (.iload_n 0, 1) := by decide +kernel
theorem dJ9_max_7cf53_6 : decode cJ9_max_7cf53 6 = .ok (.goto 4, 3) := by decide +kernel
theorem dJ9_max_7cf53_9 : decode cJ9_max_7cf53 9 = .ok (.iload_n 1, 1) := by decide +kernel
theorem dJ9_max_7cf53_10 : decode cJ9_max_7cf53 10 = .ok (.ireturn, 1) := by decide +kernel
theorem dJ9_min_7cf53_0 : decode cJ9_min_7cf53 0 = .ok (.iload_n 0, 1) := by decide +kernel
theorem dJ9_min_7cf53_1 : decode cJ9_min_7cf53 1 = .ok (.iload_n 1, 1) := by decide +kernel
theorem dJ9_min_7cf53_2 : decode cJ9_min_7cf53 2 = .ok (.if_icmp .gt 7, 3) := by decide +kernel
theorem dJ9_min_7cf53_5 : decode cJ9_min_7cf53 5 = .ok (.iload_n 0, 1) := by decide +kernel
theorem dJ9_min_7cf53_6 : decode cJ9_min_7cf53 6 = .ok (.goto 4, 3) := by decide +kernel
theorem dJ9_min_7cf53_9 : decode cJ9_min_7cf53 9 = .ok (.iload_n 1, 1) := by decide +kernel
theorem dJ9_min_7cf53_10 : decode cJ9_min_7cf53 10 = .ok (.ireturn, 1) := by decide +kernel
theorem dJ7_fill_53178_0 : decode cJ7_fill_53178 0 = .ok (.iconst 0, 1) := by decide +kernel
theorem dJ7_fill_53178_1 : decode cJ7_fill_53178 1 = .ok (.istore_n 2, 1) := by decide +kernel
theorem dJ7_fill_53178_2 : decode cJ7_fill_53178 2 = .ok (.aload_n 0, 1) := by decide +kernel
theorem dJ7_fill_53178_3 : decode cJ7_fill_53178 3 = .ok (.arraylength, 1) := by decide +kernel
theorem dJ7_fill_53178_4 : decode cJ7_fill_53178 4 = .ok (.istore_n 3, 1) := by decide +kernel
theorem dJ7_fill_53178_5 : decode cJ7_fill_53178 5 = .ok (.iload_n 2, 1) := by decide +kernel
theorem dJ7_fill_53178_6 : decode cJ7_fill_53178 6 = .ok (.iload_n 3, 1) := by decide +kernel
theorem dJ7_fill_53178_7 : decode cJ7_fill_53178 7 = .ok (.if_icmp .ge 13, 3) := by decide +kernel
theorem dJ7_fill_53178_10 : decode cJ7_fill_53178 10 = .ok (.aload_n 0, 1) := by decide +kernel
theorem dJ7_fill_53178_11 : decode cJ7_fill_53178 11 = .ok (.iload_n 2, 1) := by decide +kernel
theorem dJ7_fill_53178_12 : decode cJ7_fill_53178 12 = .ok (.iload_n 1, 1) := by decide +kernel
theorem dJ7_fill_53178_13 : decode cJ7_fill_53178 13 = .ok (.iastore, 1) := by decide +kernel
theorem dJ7_fill_53178_14 : decode cJ7_fill_53178 14 = .ok (.iinc 2 1, 3) := by decide +kernel
theorem dJ7_fill_53178_17 : decode cJ7_fill_53178 17 = .ok (.goto (-12), 3) := by decide +kernel
theorem dJ7_fill_53178_20 : decode cJ7_fill_53178 20 = .ok (.return_, 1) := by decide +kernel
theorem dL_law_0 : decode cL_law 0 = .ok (.new 7, 3) := by decide +kernel
theorem dL_law_3 : decode cL_law 3 = .ok (.dup, 1) := by decide +kernel
theorem dL_law_4 : decode cL_law 4 = .ok (.invokespecial 9, 3) := by decide +kernel
theorem dL_law_7 : decode cL_law 7 = .ok (.astore_n 1, 1) := by decide +kernel
theorem dL_law_8 : decode cL_law 8 = .ok (.new 10, 3) := by decide +kernel
theorem dL_law_11 : decode cL_law 11 = .ok (.dup, 1) := by decide +kernel
theorem dL_law_12 : decode cL_law 12 = .ok (.invokespecial 12, 3) := by decide +kernel
theorem dL_law_15 : decode cL_law 15 = .ok (.astore_n 2, 1) := by decide +kernel
theorem dL_law_16 : decode cL_law 16 = .ok (.iconst 0, 1) := by decide +kernel
theorem dL_law_17 : decode cL_law 17 = .ok (.istore_n 3, 1) := by decide +kernel
theorem dL_law_18 : decode cL_law 18 = .ok (.iload_n 3, 1) := by decide +kernel
theorem dL_law_19 : decode cL_law 19 = .ok (.aload_n 0, 1) := by decide +kernel
theorem dL_law_20 : decode cL_law 20 = .ok (.arraylength, 1) := by decide +kernel
theorem dL_law_21 : decode cL_law 21 = .ok (.iconst 4, 1) := by decide +kernel
theorem dL_law_22 : decode cL_law 22 = .ok (.isub, 1) := by decide +kernel
theorem dL_law_23 : decode cL_law 23 = .ok (.if_icmp .gt 641, 3) := by decide +kernel
theorem dL_law_26 : decode cL_law 26 = .ok (.aload_n 0, 1) := by decide +kernel
theorem dL_law_27 : decode cL_law 27 = .ok (.iload_n 3, 1) := by decide +kernel
theorem dL_law_28 : decode cL_law 28 = .ok (.iaload, 1) := by decide +kernel
theorem dL_law_29 : decode cL_law 29 = .ok (.bipush 31, 2) := by decide +kernel
theorem dL_law_31 : decode cL_law 31 = .ok (.iand, 1) := by decide +kernel
theorem dL_law_32 : decode cL_law 32 = .ok (.tableswitch 626 0 19 #[96, 119, 152, 175, 208, 241, 274, 287, 320, 353, 376, 399, 412, 435, 458, 481, 514, 557, 580, 603], 96) := by decide +kernel
theorem dL_law_128 : decode cL_law 128 = .ok (.aload_n 1, 1) := by decide +kernel
theorem dL_law_129 : decode cL_law 129 = .ok (.aload_n 0, 1) := by decide +kernel
theorem dL_law_130 : decode cL_law 130 = .ok (.iload_n 3, 1) := by decide +kernel
theorem dL_law_131 : decode cL_law 131 = .ok (.iconst 1, 1) := by decide +kernel
theorem dL_law_132 : decode cL_law 132 = .ok (.iadd, 1) := by decide +kernel
theorem dL_law_133 : decode cL_law 133 = .ok (.iaload, 1) := by decide +kernel
theorem dL_law_134 : decode cL_law 134 = .ok (.invokevirtual 13, 3) := by decide +kernel
theorem dL_law_137 : decode cL_law 137 = .ok (.aload_n 2, 1) := by decide +kernel
theorem dL_law_138 : decode cL_law 138 = .ok (.aload_n 0, 1) := by decide +kernel
theorem dL_law_139 : decode cL_law 139 = .ok (.iload_n 3, 1) := by decide +kernel
theorem dL_law_140 : decode cL_law 140 = .ok (.iconst 1, 1) := by decide +kernel
theorem dL_law_141 : decode cL_law 141 = .ok (.iadd, 1) := by decide +kernel
theorem dL_law_142 : decode cL_law 142 = .ok (.iaload, 1) := by decide +kernel
theorem dL_law_143 : decode cL_law 143 = .ok (.invokevirtual 17, 3) := by decide +kernel
theorem dL_law_146 : decode cL_law 146 = .ok (.if_icmp .eq 512, 3) := by decide +kernel
theorem dL_law_149 : decode cL_law 149 = .ok (.iconst 0, 1) := by decide +kernel
theorem dL_law_150 : decode cL_law 150 = .ok (.ireturn, 1) := by decide +kernel
theorem dL_law_151 : decode cL_law 151 = .ok (.aload_n 1, 1) := by decide +kernel
theorem dL_law_152 : decode cL_law 152 = .ok (.aload_n 0, 1) := by decide +kernel
theorem dL_law_153 : decode cL_law 153 = .ok (.iload_n 3, 1) := by decide +kernel
theorem dL_law_154 : decode cL_law 154 = .ok (.iconst 1, 1) := by decide +kernel
theorem dL_law_155 : decode cL_law 155 = .ok (.iadd, 1) := by decide +kernel
theorem dL_law_156 : decode cL_law 156 = .ok (.iaload, 1) := by decide +kernel
theorem dL_law_157 : decode cL_law 157 = .ok (.aload_n 0, 1) := by decide +kernel
theorem dL_law_158 : decode cL_law 158 = .ok (.iload_n 3, 1) := by decide +kernel
theorem dL_law_159 : decode cL_law 159 = .ok (.iconst 2, 1) := by decide +kernel
theorem dL_law_160 : decode cL_law 160 = .ok (.iadd, 1) := by decide +kernel
theorem dL_law_161 : decode cL_law 161 = .ok (.iaload, 1) := by decide +kernel
theorem dL_law_162 : decode cL_law 162 = .ok (.invokevirtual 18, 3) := by decide +kernel
theorem dL_law_165 : decode cL_law 165 = .ok (.aload_n 2, 1) := by decide +kernel
theorem dL_law_166 : decode cL_law 166 = .ok (.aload_n 0, 1) := by decide +kernel
theorem dL_law_167 : decode cL_law 167 = .ok (.iload_n 3, 1) := by decide +kernel
theorem dL_law_168 : decode cL_law 168 = .ok (.iconst 1, 1) := by decide +kernel
theorem dL_law_169 : decode cL_law 169 = .ok (.iadd, 1) := by decide +kernel
theorem dL_law_170 : decode cL_law 170 = .ok (.iaload, 1) := by decide +kernel
theorem dL_law_171 : decode cL_law 171 = .ok (.aload_n 0, 1) := by decide +kernel
theorem dL_law_172 : decode cL_law 172 = .ok (.iload_n 3, 1) := by decide +kernel
theorem dL_law_173 : decode cL_law 173 = .ok (.iconst 2, 1) := by decide +kernel
theorem dL_law_174 : decode cL_law 174 = .ok (.iadd, 1) := by decide +kernel
theorem dL_law_175 : decode cL_law 175 = .ok (.iaload, 1) := by decide +kernel
theorem dL_law_176 : decode cL_law 176 = .ok (.invokevirtual 22, 3) := by decide +kernel
theorem dL_law_179 : decode cL_law 179 = .ok (.if_icmp .eq 479, 3) := by decide +kernel
theorem dL_law_182 : decode cL_law 182 = .ok (.iconst 0, 1) := by decide +kernel
theorem dL_law_183 : decode cL_law 183 = .ok (.ireturn, 1) := by decide +kernel
theorem dL_law_184 : decode cL_law 184 = .ok (.aload_n 1, 1) := by decide +kernel
theorem dL_law_185 : decode cL_law 185 = .ok (.aload_n 0, 1) := by decide +kernel
theorem dL_law_186 : decode cL_law 186 = .ok (.iload_n 3, 1) := by decide +kernel
theorem dL_law_187 : decode cL_law 187 = .ok (.iconst 1, 1) := by decide +kernel
theorem dL_law_188 : decode cL_law 188 = .ok (.iadd, 1) := by decide +kernel
theorem dL_law_189 : decode cL_law 189 = .ok (.iaload, 1) := by decide +kernel
theorem dL_law_190 : decode cL_law 190 = .ok (.invokevirtual 23, 3) := by decide +kernel
theorem dL_law_193 : decode cL_law 193 = .ok (.aload_n 2, 1) := by decide +kernel
theorem dL_law_194 : decode cL_law 194 = .ok (.aload_n 0, 1) := by decide +kernel
theorem dL_law_195 : decode cL_law 195 = .ok (.iload_n 3, 1) := by decide +kernel
theorem dL_law_196 : decode cL_law 196 = .ok (.iconst 1, 1) := by decide +kernel
theorem dL_law_197 : decode cL_law 197 = .ok (.iadd, 1) := by decide +kernel
theorem dL_law_198 : decode cL_law 198 = .ok (.iaload, 1) := by decide +kernel
theorem dL_law_199 : decode cL_law 199 = .ok (.invokevirtual 26, 3) := by decide +kernel
theorem dL_law_202 : decode cL_law 202 = .ok (.if_icmp .eq 456, 3) := by decide +kernel
theorem dL_law_205 : decode cL_law 205 = .ok (.iconst 0, 1) := by decide +kernel
theorem dL_law_206 : decode cL_law 206 = .ok (.ireturn, 1) := by decide +kernel
theorem dL_law_207 : decode cL_law 207 = .ok (.aload_n 1, 1) := by decide +kernel
theorem dL_law_208 : decode cL_law 208 = .ok (.aload_n 0, 1) := by decide +kernel
theorem dL_law_209 : decode cL_law 209 = .ok (.iload_n 3, 1) := by decide +kernel
theorem dL_law_210 : decode cL_law 210 = .ok (.iconst 1, 1) := by decide +kernel
theorem dL_law_211 : decode cL_law 211 = .ok (.iadd, 1) := by decide +kernel
theorem dL_law_212 : decode cL_law 212 = .ok (.iaload, 1) := by decide +kernel
theorem dL_law_213 : decode cL_law 213 = .ok (.aload_n 0, 1) := by decide +kernel
theorem dL_law_214 : decode cL_law 214 = .ok (.iload_n 3, 1) := by decide +kernel
theorem dL_law_215 : decode cL_law 215 = .ok (.iconst 2, 1) := by decide +kernel
theorem dL_law_216 : decode cL_law 216 = .ok (.iadd, 1) := by decide +kernel
theorem dL_law_217 : decode cL_law 217 = .ok (.iaload, 1) := by decide +kernel
theorem dL_law_218 : decode cL_law 218 = .ok (.invokevirtual 27, 3) := by decide +kernel
theorem dL_law_221 : decode cL_law 221 = .ok (.aload_n 2, 1) := by decide +kernel
theorem dL_law_222 : decode cL_law 222 = .ok (.aload_n 0, 1) := by decide +kernel
theorem dL_law_223 : decode cL_law 223 = .ok (.iload_n 3, 1) := by decide +kernel
theorem dL_law_224 : decode cL_law 224 = .ok (.iconst 1, 1) := by decide +kernel
theorem dL_law_225 : decode cL_law 225 = .ok (.iadd, 1) := by decide +kernel
theorem dL_law_226 : decode cL_law 226 = .ok (.iaload, 1) := by decide +kernel
theorem dL_law_227 : decode cL_law 227 = .ok (.aload_n 0, 1) := by decide +kernel
theorem dL_law_228 : decode cL_law 228 = .ok (.iload_n 3, 1) := by decide +kernel
theorem dL_law_229 : decode cL_law 229 = .ok (.iconst 2, 1) := by decide +kernel
theorem dL_law_230 : decode cL_law 230 = .ok (.iadd, 1) := by decide +kernel
theorem dL_law_231 : decode cL_law 231 = .ok (.iaload, 1) := by decide +kernel
theorem dL_law_232 : decode cL_law 232 = .ok (.invokevirtual 30, 3) := by decide +kernel
theorem dL_law_235 : decode cL_law 235 = .ok (.if_icmp .eq 423, 3) := by decide +kernel
theorem dL_law_238 : decode cL_law 238 = .ok (.iconst 0, 1) := by decide +kernel
theorem dL_law_239 : decode cL_law 239 = .ok (.ireturn, 1) := by decide +kernel
theorem dL_law_240 : decode cL_law 240 = .ok (.aload_n 1, 1) := by decide +kernel
theorem dL_law_241 : decode cL_law 241 = .ok (.aload_n 0, 1) := by decide +kernel
theorem dL_law_242 : decode cL_law 242 = .ok (.iload_n 3, 1) := by decide +kernel
theorem dL_law_243 : decode cL_law 243 = .ok (.iconst 1, 1) := by decide +kernel
theorem dL_law_244 : decode cL_law 244 = .ok (.iadd, 1) := by decide +kernel
theorem dL_law_245 : decode cL_law 245 = .ok (.iaload, 1) := by decide +kernel
theorem dL_law_246 : decode cL_law 246 = .ok (.aload_n 0, 1) := by decide +kernel
theorem dL_law_247 : decode cL_law 247 = .ok (.iload_n 3, 1) := by decide +kernel
theorem dL_law_248 : decode cL_law 248 = .ok (.iconst 2, 1) := by decide +kernel
theorem dL_law_249 : decode cL_law 249 = .ok (.iadd, 1) := by decide +kernel
theorem dL_law_250 : decode cL_law 250 = .ok (.iaload, 1) := by decide +kernel
theorem dL_law_251 : decode cL_law 251 = .ok (.invokevirtual 31, 3) := by decide +kernel
theorem dL_law_254 : decode cL_law 254 = .ok (.aload_n 2, 1) := by decide +kernel
theorem dL_law_255 : decode cL_law 255 = .ok (.aload_n 0, 1) := by decide +kernel
theorem dL_law_256 : decode cL_law 256 = .ok (.iload_n 3, 1) := by decide +kernel
theorem dL_law_257 : decode cL_law 257 = .ok (.iconst 1, 1) := by decide +kernel
theorem dL_law_258 : decode cL_law 258 = .ok (.iadd, 1) := by decide +kernel
theorem dL_law_259 : decode cL_law 259 = .ok (.iaload, 1) := by decide +kernel
theorem dL_law_260 : decode cL_law 260 = .ok (.aload_n 0, 1) := by decide +kernel
theorem dL_law_261 : decode cL_law 261 = .ok (.iload_n 3, 1) := by decide +kernel
theorem dL_law_262 : decode cL_law 262 = .ok (.iconst 2, 1) := by decide +kernel
theorem dL_law_263 : decode cL_law 263 = .ok (.iadd, 1) := by decide +kernel
theorem dL_law_264 : decode cL_law 264 = .ok (.iaload, 1) := by decide +kernel
theorem dL_law_265 : decode cL_law 265 = .ok (.invokevirtual 34, 3) := by decide +kernel
theorem dL_law_268 : decode cL_law 268 = .ok (.if_icmp .eq 390, 3) := by decide +kernel
theorem dL_law_271 : decode cL_law 271 = .ok (.iconst 0, 1) := by decide +kernel
theorem dL_law_272 : decode cL_law 272 = .ok (.ireturn, 1) := by decide +kernel
theorem dL_law_273 : decode cL_law 273 = .ok (.aload_n 1, 1) := by decide +kernel
theorem dL_law_274 : decode cL_law 274 = .ok (.aload_n 0, 1) := by decide +kernel
theorem dL_law_275 : decode cL_law 275 = .ok (.iload_n 3, 1) := by decide +kernel
theorem dL_law_276 : decode cL_law 276 = .ok (.iconst 1, 1) := by decide +kernel
theorem dL_law_277 : decode cL_law 277 = .ok (.iadd, 1) := by decide +kernel
theorem dL_law_278 : decode cL_law 278 = .ok (.iaload, 1) := by decide +kernel
theorem dL_law_279 : decode cL_law 279 = .ok (.aload_n 0, 1) := by decide +kernel
theorem dL_law_280 : decode cL_law 280 = .ok (.iload_n 3, 1) := by decide +kernel
theorem dL_law_281 : decode cL_law 281 = .ok (.iconst 2, 1) := by decide +kernel
theorem dL_law_282 : decode cL_law 282 = .ok (.iadd, 1) := by decide +kernel
theorem dL_law_283 : decode cL_law 283 = .ok (.iaload, 1) := by decide +kernel
theorem dL_law_284 : decode cL_law 284 = .ok (.invokevirtual 35, 3) := by decide +kernel
theorem dL_law_287 : decode cL_law 287 = .ok (.aload_n 2, 1) := by decide +kernel
theorem dL_law_288 : decode cL_law 288 = .ok (.aload_n 0, 1) := by decide +kernel
theorem dL_law_289 : decode cL_law 289 = .ok (.iload_n 3, 1) := by decide +kernel
theorem dL_law_290 : decode cL_law 290 = .ok (.iconst 1, 1) := by decide +kernel
theorem dL_law_291 : decode cL_law 291 = .ok (.iadd, 1) := by decide +kernel
theorem dL_law_292 : decode cL_law 292 = .ok (.iaload, 1) := by decide +kernel
theorem dL_law_293 : decode cL_law 293 = .ok (.aload_n 0, 1) := by decide +kernel
theorem dL_law_294 : decode cL_law 294 = .ok (.iload_n 3, 1) := by decide +kernel
theorem dL_law_295 : decode cL_law 295 = .ok (.iconst 2, 1) := by decide +kernel
theorem dL_law_296 : decode cL_law 296 = .ok (.iadd, 1) := by decide +kernel
theorem dL_law_297 : decode cL_law 297 = .ok (.iaload, 1) := by decide +kernel
theorem dL_law_298 : decode cL_law 298 = .ok (.invokevirtual 38, 3) := by decide +kernel
theorem dL_law_301 : decode cL_law 301 = .ok (.if_icmp .eq 357, 3) := by decide +kernel
theorem dL_law_304 : decode cL_law 304 = .ok (.iconst 0, 1) := by decide +kernel
theorem dL_law_305 : decode cL_law 305 = .ok (.ireturn, 1) := by decide +kernel
theorem dL_law_306 : decode cL_law 306 = .ok (.aload_n 1, 1) := by decide +kernel
theorem dL_law_307 : decode cL_law 307 = .ok (.invokevirtual 39, 3) := by decide +kernel
theorem dL_law_310 : decode cL_law 310 = .ok (.aload_n 2, 1) := by decide +kernel
theorem dL_law_311 : decode cL_law 311 = .ok (.invokevirtual 43, 3) := by decide +kernel
theorem dL_law_314 : decode cL_law 314 = .ok (.if_icmp .eq 344, 3) := by decide +kernel
theorem dL_law_317 : decode cL_law 317 = .ok (.iconst 0, 1) := by decide +kernel
theorem dL_law_318 : decode cL_law 318 = .ok (.ireturn, 1) := by decide +kernel
theorem dL_law_319 : decode cL_law 319 = .ok (.aload_n 1, 1) := by decide +kernel
theorem dL_law_320 : decode cL_law 320 = .ok (.aload_n 0, 1) := by decide +kernel
theorem dL_law_321 : decode cL_law 321 = .ok (.iload_n 3, 1) := by decide +kernel
theorem dL_law_322 : decode cL_law 322 = .ok (.iconst 1, 1) := by decide +kernel
theorem dL_law_323 : decode cL_law 323 = .ok (.iadd, 1) := by decide +kernel
theorem dL_law_324 : decode cL_law 324 = .ok (.iaload, 1) := by decide +kernel
theorem dL_law_325 : decode cL_law 325 = .ok (.aload_n 0, 1) := by decide +kernel
theorem dL_law_326 : decode cL_law 326 = .ok (.iload_n 3, 1) := by decide +kernel
theorem dL_law_327 : decode cL_law 327 = .ok (.iconst 2, 1) := by decide +kernel
theorem dL_law_328 : decode cL_law 328 = .ok (.iadd, 1) := by decide +kernel
theorem dL_law_329 : decode cL_law 329 = .ok (.iaload, 1) := by decide +kernel
theorem dL_law_330 : decode cL_law 330 = .ok (.invokevirtual 44, 3) := by decide +kernel
theorem dL_law_333 : decode cL_law 333 = .ok (.aload_n 2, 1) := by decide +kernel
theorem dL_law_334 : decode cL_law 334 = .ok (.aload_n 0, 1) := by decide +kernel
theorem dL_law_335 : decode cL_law 335 = .ok (.iload_n 3, 1) := by decide +kernel
theorem dL_law_336 : decode cL_law 336 = .ok (.iconst 1, 1) := by decide +kernel
theorem dL_law_337 : decode cL_law 337 = .ok (.iadd, 1) := by decide +kernel
theorem dL_law_338 : decode cL_law 338 = .ok (.iaload, 1) := by decide +kernel
theorem dL_law_339 : decode cL_law 339 = .ok (.aload_n 0, 1) := by decide +kernel
theorem dL_law_340 : decode cL_law 340 = .ok (.iload_n 3, 1) := by decide +kernel
theorem dL_law_341 : decode cL_law 341 = .ok (.iconst 2, 1) := by decide +kernel
theorem dL_law_342 : decode cL_law 342 = .ok (.iadd, 1) := by decide +kernel
theorem dL_law_343 : decode cL_law 343 = .ok (.iaload, 1) := by decide +kernel
theorem dL_law_344 : decode cL_law 344 = .ok (.invokevirtual 47, 3) := by decide +kernel
theorem dL_law_347 : decode cL_law 347 = .ok (.if_icmp .eq 311, 3) := by decide +kernel
theorem dL_law_350 : decode cL_law 350 = .ok (.iconst 0, 1) := by decide +kernel
theorem dL_law_351 : decode cL_law 351 = .ok (.ireturn, 1) := by decide +kernel
theorem dL_law_352 : decode cL_law 352 = .ok (.aload_n 1, 1) := by decide +kernel
theorem dL_law_353 : decode cL_law 353 = .ok (.aload_n 0, 1) := by decide +kernel
theorem dL_law_354 : decode cL_law 354 = .ok (.iload_n 3, 1) := by decide +kernel
theorem dL_law_355 : decode cL_law 355 = .ok (.iconst 1, 1) := by decide +kernel
theorem dL_law_356 : decode cL_law 356 = .ok (.iadd, 1) := by decide +kernel
theorem dL_law_357 : decode cL_law 357 = .ok (.iaload, 1) := by decide +kernel
theorem dL_law_358 : decode cL_law 358 = .ok (.aload_n 0, 1) := by decide +kernel
theorem dL_law_359 : decode cL_law 359 = .ok (.iload_n 3, 1) := by decide +kernel
theorem dL_law_360 : decode cL_law 360 = .ok (.iconst 2, 1) := by decide +kernel
theorem dL_law_361 : decode cL_law 361 = .ok (.iadd, 1) := by decide +kernel
theorem dL_law_362 : decode cL_law 362 = .ok (.iaload, 1) := by decide +kernel
theorem dL_law_363 : decode cL_law 363 = .ok (.invokevirtual 48, 3) := by decide +kernel
theorem dL_law_366 : decode cL_law 366 = .ok (.aload_n 2, 1) := by decide +kernel
theorem dL_law_367 : decode cL_law 367 = .ok (.aload_n 0, 1) := by decide +kernel
theorem dL_law_368 : decode cL_law 368 = .ok (.iload_n 3, 1) := by decide +kernel
theorem dL_law_369 : decode cL_law 369 = .ok (.iconst 1, 1) := by decide +kernel
theorem dL_law_370 : decode cL_law 370 = .ok (.iadd, 1) := by decide +kernel
theorem dL_law_371 : decode cL_law 371 = .ok (.iaload, 1) := by decide +kernel
theorem dL_law_372 : decode cL_law 372 = .ok (.aload_n 0, 1) := by decide +kernel
theorem dL_law_373 : decode cL_law 373 = .ok (.iload_n 3, 1) := by decide +kernel
theorem dL_law_374 : decode cL_law 374 = .ok (.iconst 2, 1) := by decide +kernel
theorem dL_law_375 : decode cL_law 375 = .ok (.iadd, 1) := by decide +kernel
theorem dL_law_376 : decode cL_law 376 = .ok (.iaload, 1) := by decide +kernel
theorem dL_law_377 : decode cL_law 377 = .ok (.invokevirtual 51, 3) := by decide +kernel
theorem dL_law_380 : decode cL_law 380 = .ok (.if_icmp .eq 278, 3) := by decide +kernel
theorem dL_law_383 : decode cL_law 383 = .ok (.iconst 0, 1) := by decide +kernel
theorem dL_law_384 : decode cL_law 384 = .ok (.ireturn, 1) := by decide +kernel
theorem dL_law_385 : decode cL_law 385 = .ok (.aload_n 1, 1) := by decide +kernel
theorem dL_law_386 : decode cL_law 386 = .ok (.aload_n 0, 1) := by decide +kernel
theorem dL_law_387 : decode cL_law 387 = .ok (.iload_n 3, 1) := by decide +kernel
theorem dL_law_388 : decode cL_law 388 = .ok (.iconst 1, 1) := by decide +kernel
theorem dL_law_389 : decode cL_law 389 = .ok (.iadd, 1) := by decide +kernel
theorem dL_law_390 : decode cL_law 390 = .ok (.iaload, 1) := by decide +kernel
theorem dL_law_391 : decode cL_law 391 = .ok (.invokevirtual 52, 3) := by decide +kernel
theorem dL_law_394 : decode cL_law 394 = .ok (.aload_n 2, 1) := by decide +kernel
theorem dL_law_395 : decode cL_law 395 = .ok (.aload_n 0, 1) := by decide +kernel
theorem dL_law_396 : decode cL_law 396 = .ok (.iload_n 3, 1) := by decide +kernel
theorem dL_law_397 : decode cL_law 397 = .ok (.iconst 1, 1) := by decide +kernel
theorem dL_law_398 : decode cL_law 398 = .ok (.iadd, 1) := by decide +kernel
theorem dL_law_399 : decode cL_law 399 = .ok (.iaload, 1) := by decide +kernel
theorem dL_law_400 : decode cL_law 400 = .ok (.invokevirtual 55, 3) := by decide +kernel
theorem dL_law_403 : decode cL_law 403 = .ok (.if_icmp .eq 255, 3) := by decide +kernel
theorem dL_law_406 : decode cL_law 406 = .ok (.iconst 0, 1) := by decide +kernel
theorem dL_law_407 : decode cL_law 407 = .ok (.ireturn, 1) := by decide +kernel
theorem dL_law_408 : decode cL_law 408 = .ok (.aload_n 1, 1) := by decide +kernel
theorem dL_law_409 : decode cL_law 409 = .ok (.aload_n 0, 1) := by decide +kernel
theorem dL_law_410 : decode cL_law 410 = .ok (.iload_n 3, 1) := by decide +kernel
theorem dL_law_411 : decode cL_law 411 = .ok (.iconst 1, 1) := by decide +kernel
theorem dL_law_412 : decode cL_law 412 = .ok (.iadd, 1) := by decide +kernel
theorem dL_law_413 : decode cL_law 413 = .ok (.iaload, 1) := by decide +kernel
theorem dL_law_414 : decode cL_law 414 = .ok (.invokevirtual 56, 3) := by decide +kernel
theorem dL_law_417 : decode cL_law 417 = .ok (.aload_n 2, 1) := by decide +kernel
theorem dL_law_418 : decode cL_law 418 = .ok (.aload_n 0, 1) := by decide +kernel
theorem dL_law_419 : decode cL_law 419 = .ok (.iload_n 3, 1) := by decide +kernel
theorem dL_law_420 : decode cL_law 420 = .ok (.iconst 1, 1) := by decide +kernel
theorem dL_law_421 : decode cL_law 421 = .ok (.iadd, 1) := by decide +kernel
theorem dL_law_422 : decode cL_law 422 = .ok (.iaload, 1) := by decide +kernel
theorem dL_law_423 : decode cL_law 423 = .ok (.invokevirtual 59, 3) := by decide +kernel
theorem dL_law_426 : decode cL_law 426 = .ok (.if_icmp .eq 232, 3) := by decide +kernel
theorem dL_law_429 : decode cL_law 429 = .ok (.iconst 0, 1) := by decide +kernel
theorem dL_law_430 : decode cL_law 430 = .ok (.ireturn, 1) := by decide +kernel
theorem dL_law_431 : decode cL_law 431 = .ok (.aload_n 1, 1) := by decide +kernel
theorem dL_law_432 : decode cL_law 432 = .ok (.invokevirtual 60, 3) := by decide +kernel
theorem dL_law_435 : decode cL_law 435 = .ok (.aload_n 2, 1) := by decide +kernel
theorem dL_law_436 : decode cL_law 436 = .ok (.invokevirtual 63, 3) := by decide +kernel
theorem dL_law_439 : decode cL_law 439 = .ok (.if_icmp .eq 219, 3) := by decide +kernel
theorem dL_law_442 : decode cL_law 442 = .ok (.iconst 0, 1) := by decide +kernel
theorem dL_law_443 : decode cL_law 443 = .ok (.ireturn, 1) := by decide +kernel
theorem dL_law_444 : decode cL_law 444 = .ok (.aload_n 1, 1) := by decide +kernel
theorem dL_law_445 : decode cL_law 445 = .ok (.aload_n 0, 1) := by decide +kernel
theorem dL_law_446 : decode cL_law 446 = .ok (.iload_n 3, 1) := by decide +kernel
theorem dL_law_447 : decode cL_law 447 = .ok (.iconst 1, 1) := by decide +kernel
theorem dL_law_448 : decode cL_law 448 = .ok (.iadd, 1) := by decide +kernel
theorem dL_law_449 : decode cL_law 449 = .ok (.iaload, 1) := by decide +kernel
theorem dL_law_450 : decode cL_law 450 = .ok (.invokevirtual 64, 3) := by decide +kernel
theorem dL_law_453 : decode cL_law 453 = .ok (.aload_n 2, 1) := by decide +kernel
theorem dL_law_454 : decode cL_law 454 = .ok (.aload_n 0, 1) := by decide +kernel
theorem dL_law_455 : decode cL_law 455 = .ok (.iload_n 3, 1) := by decide +kernel
theorem dL_law_456 : decode cL_law 456 = .ok (.iconst 1, 1) := by decide +kernel
theorem dL_law_457 : decode cL_law 457 = .ok (.iadd, 1) := by decide +kernel
theorem dL_law_458 : decode cL_law 458 = .ok (.iaload, 1) := by decide +kernel
theorem dL_law_459 : decode cL_law 459 = .ok (.invokevirtual 67, 3) := by decide +kernel
theorem dL_law_462 : decode cL_law 462 = .ok (.if_icmp .eq 196, 3) := by decide +kernel
theorem dL_law_465 : decode cL_law 465 = .ok (.iconst 0, 1) := by decide +kernel
theorem dL_law_466 : decode cL_law 466 = .ok (.ireturn, 1) := by decide +kernel
theorem dL_law_467 : decode cL_law 467 = .ok (.aload_n 1, 1) := by decide +kernel
theorem dL_law_468 : decode cL_law 468 = .ok (.aload_n 0, 1) := by decide +kernel
theorem dL_law_469 : decode cL_law 469 = .ok (.iload_n 3, 1) := by decide +kernel
theorem dL_law_470 : decode cL_law 470 = .ok (.iconst 1, 1) := by decide +kernel
theorem dL_law_471 : decode cL_law 471 = .ok (.iadd, 1) := by decide +kernel
theorem dL_law_472 : decode cL_law 472 = .ok (.iaload, 1) := by decide +kernel
theorem dL_law_473 : decode cL_law 473 = .ok (.invokevirtual 68, 3) := by decide +kernel
theorem dL_law_476 : decode cL_law 476 = .ok (.aload_n 2, 1) := by decide +kernel
theorem dL_law_477 : decode cL_law 477 = .ok (.aload_n 0, 1) := by decide +kernel
theorem dL_law_478 : decode cL_law 478 = .ok (.iload_n 3, 1) := by decide +kernel
theorem dL_law_479 : decode cL_law 479 = .ok (.iconst 1, 1) := by decide +kernel
theorem dL_law_480 : decode cL_law 480 = .ok (.iadd, 1) := by decide +kernel
theorem dL_law_481 : decode cL_law 481 = .ok (.iaload, 1) := by decide +kernel
theorem dL_law_482 : decode cL_law 482 = .ok (.invokevirtual 71, 3) := by decide +kernel
theorem dL_law_485 : decode cL_law 485 = .ok (.if_icmp .eq 173, 3) := by decide +kernel
theorem dL_law_488 : decode cL_law 488 = .ok (.iconst 0, 1) := by decide +kernel
theorem dL_law_489 : decode cL_law 489 = .ok (.ireturn, 1) := by decide +kernel
theorem dL_law_490 : decode cL_law 490 = .ok (.aload_n 1, 1) := by decide +kernel
theorem dL_law_491 : decode cL_law 491 = .ok (.aload_n 0, 1) := by decide +kernel
theorem dL_law_492 : decode cL_law 492 = .ok (.iload_n 3, 1) := by decide +kernel
theorem dL_law_493 : decode cL_law 493 = .ok (.iconst 1, 1) := by decide +kernel
theorem dL_law_494 : decode cL_law 494 = .ok (.iadd, 1) := by decide +kernel
theorem dL_law_495 : decode cL_law 495 = .ok (.iaload, 1) := by decide +kernel
theorem dL_law_496 : decode cL_law 496 = .ok (.invokevirtual 72, 3) := by decide +kernel
theorem dL_law_499 : decode cL_law 499 = .ok (.aload_n 2, 1) := by decide +kernel
theorem dL_law_500 : decode cL_law 500 = .ok (.aload_n 0, 1) := by decide +kernel
theorem dL_law_501 : decode cL_law 501 = .ok (.iload_n 3, 1) := by decide +kernel
theorem dL_law_502 : decode cL_law 502 = .ok (.iconst 1, 1) := by decide +kernel
theorem dL_law_503 : decode cL_law 503 = .ok (.iadd, 1) := by decide +kernel
theorem dL_law_504 : decode cL_law 504 = .ok (.iaload, 1) := by decide +kernel
theorem dL_law_505 : decode cL_law 505 = .ok (.invokevirtual 75, 3) := by decide +kernel
theorem dL_law_508 : decode cL_law 508 = .ok (.if_icmp .eq 150, 3) := by decide +kernel
theorem dL_law_511 : decode cL_law 511 = .ok (.iconst 0, 1) := by decide +kernel
theorem dL_law_512 : decode cL_law 512 = .ok (.ireturn, 1) := by decide +kernel
theorem dL_law_513 : decode cL_law 513 = .ok (.aload_n 1, 1) := by decide +kernel
theorem dL_law_514 : decode cL_law 514 = .ok (.aload_n 0, 1) := by decide +kernel
theorem dL_law_515 : decode cL_law 515 = .ok (.iload_n 3, 1) := by decide +kernel
theorem dL_law_516 : decode cL_law 516 = .ok (.iconst 1, 1) := by decide +kernel
theorem dL_law_517 : decode cL_law 517 = .ok (.iadd, 1) := by decide +kernel
theorem dL_law_518 : decode cL_law 518 = .ok (.iaload, 1) := by decide +kernel
theorem dL_law_519 : decode cL_law 519 = .ok (.aload_n 0, 1) := by decide +kernel
theorem dL_law_520 : decode cL_law 520 = .ok (.iload_n 3, 1) := by decide +kernel
theorem dL_law_521 : decode cL_law 521 = .ok (.iconst 2, 1) := by decide +kernel
theorem dL_law_522 : decode cL_law 522 = .ok (.iadd, 1) := by decide +kernel
theorem dL_law_523 : decode cL_law 523 = .ok (.iaload, 1) := by decide +kernel
theorem dL_law_524 : decode cL_law 524 = .ok (.invokevirtual 76, 3) := by decide +kernel
theorem dL_law_527 : decode cL_law 527 = .ok (.aload_n 2, 1) := by decide +kernel
theorem dL_law_528 : decode cL_law 528 = .ok (.aload_n 0, 1) := by decide +kernel
theorem dL_law_529 : decode cL_law 529 = .ok (.iload_n 3, 1) := by decide +kernel
theorem dL_law_530 : decode cL_law 530 = .ok (.iconst 1, 1) := by decide +kernel
theorem dL_law_531 : decode cL_law 531 = .ok (.iadd, 1) := by decide +kernel
theorem dL_law_532 : decode cL_law 532 = .ok (.iaload, 1) := by decide +kernel
theorem dL_law_533 : decode cL_law 533 = .ok (.aload_n 0, 1) := by decide +kernel
theorem dL_law_534 : decode cL_law 534 = .ok (.iload_n 3, 1) := by decide +kernel
theorem dL_law_535 : decode cL_law 535 = .ok (.iconst 2, 1) := by decide +kernel
theorem dL_law_536 : decode cL_law 536 = .ok (.iadd, 1) := by decide +kernel
theorem dL_law_537 : decode cL_law 537 = .ok (.iaload, 1) := by decide +kernel
theorem dL_law_538 : decode cL_law 538 = .ok (.invokevirtual 79, 3) := by decide +kernel
theorem dL_law_541 : decode cL_law 541 = .ok (.if_icmp .eq 117, 3) := by decide +kernel
theorem dL_law_544 : decode cL_law 544 = .ok (.iconst 0, 1) := by decide +kernel
theorem dL_law_545 : decode cL_law 545 = .ok (.ireturn, 1) := by decide +kernel
theorem dL_law_546 : decode cL_law 546 = .ok (.aload_n 1, 1) := by decide +kernel
theorem dL_law_547 : decode cL_law 547 = .ok (.aload_n 0, 1) := by decide +kernel
theorem dL_law_548 : decode cL_law 548 = .ok (.iload_n 3, 1) := by decide +kernel
theorem dL_law_549 : decode cL_law 549 = .ok (.iconst 1, 1) := by decide +kernel
theorem dL_law_550 : decode cL_law 550 = .ok (.iadd, 1) := by decide +kernel
theorem dL_law_551 : decode cL_law 551 = .ok (.iaload, 1) := by decide +kernel
theorem dL_law_552 : decode cL_law 552 = .ok (.aload_n 0, 1) := by decide +kernel
theorem dL_law_553 : decode cL_law 553 = .ok (.iload_n 3, 1) := by decide +kernel
theorem dL_law_554 : decode cL_law 554 = .ok (.iconst 2, 1) := by decide +kernel
theorem dL_law_555 : decode cL_law 555 = .ok (.iadd, 1) := by decide +kernel
theorem dL_law_556 : decode cL_law 556 = .ok (.iaload, 1) := by decide +kernel
theorem dL_law_557 : decode cL_law 557 = .ok (.aload_n 0, 1) := by decide +kernel
theorem dL_law_558 : decode cL_law 558 = .ok (.iload_n 3, 1) := by decide +kernel
theorem dL_law_559 : decode cL_law 559 = .ok (.iconst 3, 1) := by decide +kernel
theorem dL_law_560 : decode cL_law 560 = .ok (.iadd, 1) := by decide +kernel
theorem dL_law_561 : decode cL_law 561 = .ok (.iaload, 1) := by decide +kernel
theorem dL_law_562 : decode cL_law 562 = .ok (.invokevirtual 80, 3) := by decide +kernel
theorem dL_law_565 : decode cL_law 565 = .ok (.aload_n 2, 1) := by decide +kernel
theorem dL_law_566 : decode cL_law 566 = .ok (.aload_n 0, 1) := by decide +kernel
theorem dL_law_567 : decode cL_law 567 = .ok (.iload_n 3, 1) := by decide +kernel
theorem dL_law_568 : decode cL_law 568 = .ok (.iconst 1, 1) := by decide +kernel
theorem dL_law_569 : decode cL_law 569 = .ok (.iadd, 1) := by decide +kernel
theorem dL_law_570 : decode cL_law 570 = .ok (.iaload, 1) := by decide +kernel
theorem dL_law_571 : decode cL_law 571 = .ok (.aload_n 0, 1) := by decide +kernel
theorem dL_law_572 : decode cL_law 572 = .ok (.iload_n 3, 1) := by decide +kernel
theorem dL_law_573 : decode cL_law 573 = .ok (.iconst 2, 1) := by decide +kernel
theorem dL_law_574 : decode cL_law 574 = .ok (.iadd, 1) := by decide +kernel
theorem dL_law_575 : decode cL_law 575 = .ok (.iaload, 1) := by decide +kernel
theorem dL_law_576 : decode cL_law 576 = .ok (.aload_n 0, 1) := by decide +kernel
theorem dL_law_577 : decode cL_law 577 = .ok (.iload_n 3, 1) := by decide +kernel
theorem dL_law_578 : decode cL_law 578 = .ok (.iconst 3, 1) := by decide +kernel
theorem dL_law_579 : decode cL_law 579 = .ok (.iadd, 1) := by decide +kernel
theorem dL_law_580 : decode cL_law 580 = .ok (.iaload, 1) := by decide +kernel
theorem dL_law_581 : decode cL_law 581 = .ok (.invokevirtual 84, 3) := by decide +kernel
theorem dL_law_584 : decode cL_law 584 = .ok (.if_icmp .eq 74, 3) := by decide +kernel
theorem dL_law_587 : decode cL_law 587 = .ok (.iconst 0, 1) := by decide +kernel
theorem dL_law_588 : decode cL_law 588 = .ok (.ireturn, 1) := by decide +kernel
theorem dL_law_589 : decode cL_law 589 = .ok (.aload_n 1, 1) := by decide +kernel
theorem dL_law_590 : decode cL_law 590 = .ok (.aload_n 0, 1) := by decide +kernel
theorem dL_law_591 : decode cL_law 591 = .ok (.iload_n 3, 1) := by decide +kernel
theorem dL_law_592 : decode cL_law 592 = .ok (.iconst 1, 1) := by decide +kernel
theorem dL_law_593 : decode cL_law 593 = .ok (.iadd, 1) := by decide +kernel
theorem dL_law_594 : decode cL_law 594 = .ok (.iaload, 1) := by decide +kernel
theorem dL_law_595 : decode cL_law 595 = .ok (.invokevirtual 85, 3) := by decide +kernel
theorem dL_law_598 : decode cL_law 598 = .ok (.aload_n 2, 1) := by decide +kernel
theorem dL_law_599 : decode cL_law 599 = .ok (.aload_n 0, 1) := by decide +kernel
theorem dL_law_600 : decode cL_law 600 = .ok (.iload_n 3, 1) := by decide +kernel
theorem dL_law_601 : decode cL_law 601 = .ok (.iconst 1, 1) := by decide +kernel
theorem dL_law_602 : decode cL_law 602 = .ok (.iadd, 1) := by decide +kernel
theorem dL_law_603 : decode cL_law 603 = .ok (.iaload, 1) := by decide +kernel
theorem dL_law_604 : decode cL_law 604 = .ok (.invokevirtual 88, 3) := by decide +kernel
theorem dL_law_607 : decode cL_law 607 = .ok (.if_icmp .eq 51, 3) := by decide +kernel
theorem dL_law_610 : decode cL_law 610 = .ok (.iconst 0, 1) := by decide +kernel
theorem dL_law_611 : decode cL_law 611 = .ok (.ireturn, 1) := by decide +kernel
theorem dL_law_612 : decode cL_law 612 = .ok (.aload_n 1, 1) := by decide +kernel
theorem dL_law_613 : decode cL_law 613 = .ok (.aload_n 0, 1) := by decide +kernel
theorem dL_law_614 : decode cL_law 614 = .ok (.iload_n 3, 1) := by decide +kernel
theorem dL_law_615 : decode cL_law 615 = .ok (.iconst 1, 1) := by decide +kernel
theorem dL_law_616 : decode cL_law 616 = .ok (.iadd, 1) := by decide +kernel
theorem dL_law_617 : decode cL_law 617 = .ok (.iaload, 1) := by decide +kernel
theorem dL_law_618 : decode cL_law 618 = .ok (.invokevirtual 89, 3) := by decide +kernel
theorem dL_law_621 : decode cL_law 621 = .ok (.aload_n 2, 1) := by decide +kernel
theorem dL_law_622 : decode cL_law 622 = .ok (.aload_n 0, 1) := by decide +kernel
theorem dL_law_623 : decode cL_law 623 = .ok (.iload_n 3, 1) := by decide +kernel
theorem dL_law_624 : decode cL_law 624 = .ok (.iconst 1, 1) := by decide +kernel
theorem dL_law_625 : decode cL_law 625 = .ok (.iadd, 1) := by decide +kernel
theorem dL_law_626 : decode cL_law 626 = .ok (.iaload, 1) := by decide +kernel
theorem dL_law_627 : decode cL_law 627 = .ok (.invokevirtual 92, 3) := by decide +kernel
theorem dL_law_630 : decode cL_law 630 = .ok (.if_icmp .eq 28, 3) := by decide +kernel
theorem dL_law_633 : decode cL_law 633 = .ok (.iconst 0, 1) := by decide +kernel
theorem dL_law_634 : decode cL_law 634 = .ok (.ireturn, 1) := by decide +kernel
theorem dL_law_635 : decode cL_law 635 = .ok (.aload_n 1, 1) := by decide +kernel
theorem dL_law_636 : decode cL_law 636 = .ok (.aload_n 0, 1) := by decide +kernel
theorem dL_law_637 : decode cL_law 637 = .ok (.iload_n 3, 1) := by decide +kernel
theorem dL_law_638 : decode cL_law 638 = .ok (.iconst 1, 1) := by decide +kernel
theorem dL_law_639 : decode cL_law 639 = .ok (.iadd, 1) := by decide +kernel
theorem dL_law_640 : decode cL_law 640 = .ok (.iaload, 1) := by decide +kernel
theorem dL_law_641 : decode cL_law 641 = .ok (.invokevirtual 93, 3) := by decide +kernel
theorem dL_law_644 : decode cL_law 644 = .ok (.aload_n 2, 1) := by decide +kernel
theorem dL_law_645 : decode cL_law 645 = .ok (.aload_n 0, 1) := by decide +kernel
theorem dL_law_646 : decode cL_law 646 = .ok (.iload_n 3, 1) := by decide +kernel
theorem dL_law_647 : decode cL_law 647 = .ok (.iconst 1, 1) := by decide +kernel
theorem dL_law_648 : decode cL_law 648 = .ok (.iadd, 1) := by decide +kernel
theorem dL_law_649 : decode cL_law 649 = .ok (.iaload, 1) := by decide +kernel
theorem dL_law_650 : decode cL_law 650 = .ok (.invokevirtual 96, 3) := by decide +kernel
theorem dL_law_653 : decode cL_law 653 = .ok (.if_icmp .eq 5, 3) := by decide +kernel
theorem dL_law_656 : decode cL_law 656 = .ok (.iconst 0, 1) := by decide +kernel
theorem dL_law_657 : decode cL_law 657 = .ok (.ireturn, 1) := by decide +kernel
theorem dL_law_658 : decode cL_law 658 = .ok (.iinc 3 4, 3) := by decide +kernel
theorem dL_law_661 : decode cL_law 661 = .ok (.goto (-643), 3) := by decide +kernel
theorem dL_law_664 : decode cL_law 664 = .ok (.iconst 1, 1) := by decide +kernel
theorem dL_law_665 : decode cL_law 665 = .ok (.ireturn, 1) := by decide +kernel

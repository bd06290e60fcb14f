theorem dX3_special_325 : decode cX3_special 325 = .ok (.getfield 40, 3) := by decide +kernel
theorem dX3_special_328 : decode cX3_special 328 = .ok (.iload_n 1, 1) := by decide +kernel
theorem dX3_special_329 : decode cX3_special 329 = .ok (.iaload, 1) := by decide +kernel
theorem dX3_special_330 : decode cX3_special 330 = .ok (.aload_n 0, 1) := by decide +kernel
theorem dX3_special_331 : decode cX3_special 331 = .ok (.getfield 46, 3) := by decide +kernel
theorem dX3_special_334 : decode cX3_special 334 = .ok (.iload_n 1, 1) := by decide +kernel
theorem dX3_special_335 : decode cX3_special 335 = .ok (.iaload, 1) := by decide +kernel
theorem dX3_special_336 : decode cX3_special 336 = .ok (.if_icmp .gt 215, 3) := by decide +kernel
theorem dX3_special_339 : decode cX3_special 339 = .ok (.aload_n 0, 1) := by decide +kernel
theorem dX3_special_340 : decode cX3_special 340 = .ok (.sipush 255, 3) := by decide +kernel
theorem dX3_special_343 : decode cX3_special 343 = .ok (.invokevirtual 129, 3) := by decide +kernel
theorem dX3_special_346 : decode cX3_special 346 = .ok (.goto 205, 3) := by decide +kernel
theorem dX3_special_349 : decode cX3_special 349 = .ok (.aload_n 0, 1) := by decide +kernel
theorem dX3_special_350 : decode cX3_special 350 = .ok (.getfield 56, 3) := by decide +kernel
theorem dX3_special_353 : decode cX3_special 353 = .ok (.iload_n 1, 1) := by decide +kernel
theorem dX3_special_354 : decode cX3_special 354 = .ok (.aload_n 0, 1) := by decide +kernel
theorem dX3_special_355 : decode cX3_special 355 = .ok (.getfield 56, 3) := by decide +kernel
theorem dX3_special_358 : decode cX3_special 358 = .ok (.iload_n 1, 1) := by decide +kernel
theorem dX3_special_359 : decode cX3_special 359 = .ok (.baload, 1) := by decide +kernel
theorem dX3_special_360 : decode cX3_special 360 = .ok (.ifCond .ne 8, 3) := by decide +kernel
theorem dX3_special_363 : decode cX3_special 363 = .ok (.iload 6, 2) := by decide +kernel
theorem dX3_special_365 : decode cX3_special 365 = .ok (.ifCond .eq 7, 3) := by decide +kernel
theorem dX3_special_368 : decode cX3_special 368 = .ok (.iconst 1, 1) := by decide +kernel
theorem dX3_special_369 : decode cX3_special 369 = .ok (.goto 4, 3) := by decide +kernel
theorem dX3_special_372 : decode cX3_special 372 = .ok (.iconst 0, 1) := by decide +kernel
theorem dX3_special_373 : decode cX3_special 373 = .ok (.bastore, 1) := by decide +kernel
theorem dX3_special_374 : decode cX3_special 374 = .ok (.goto 177, 3) := by decide +kernel
theorem dX3_special_377 : decode cX3_special 377 = .ok (.aload_n 0, 1) := by decide +kernel
theorem dX3_special_378 : decode cX3_special 378 = .ok (.getfield 46, 3) := by decide +kernel
theorem dX3_special_381 : decode cX3_special 381 = .ok (.iload_n 1, 1) := by decide +kernel
theorem dX3_special_382 : decode cX3_special 382 = .ok (.aload_n 0, 1) := by decide +kernel
theorem dX3_special_383 : decode cX3_special 383 = .ok (.getfield 46, 3) := by decide +kernel
theorem dX3_special_386 : decode cX3_special 386 = .ok (.iload_n 1, 1) := by decide +kernel
theorem dX3_special_387 : decode cX3_special 387 = .ok (.iaload, 1) := by decide +kernel
theorem dX3_special_388 : decode cX3_special 388 = .ok (.ldc 132, 2) := by decide +kernel
theorem dX3_special_390 : decode cX3_special 390 = .ok (.irem, 1) := by decide +kernel
theorem dX3_special_391 : decode cX3_special 391 = .ok (.ldc 132, 2) := by decide +kernel
theorem dX3_special_393 : decode cX3_special 393 = .ok (.iload_n 3, 1) := by decide +kernel
theorem dX3_special_394 : decode cX3_special 394 = .ok (.imul, 1) := by decide +kernel
theorem dX3_special_395 : decode cX3_special 395 = .ok (.iadd, 1) := by decide +kernel
theorem dX3_special_396 : decode cX3_special 396 = .ok (.iastore, 1) := by decide +kernel
theorem dX3_special_397 : decode cX3_special 397 = .ok (.goto 154, 3) := by decide +kernel
theorem dX3_special_400 : decode cX3_special 400 = .ok (.aload_n 0, 1) := by decide +kernel
theorem dX3_special_401 : decode cX3_special 401 = .ok (.getfield 46, 3) := by decide +kernel
theorem dX3_special_404 : decode cX3_special 404 = .ok (.iload_n 1, 1) := by decide +kernel
theorem dX3_special_405 : decode cX3_special 405 = .ok (.aload_n 0, 1) := by decide +kernel
theorem dX3_special_406 : decode cX3_special 406 = .ok (.getfield 46, 3) := by decide +kernel
theorem dX3_special_409 : decode cX3_special 409 = .ok (.iload_n 1, 1) := by decide +kernel
theorem dX3_special_410 : decode cX3_special 410 = .ok (.iaload, 1) := by decide +kernel
theorem dX3_special_411 : decode cX3_special 411 = .ok (.ldc 132, 2) := by decide +kernel
theorem dX3_special_413 : decode cX3_special 413 = .ok (.idiv, 1) := by decide +kernel
theorem dX3_special_414 : decode cX3_special 414 = .ok (.ldc 132, 2) := by decide +kernel
theorem dX3_special_416 : decode cX3_special 416 = .ok (.imul, 1) := by decide +kernel
theorem dX3_special_417 : decode cX3_special 417 = .ok (.aload_n 0, 1) := by decide +kernel
theorem dX3_special_418 : decode cX3_special 418 = .ok (.getfield 46, 3) := by decide +kernel
theorem dX3_special_421 : decode cX3_special 421 = .ok (.iload_n 1, 1) := by decide +kernel
theorem dX3_special_422 : decode cX3_special 422 = .ok (.iaload, 1) := by decide +kernel
theorem dX3_special_423 : decode cX3_special 423 = .ok (.sipush 256, 3) := by decide +kernel
theorem dX3_special_426 : decode cX3_special 426 = .ok (.irem, 1) := by decide +kernel
theorem dX3_special_427 : decode cX3_special 427 = .ok (.iadd, 1) := by decide +kernel
theorem dX3_special_428 : decode cX3_special 428 = .ok (.sipush 256, 3) := by decide +kernel
theorem dX3_special_431 : decode cX3_special 431 = .ok (.iload_n 3, 1) := by decide +kernel
theorem dX3_special_432 : decode cX3_special 432 = .ok (.imul, 1) := by decide +kernel
theorem dX3_special_433 : decode cX3_special 433 = .ok (.iadd, 1) := by decide +kernel
theorem dX3_special_434 : decode cX3_special 434 = .ok (.iastore, 1) := by decide +kernel
theorem dX3_special_435 : decode cX3_special 435 = .ok (.goto 116, 3) := by decide +kernel
theorem dX3_special_438 : decode cX3_special 438 = .ok (.aload_n 0, 1) := by decide +kernel
theorem dX3_special_439 : decode cX3_special 439 = .ok (.getfield 46, 3) := by decide +kernel
theorem dX3_special_442 : decode cX3_special 442 = .ok (.iload_n 1, 1) := by decide +kernel
theorem dX3_special_443 : decode cX3_special 443 = .ok (.aload_n 0, 1) := by decide +kernel
theorem dX3_special_444 : decode cX3_special 444 = .ok (.getfield 46, 3) := by decide +kernel
theorem dX3_special_447 : decode cX3_special 447 = .ok (.iload_n 1, 1) := by decide +kernel
theorem dX3_special_448 : decode cX3_special 448 = .ok (.iaload, 1) := by decide +kernel
theorem dX3_special_449 : decode cX3_special 449 = .ok (.sipush 256, 3) := by decide +kernel
theorem dX3_special_452 : decode cX3_special 452 = .ok (.idiv, 1) := by decide +kernel
theorem dX3_special_453 : decode cX3_special 453 = .ok (.sipush 256, 3) := by decide +kernel
theorem dX3_special_456 : decode cX3_special 456 = .ok (.imul, 1) := by decide +kernel
theorem dX3_special_457 : decode cX3_special 457 = .ok (.iload_n 3, 1) := by decide +kernel
theorem dX3_special_458 : decode cX3_special 458 = .ok (.iadd, 1) := by decide +kernel
theorem dX3_special_459 : decode cX3_special 459 = .ok (.iastore, 1) := by decide +kernel
theorem dX3_special_460 : decode cX3_special 460 = .ok (.goto 91, 3) := by decide +kernel
theorem dX3_special_463 : decode cX3_special 463 = .ok (.iload 6, 2) := by decide +kernel
theorem dX3_special_465 : decode cX3_special 465 = .ok (.ifCond .eq 86, 3) := by decide +kernel
theorem dX3_special_468 : decode cX3_special 468 = .ok (.aload_n 0, 1) := by decide +kernel
theorem dX3_special_469 : decode cX3_special 469 = .ok (.iload_n 1, 1) := by decide +kernel
theorem dX3_special_470 : decode cX3_special 470 = .ok (.iload_n 3, 1) := by decide +kernel
theorem dX3_special_471 : decode cX3_special 471 = .ok (.invokevirtual 126, 3) := by decide +kernel
theorem dX3_special_474 : decode cX3_special 474 = .ok (.goto 77, 3) := by decide +kernel
theorem dX3_special_477 : decode cX3_special 477 = .ok (.iload 6, 2) := by decide +kernel
theorem dX3_special_479 : decode cX3_special 479 = .ok (.ifCond .eq 72, 3) := by decide +kernel
theorem dX3_special_482 : decode cX3_special 482 = .ok (.iload 5, 2) := by decide +kernel
theorem dX3_special_484 : decode cX3_special 484 = .ok (.ifCond .eq 67, 3) := by decide +kernel
theorem dX3_special_487 : decode cX3_special 487 = .ok (.aload_n 0, 1) := by decide +kernel
theorem dX3_special_488 : decode cX3_special 488 = .ok (.getfield 37, 3) := by decide +kernel
theorem dX3_special_491 : decode cX3_special 491 = .ok (.iload_n 1, 1) := by decide +kernel
theorem dX3_special_492 : decode cX3_special 492 = .ok (.iaload, 1) := by decide +kernel
theorem dX3_special_493 : decode cX3_special 493 = .ok (.iload_n 3, 1) := by decide +kernel
theorem dX3_special_494 : decode cX3_special 494 = .ok (.iconst 1, 1) := by decide +kernel
theorem dX3_special_495 : decode cX3_special 495 = .ok (.isub, 1) := by decide +kernel
theorem dX3_special_496 : decode cX3_special 496 = .ok (.iconst 2, 1) := by decide +kernel
theorem dX3_special_497 : decode cX3_special 497 = .ok (.idiv, 1) := by decide +kernel
theorem dX3_special_498 : decode cX3_special 498 = .ok (.if_icmp .ne 53, 3) := by decide +kernel
theorem dX3_special_501 : decode cX3_special 501 = .ok (.aload_n 0, 1) := by decide +kernel
theorem dX3_special_502 : decode cX3_special 502 = .ok (.sipush 255, 3) := by decide +kernel
theorem dX3_special_505 : decode cX3_special 505 = .ok (.invokevirtual 129, 3) := by decide +kernel
theorem dX3_special_508 : decode cX3_special 508 = .ok (.goto 43, 3) := by decide +kernel
theorem dX3_special_511 : decode cX3_special 511 = .ok (.iload 6, 2) := by decide +kernel
theorem dX3_special_513 : decode cX3_special 513 = .ok (.ifCond .eq 38, 3) := by decide +kernel
theorem dX3_special_516 : decode cX3_special 516 = .ok (.aload_n 0, 1) := by decide +kernel
theorem dX3_special_517 : decode cX3_special 517 = .ok (.aload_n 0, 1) := by decide +kernel
theorem dX3_special_518 : decode cX3_special 518 = .ok (.getfield 37, 3) := by decide +kernel
theorem dX3_special_521 : decode cX3_special 521 = .ok (.iload_n 1, 1) := by decide +kernel
theorem dX3_special_522 : decode cX3_special 522 = .ok (.iaload, 1) := by decide +kernel
theorem dX3_special_523 : decode cX3_special 523 = .ok (.sipush 255, 3) := by decide +kernel
theorem dX3_special_526 : decode cX3_special 526 = .ok (.if_icmp .ne 9, 3) := by decide +kernel
theorem dX3_special_529 : decode cX3_special 529 = .ok (.sipush 255, 3) := by decide +kernel
theorem dX3_special_532 : decode cX3_special 532 = .ok (.goto 13, 3) := by decide +kernel
theorem dX3_special_535 : decode cX3_special 535 = .ok (.iconst 2, 1) := by decide +kernel
theorem dX3_special_536 : decode cX3_special 536 = .ok (.aload_n 0, 1) := by decide +kernel
theorem dX3_special_537 : decode cX3_special 537 = .ok (.getfield 37, 3) := by decide +kernel
theorem dX3_special_540 : decode cX3_special 540 = .ok (.iload_n 1, 1) := by decide +kernel
theorem dX3_special_541 : decode cX3_special 541 = .ok (.iaload, 1) := by decide +kernel
theorem dX3_special_542 : decode cX3_special 542 = .ok (.imul, 1) := by decide +kernel
theorem dX3_special_543 : decode cX3_special 543 = .ok (.iconst 1, 1) := by decide +kernel
theorem dX3_special_544 : decode cX3_special 544 = .ok (.iadd, 1) := by decide +kernel
theorem dX3_special_545 : decode cX3_special 545 = .ok (.invokevirtual 129, 3) := by decide +kernel
theorem dX3_special_548 : decode cX3_special 548 = .ok (.goto 3, 3) := by decide +kernel
theorem dX3_special_551 : decode cX3_special 551 = .ok (.return_, 1) := by decide +kernel
theorem dX3_isMeant_0 : decode cX3_isMeant 0 = .ok (.iload_n 2, 1) := by decide +kernel
theorem dX3_isMeant_1 : decode cX3_isMeant 1 = .ok (.sipush 128, 3) := by decide +kernel
theorem dX3_isMeant_4 : decode cX3_isMeant 4 = .ok (.if_icmp .ge 21, 3) := by decide +kernel
theorem dX3_isMeant_7 : decode cX3_isMeant 7 = .ok (.aload_n 0, 1) := by decide +kernel
theorem dX3_isMeant_8 : decode cX3_isMeant 8 = .ok (.getfield 37, 3) := by decide +kernel
theorem dX3_isMeant_11 : decode cX3_isMeant 11 = .ok (.iload_n 1, 1) := by decide +kernel
theorem dX3_isMeant_12 : decode cX3_isMeant 12 = .ok (.iaload, 1) := by decide +kernel
theorem dX3_isMeant_13 : decode cX3_isMeant 13 = .ok (.iload_n 2, 1) := by decide +kernel
theorem dX3_isMeant_14 : decode cX3_isMeant 14 = .ok (.iconst 2, 1) := by decide +kernel
theorem dX3_isMeant_15 : decode cX3_isMeant 15 = .ok (.idiv, 1) := by decide +kernel
theorem dX3_isMeant_16 : decode cX3_isMeant 16 = .ok (.if_icmp .ne 7, 3) := by decide +kernel
theorem dX3_isMeant_19 : decode cX3_isMeant 19 = .ok (.iconst 1, 1) := by decide +kernel
theorem dX3_isMeant_20 : decode cX3_isMeant 20 = .ok (.goto 4, 3) := by decide +kernel
theorem dX3_isMeant_23 : decode cX3_isMeant 23 = .ok (.iconst 0, 1) := by decide +kernel
theorem dX3_isMeant_24 : decode cX3_isMeant 24 = .ok (.ireturn, 1) := by decide +kernel
theorem dX3_isMeant_25 : decode cX3_isMeant 25 = .ok (.iload_n 2, 1) := by decide +kernel
theorem dX3_isMeant_26 : decode cX3_isMeant 26 = .ok (.sipush 160, 3) := by decide +kernel
theorem dX3_isMeant_29 : decode cX3_isMeant 29 = .ok (.if_icmp .ge 29, 3) := by decide +kernel
theorem dX3_isMeant_32 : decode cX3_isMeant 32 = .ok (.aload_n 0, 1) := by decide +kernel
theorem dX3_isMeant_33 : decode cX3_isMeant 33 = .ok (.getfield 31, 3) := by decide +kernel
theorem dX3_isMeant_36 : decode cX3_isMeant 36 = .ok (.iload_n 1, 1) := by decide +kernel
theorem dX3_isMeant_37 : decode cX3_isMeant 37 = .ok (.iaload, 1) := by decide +kernel
theorem dX3_isMeant_38 : decode cX3_isMeant 38 = .ok (.iload_n 2, 1) := by decide +kernel
theorem dX3_isMeant_39 : decode cX3_isMeant 39 = .ok (.sipush 128, 3) := by decide +kernel
theorem dX3_isMeant_42 : decode cX3_isMeant 42 = .ok (.isub, 1) := by decide +kernel
theorem dX3_isMeant_43 : decode cX3_isMeant 43 = .ok (.iconst 2, 1) := by decide +kernel
theorem dX3_isMeant_44 : decode cX3_isMeant 44 = .ok (.idiv, 1) := by decide +kernel
theorem dX3_isMeant_45 : decode cX3_isMeant 45 = .ok (.ishr, 1) := by decide +kernel
theorem dX3_isMeant_46 : decode cX3_isMeant 46 = .ok (.iconst 1, 1) := by decide +kernel
theorem dX3_isMeant_47 : decode cX3_isMeant 47 = .ok (.iand, 1) := by decide +kernel
theorem dX3_isMeant_48 : decode cX3_isMeant 48 = .ok (.iconst 1, 1) := by decide +kernel
theorem dX3_isMeant_49 : decode cX3_isMeant 49 = .ok (.if_icmp .ne 7, 3) := by decide +kernel
theorem dX3_isMeant_52 : decode cX3_isMeant 52 = .ok (.iconst 1, 1) := by decide +kernel
theorem dX3_isMeant_53 : decode cX3_isMeant 53 = .ok (.goto 4, 3) := by decide +kernel
theorem dX3_isMeant_56 : decode cX3_isMeant 56 = .ok (.iconst 0, 1) := by decide +kernel
theorem dX3_isMeant_57 : decode cX3_isMeant 57 = .ok (.ireturn, 1) := by decide +kernel
theorem dX3_isMeant_58 : decode cX3_isMeant 58 = .ok (.iload_n 2, 1) := by decide +kernel
theorem dX3_isMeant_59 : decode cX3_isMeant 59 = .ok (.sipush 253, 3) := by decide +kernel
theorem dX3_isMeant_62 : decode cX3_isMeant 62 = .ok (.if_icmp .le 7, 3) := by decide +kernel
theorem dX3_isMeant_65 : decode cX3_isMeant 65 = .ok (.iconst 1, 1) := by decide +kernel
theorem dX3_isMeant_66 : decode cX3_isMeant 66 = .ok (.goto 4, 3) := by decide +kernel
theorem dX3_isMeant_69 : decode cX3_isMeant 69 = .ok (.iconst 0, 1) := by decide +kernel
theorem dX3_isMeant_70 : decode cX3_isMeant 70 = .ok (.ireturn, 1) := by decide +kernel
theorem dX3_send_0 : decode cX3_send 0 = .ok (.iload_n 1, 1) := by decide +kernel
theorem dX3_send_1 : decode cX3_send 1 = .ok (.iconst 0, 1) := by decide +kernel
theorem dX3_send_2 : decode cX3_send 2 = .ok (.sipush 255, 3) := by decide +kernel
theorem dX3_send_5 : decode cX3_send 5 = .ok (.invokestatic 93, 3) := by decide +kernel
theorem dX3_send_8 : decode cX3_send 8 = .ok (.ifCond .eq 14, 3) := by decide +kernel
theorem dX3_send_11 : decode cX3_send 11 = .ok (.iload_n 2, 1) := by decide +kernel
theorem dX3_send_12 : decode cX3_send 12 = .ok (.iconst 0, 1) := by decide +kernel
theorem dX3_send_13 : decode cX3_send 13 = .ok (.sipush 255, 3) := by decide +kernel
theorem dX3_send_16 : decode cX3_send 16 = .ok (.invokestatic 93, 3) := by decide +kernel
theorem dX3_send_19 : decode cX3_send 19 = .ok (.ifCond .ne 6, 3) := by decide +kernel
theorem dX3_send_22 : decode cX3_send 22 = .ok (.bipush (-2), 2) := by decide +kernel
theorem dX3_send_24 : decode cX3_send 24 = .ok (.ireturn, 1) := by decide +kernel
theorem dX3_send_25 : decode cX3_send 25 = .ok (.aload_n 0, 1) := by decide +kernel
theorem dX3_send_26 : decode cX3_send 26 = .ok (.getfield 133, 3) := by decide +kernel
theorem dX3_send_29 : decode cX3_send 29 = .ok (.ifCond .eq 23, 3) := by decide +kernel
theorem dX3_send_32 : decode cX3_send 32 = .ok (.aload_n 0, 1) := by decide +kernel
theorem dX3_send_33 : decode cX3_send 33 = .ok (.getfield 137, 3) := by decide +kernel
theorem dX3_send_36 : decode cX3_send 36 = .ok (.iload_n 1, 1) := by decide +kernel
theorem dX3_send_37 : decode cX3_send 37 = .ok (.if_icmp .ne 15, 3) := by decide +kernel
theorem dX3_send_40 : decode cX3_send 40 = .ok (.aload_n 0, 1) := by decide +kernel
theorem dX3_send_41 : decode cX3_send 41 = .ok (.getfield 140, 3) := by decide +kernel
theorem dX3_send_44 : decode cX3_send 44 = .ok (.iload_n 2, 1) := by decide +kernel
theorem dX3_send_45 : decode cX3_send 45 = .ok (.if_icmp .ne 7, 3) := by decide +kernel
theorem dX3_send_48 : decode cX3_send 48 = .ok (.iconst 1, 1) := by decide +kernel
theorem dX3_send_49 : decode cX3_send 49 = .ok (.goto 4, 3) := by decide +kernel
theorem dX3_send_52 : decode cX3_send 52 = .ok (.iconst 0, 1) := by decide +kernel
theorem dX3_send_53 : decode cX3_send 53 = .ok (.istore_n 3, 1) := by decide +kernel
theorem dX3_send_54 : decode cX3_send 54 = .ok (.aload_n 0, 1) := by decide +kernel
theorem dX3_send_55 : decode cX3_send 55 = .ok (.iload_n 3, 1) := by decide +kernel
theorem dX3_send_56 : decode cX3_send 56 = .ok (.ifCond .ne 7, 3) := by decide +kernel
theorem dX3_send_59 : decode cX3_send 59 = .ok (.iconst 1, 1) := by decide +kernel
theorem dX3_send_60 : decode cX3_send 60 = .ok (.goto 4, 3) := by decide +kernel
theorem dX3_send_63 : decode cX3_send 63 = .ok (.iconst 0, 1) := by decide +kernel
theorem dX3_send_64 : decode cX3_send 64 = .ok (.putfield 133, 3) := by decide +kernel
theorem dX3_send_67 : decode cX3_send 67 = .ok (.aload_n 0, 1) := by decide +kernel
theorem dX3_send_68 : decode cX3_send 68 = .ok (.iload_n 1, 1) := by decide +kernel
theorem dX3_send_69 : decode cX3_send 69 = .ok (.putfield 137, 3) := by decide +kernel
theorem dX3_send_72 : decode cX3_send 72 = .ok (.aload_n 0, 1) := by decide +kernel
theorem dX3_send_73 : decode cX3_send 73 = .ok (.iload_n 2, 1) := by decide +kernel
theorem dX3_send_74 : decode cX3_send 74 = .ok (.putfield 140, 3) := by decide +kernel
theorem dX3_send_77 : decode cX3_send 77 = .ok (.aload_n 0, 1) := by decide +kernel
theorem dX3_send_78 : decode cX3_send 78 = .ok (.dup, 1) := by decide +kernel
theorem dX3_send_79 : decode cX3_send 79 = .ok (.getfield 143, 3) := by decide +kernel
theorem dX3_send_82 : decode cX3_send 82 = .ok (.iconst 1, 1) := by decide +kernel
theorem dX3_send_83 : decode cX3_send 83 = .ok (.iadd, 1) := by decide +kernel
theorem dX3_send_84 : decode cX3_send 84 = .ok (.putfield 143, 3) := by decide +kernel
theorem dX3_send_87 : decode cX3_send 87 = .ok (.aload_n 0, 1) := by decide +kernel
theorem dX3_send_88 : decode cX3_send 88 = .ok (.iconst (-1), 1) := by decide +kernel
theorem dX3_send_89 : decode cX3_send 89 = .ok (.putfield 105, 3) := by decide +kernel
theorem dX3_send_92 : decode cX3_send 92 = .ok (.iconst 0, 1) := by decide +kernel
theorem dX3_send_93 : decode cX3_send 93 = .ok (.istore 4, 2) := by decide +kernel
theorem dX3_send_95 : decode cX3_send 95 = .ok (.iload 4, 2) := by decide +kernel
theorem dX3_send_97 : decode cX3_send 97 = .ok (.aload_n 0, 1) := by decide +kernel
theorem dX3_send_98 : decode cX3_send 98 = .ok (.getfield 82, 3) := by decide +kernel
theorem dX3_send_101 : decode cX3_send 101 = .ok (.if_icmp .ge 87, 3) := by decide +kernel
theorem dX3_send_104 : decode cX3_send 104 = .ok (.iload_n 1, 1) := by decide +kernel
theorem dX3_send_105 : decode cX3_send 105 = .ok (.sipush 160, 3) := by decide +kernel
theorem dX3_send_108 : decode cX3_send 108 = .ok (.sipush 253, 3) := by decide +kernel
theorem dX3_send_111 : decode cX3_send 111 = .ok (.invokestatic 93, 3) := by decide +kernel
theorem dX3_send_114 : decode cX3_send 114 = .ok (.ifCond .eq 15, 3) := by decide +kernel
theorem dX3_send_117 : decode cX3_send 117 = .ok (.aload_n 0, 1) := by decide +kernel
theorem dX3_send_118 : decode cX3_send 118 = .ok (.iload 4, 2) := by decide +kernel
theorem dX3_send_120 : decode cX3_send 120 = .ok (.iload_n 1, 1) := by decide +kernel
theorem dX3_send_121 : decode cX3_send 121 = .ok (.iload_n 2, 1) := by decide +kernel
theorem dX3_send_122 : decode cX3_send 122 = .ok (.iload_n 3, 1) := by decide +kernel
theorem dX3_send_123 : decode cX3_send 123 = .ok (.invokevirtual 146, 3) := by decide +kernel
theorem dX3_send_126 : decode cX3_send 126 = .ok (.goto 56, 3) := by decide +kernel
theorem dX3_send_129 : decode cX3_send 129 = .ok (.aload_n 0, 1) := by decide +kernel
theorem dX3_send_130 : decode cX3_send 130 = .ok (.iload 4, 2) := by decide +kernel
theorem dX3_send_132 : decode cX3_send 132 = .ok (.iload_n 1, 1) := by decide +kernel
theorem dX3_send_133 : decode cX3_send 133 = .ok (.invokevirtual 150, 3) := by decide +kernel
theorem dX3_send_136 : decode cX3_send 136 = .ok (.ifCond .eq 46, 3) := by decide +kernel
theorem dX3_send_139 : decode cX3_send 139 = .ok (.iload_n 1, 1) := by decide +kernel
theorem dX3_send_140 : decode cX3_send 140 = .ok (.iconst 2, 1) := by decide +kernel
theorem dX3_send_141 : decode cX3_send 141 = .ok (.irem, 1) := by decide +kernel
theorem dX3_send_142 : decode cX3_send 142 = .ok (.iconst 1, 1) := by decide +kernel
theorem dX3_send_143 : decode cX3_send 143 = .ok (.if_icmp .ne 14, 3) := by decide +kernel
theorem dX3_send_146 : decode cX3_send 146 = .ok (.aload_n 0, 1) := by decide +kernel
theorem dX3_send_147 : decode cX3_send 147 = .ok (.iload 4, 2) := by decide +kernel
theorem dX3_send_149 : decode cX3_send 149 = .ok (.iload_n 2, 1) := by decide +kernel
theorem dX3_send_150 : decode cX3_send 150 = .ok (.iload_n 3, 1) := by decide +kernel
theorem dX3_send_151 : decode cX3_send 151 = .ok (.invokevirtual 154, 3) := by decide +kernel
theorem dX3_send_154 : decode cX3_send 154 = .ok (.goto 28, 3) := by decide +kernel
theorem dX3_send_157 : decode cX3_send 157 = .ok (.iload_n 2, 1) := by decide +kernel
theorem dX3_send_158 : decode cX3_send 158 = .ok (.sipush 255, 3) := by decide +kernel
theorem dX3_send_161 : decode cX3_send 161 = .ok (.if_icmp .ne 14, 3) := by decide +kernel
theorem dX3_send_164 : decode cX3_send 164 = .ok (.aload_n 0, 1) := by decide +kernel
theorem dX3_send_165 : decode cX3_send 165 = .ok (.getfield 59, 3) := by decide +kernel
theorem dX3_send_168 : decode cX3_send 168 = .ok (.iload 4, 2) := by decide +kernel
theorem dX3_send_170 : decode cX3_send 170 = .ok (.iconst (-1), 1) := by decide +kernel
theorem dX3_send_171 : decode cX3_send 171 = .ok (.iastore, 1) := by decide +kernel
theorem dX3_send_172 : decode cX3_send 172 = .ok (.goto 10, 3) := by decide +kernel
theorem dX3_send_175 : decode cX3_send 175 = .ok (.aload_n 0, 1) := by decide +kernel
theorem dX3_send_176 : decode cX3_send 176 = .ok (.iload 4, 2) := by decide +kernel
theorem dX3_send_178 : decode cX3_send 178 = .ok (.iload_n 2, 1) := by decide +kernel
theorem dX3_send_179 : decode cX3_send 179 = .ok (.invokevirtual 111, 3) := by decide +kernel
theorem dX3_send_182 : decode cX3_send 182 = .ok (.iinc 4 1, 3) := by decide +kernel
theorem dX3_send_185 : decode cX3_send 185 = .ok (.goto (-90), 3) := by decide +kernel
theorem dX3_send_188 : decode cX3_send 188 = .ok (.aload_n 0, 1) := by decide +kernel
theorem dX3_send_189 : decode cX3_send 189 = .ok (.getfield 105, 3) := by decide +kernel
theorem dX3_send_192 : decode cX3_send 192 = .ok (.ireturn, 1) := by decide +kernel
theorem dX3_tick_0 : decode cX3_tick 0 = .ok (.iload_n 1, 1) := by decide +kernel
theorem dX3_tick_1 : decode cX3_tick 1 = .ok (.iconst 1, 1) := by decide +kernel
theorem dX3_tick_2 : decode cX3_tick 2 = .ok (.sipush 2000, 3) := by decide +kernel
theorem dX3_tick_5 : decode cX3_tick 5 = .ok (.invokestatic 93, 3) := by decide +kernel
theorem dX3_tick_8 : decode cX3_tick 8 = .ok (.ifCond .ne 6, 3) := by decide +kernel
theorem dX3_tick_11 : decode cX3_tick 11 = .ok (.bipush (-2), 2) := by decide +kernel
theorem dX3_tick_13 : decode cX3_tick 13 = .ok (.ireturn, 1) := by decide +kernel
theorem dX3_tick_14 : decode cX3_tick 14 = .ok (.aload_n 0, 1) := by decide +kernel
theorem dX3_tick_15 : decode cX3_tick 15 = .ok (.iconst 0, 1) := by decide +kernel
theorem dX3_tick_16 : decode cX3_tick 16 = .ok (.putfield 133, 3) := by decide +kernel
theorem dX3_tick_19 : decode cX3_tick 19 = .ok (.iconst 0, 1) := by decide +kernel
theorem dX3_tick_20 : decode cX3_tick 20 = .ok (.istore_n 2, 1) := by decide +kernel
theorem dX3_tick_21 : decode cX3_tick 21 = .ok (.iconst 0, 1) := by decide +kernel
theorem dX3_tick_22 : decode cX3_tick 22 = .ok (.istore_n 3, 1) := by decide +kernel
theorem dX3_tick_23 : decode cX3_tick 23 = .ok (.iload_n 3, 1) := by decide +kernel
theorem dX3_tick_24 : decode cX3_tick 24 = .ok (.aload_n 0, 1) := by decide +kernel
theorem dX3_tick_25 : decode cX3_tick 25 = .ok (.getfield 82, 3) := by decide +kernel
theorem dX3_tick_28 : decode cX3_tick 28 = .ok (.if_icmp .ge 129, 3) := by decide +kernel
theorem dX3_tick_31 : decode cX3_tick 31 = .ok (.aload_n 0, 1) := by decide +kernel
theorem dX3_tick_32 : decode cX3_tick 32 = .ok (.getfield 59, 3) := by decide +kernel
theorem dX3_tick_35 : decode cX3_tick 35 = .ok (.iload_n 3, 1) := by decide +kernel
theorem dX3_tick_36 : decode cX3_tick 36 = .ok (.iaload, 1) := by decide +kernel
theorem dX3_tick_37 : decode cX3_tick 37 = .ok (.iconst (-1), 1) := by decide +kernel
theorem dX3_tick_38 : decode cX3_tick 38 = .ok (.if_icmp .eq 113, 3) := by decide +kernel
theorem dX3_tick_41 : decode cX3_tick 41 = .ok (.aload_n 0, 1) := by decide +kernel
theorem dX3_tick_42 : decode cX3_tick 42 = .ok (.getfield 68, 3) := by decide +kernel
theorem dX3_tick_45 : decode cX3_tick 45 = .ok (.iload_n 3, 1) := by decide +kernel
theorem dX3_tick_46 : decode cX3_tick 46 = .ok (.aload_n 0, 1) := by decide +kernel
theorem dX3_tick_47 : decode cX3_tick 47 = .ok (.getfield 68, 3) := by decide +kernel
theorem dX3_tick_50 : decode cX3_tick 50 = .ok (.iload_n 3, 1) := by decide +kernel
theorem dX3_tick_51 : decode cX3_tick 51 = .ok (.iaload, 1) := by decide +kernel
theorem dX3_tick_52 : decode cX3_tick 52 = .ok (.iload_n 1, 1) := by decide +kernel
theorem dX3_tick_53 : decode cX3_tick 53 = .ok (.iadd, 1) := by decide +kernel
theorem dX3_tick_54 : decode cX3_tick 54 = .ok (.iastore, 1) := by decide +kernel
theorem dX3_tick_55 : decode cX3_tick 55 = .ok (.aload_n 0, 1) := by decide +kernel
theorem dX3_tick_56 : decode cX3_tick 56 = .ok (.getfield 68, 3) := by decide +kernel
theorem dX3_tick_59 : decode cX3_tick 59 = .ok (.iload_n 3, 1) := by decide +kernel
theorem dX3_tick_60 : decode cX3_tick 60 = .ok (.iaload, 1) := by decide +kernel
theorem dX3_tick_61 : decode cX3_tick 61 = .ok (.aload_n 0, 1) := by decide +kernel
theorem dX3_tick_62 : decode cX3_tick 62 = .ok (.getfield 65, 3) := by decide +kernel
theorem dX3_tick_65 : decode cX3_tick 65 = .ok (.iload_n 3, 1) := by decide +kernel
theorem dX3_tick_66 : decode cX3_tick 66 = .ok (.iaload, 1) := by decide +kernel
theorem dX3_tick_67 : decode cX3_tick 67 = .ok (.if_icmp .lt 17, 3) := by decide +kernel
theorem dX3_tick_70 : decode cX3_tick 70 = .ok (.aload_n 0, 1) := by decide +kernel
theorem dX3_tick_71 : decode cX3_tick 71 = .ok (.iload_n 3, 1) := by decide +kernel
theorem dX3_tick_72 : decode cX3_tick 72 = .ok (.aload_n 0, 1) := by decide +kernel
theorem dX3_tick_73 : decode cX3_tick 73 = .ok (.getfield 59, 3) := by decide +kernel
theorem dX3_tick_76 : decode cX3_tick 76 = .ok (.iload_n 3, 1) := by decide +kernel
theorem dX3_tick_77 : decode cX3_tick 77 = .ok (.iaload, 1) := by decide +kernel
theorem dX3_tick_78 : decode cX3_tick 78 = .ok (.invokevirtual 101, 3) := by decide +kernel
theorem dX3_tick_81 : decode cX3_tick 81 = .ok (.goto 70, 3) := by decide +kernel
theorem dX3_tick_84 : decode cX3_tick 84 = .ok (.aload_n 0, 1) := by decide +kernel
theorem dX3_tick_85 : decode cX3_tick 85 = .ok (.getfield 62, 3) := by decide +kernel
theorem dX3_tick_88 : decode cX3_tick 88 = .ok (.iload_n 3, 1) := by decide +kernel
theorem dX3_tick_89 : decode cX3_tick 89 = .ok (.iaload, 1) := by decide +kernel
theorem dX3_tick_90 : decode cX3_tick 90 = .ok (.aload_n 0, 1) := by decide +kernel
theorem dX3_tick_91 : decode cX3_tick 91 = .ok (.getfield 59, 3) := by decide +kernel
theorem dX3_tick_94 : decode cX3_tick 94 = .ok (.iload_n 3, 1) := by decide +kernel
theorem dX3_tick_95 : decode cX3_tick 95 = .ok (.iaload, 1) := by decide +kernel
theorem dX3_tick_96 : decode cX3_tick 96 = .ok (.aload_n 0, 1) := by decide +kernel
theorem dX3_tick_97 : decode cX3_tick 97 = .ok (.getfield 62, 3) := by decide +kernel
theorem dX3_tick_100 : decode cX3_tick 100 = .ok (.iload_n 3, 1) := by decide +kernel
theorem dX3_tick_101 : decode cX3_tick 101 = .ok (.iaload, 1) := by decide +kernel
theorem dX3_tick_102 : decode cX3_tick 102 = .ok (.isub, 1) := by decide +kernel
theorem dX3_tick_103 : decode cX3_tick 103 = .ok (.aload_n 0, 1) := by decide +kernel
theorem dX3_tick_104 : decode cX3_tick 104 = .ok (.getfield 68, 3) := by decide +kernel
theorem dX3_tick_107 : decode cX3_tick 107 = .ok (.iload_n 3, 1) := by decide +kernel
theorem dX3_tick_108 : decode cX3_tick 108 = .ok (.iaload, 1) := by decide +kernel
theorem dX3_tick_109 : decode cX3_tick 109 = .ok (.imul, 1) := by decide +kernel
theorem dX3_tick_110 : decode cX3_tick 110 = .ok (.aload_n 0, 1) := by decide +kernel
theorem dX3_tick_111 : decode cX3_tick 111 = .ok (.getfield 65, 3) := by decide +kernel
theorem dX3_tick_114 : decode cX3_tick 114 = .ok (.iload_n 3, 1) := by decide +kernel
theorem dX3_tick_115 : decode cX3_tick 115 = .ok (.iaload, 1) := by decide +kernel
theorem dX3_tick_116 : decode cX3_tick 116 = .ok (.idiv, 1) := by decide +kernel
theorem dX3_tick_117 : decode cX3_tick 117 = .ok (.iadd, 1) := by decide +kernel
theorem dX3_tick_118 : decode cX3_tick 118 = .ok (.istore 4, 2) := by decide +kernel
theorem dX3_tick_120 : decode cX3_tick 120 = .ok (.aload_n 0, 1) := by decide +kernel
theorem dX3_tick_121 : decode cX3_tick 121 = .ok (.getfield 7, 3) := by decide +kernel
theorem dX3_tick_124 : decode cX3_tick 124 = .ok (.iload_n 3, 1) := by decide +kernel
theorem dX3_tick_125 : decode cX3_tick 125 = .ok (.iload 4, 2) := by decide +kernel
theorem dX3_tick_127 : decode cX3_tick 127 = .ok (.aload_n 0, 1) := by decide +kernel
theorem dX3_tick_128 : decode cX3_tick 128 = .ok (.getfield 13, 3) := by decide +kernel
theorem dX3_tick_131 : decode cX3_tick 131 = .ok (.iload_n 3, 1) := by decide +kernel
theorem dX3_tick_132 : decode cX3_tick 132 = .ok (.iaload, 1) := by decide +kernel
theorem dX3_tick_133 : decode cX3_tick 133 = .ok (.if_icmp .ge 12, 3) := by decide +kernel
theorem dX3_tick_136 : decode cX3_tick 136 = .ok (.aload_n 0, 1) := by decide +kernel
theorem dX3_tick_137 : decode cX3_tick 137 = .ok (.getfield 13, 3) := by decide +kernel
theorem dX3_tick_140 : decode cX3_tick 140 = .ok (.iload_n 3, 1) := by decide +kernel
theorem dX3_tick_141 : decode cX3_tick 141 = .ok (.iaload, 1) := by decide +kernel
theorem dX3_tick_142 : decode cX3_tick 142 = .ok (.goto 5, 3) := by decide +kernel
theorem dX3_tick_145 : decode cX3_tick 145 = .ok (.iload 4, 2) := by decide +kernel
theorem dX3_tick_147 : decode cX3_tick 147 = .ok (.iastore, 1) := by decide +kernel
theorem dX3_tick_148 : decode cX3_tick 148 = .ok (.iinc 2 1, 3) := by decide +kernel
theorem dX3_tick_151 : decode cX3_tick 151 = .ok (.iinc 3 1, 3) := by decide +kernel
theorem dX3_tick_154 : decode cX3_tick 154 = .ok (.goto (-131), 3) := by decide +kernel
theorem dX3_tick_157 : decode cX3_tick 157 = .ok (.iload_n 2, 1) := by decide +kernel
theorem dX3_tick_158 : decode cX3_tick 158 = .ok (.ireturn, 1) := by decide +kernel
theorem dX3_power_0 : decode cX3_power 0 = .ok (.iconst 0, 1) := by decide +kernel
theorem dX3_power_1 : decode cX3_power 1 = .ok (.istore_n 1, 1) := by decide +kernel
theorem dX3_power_2 : decode cX3_power 2 = .ok (.iload_n 1, 1) := by decide +kernel
theorem dX3_power_3 : decode cX3_power 3 = .ok (.aload_n 0, 1) := by decide +kernel
theorem dX3_power_4 : decode cX3_power 4 = .ok (.getfield 82, 3) := by decide +kernel
theorem dX3_power_7 : decode cX3_power 7 = .ok (.if_icmp .ge 80, 3) := by decide +kernel
theorem dX3_power_10 : decode cX3_power 10 = .ok (.aload_n 0, 1) := by decide +kernel
theorem dX3_power_11 : decode cX3_power 11 = .ok (.getfield 19, 3) := by decide +kernel
theorem dX3_power_14 : decode cX3_power 14 = .ok (.iload_n 1, 1) := by decide +kernel
theorem dX3_power_15 : decode cX3_power 15 = .ok (.iaload, 1) := by decide +kernel
theorem dX3_power_16 : decode cX3_power 16 = .ok (.istore_n 2, 1) := by decide +kernel
theorem dX3_power_17 : decode cX3_power 17 = .ok (.aload_n 0, 1) := by decide +kernel
theorem dX3_power_18 : decode cX3_power 18 = .ok (.iload_n 1, 1) := by decide +kernel
theorem dX3_power_19 : decode cX3_power 19 = .ok (.iload_n 2, 1) := by decide +kernel
theorem dX3_power_20 : decode cX3_power 20 = .ok (.sipush 255, 3) := by decide +kernel
theorem dX3_power_23 : decode cX3_power 23 = .ok (.if_icmp .ne 12, 3) := by decide +kernel
theorem dX3_power_26 : decode cX3_power 26 = .ok (.aload_n 0, 1) := by decide +kernel
theorem dX3_power_27 : decode cX3_power 27 = .ok (.getfield 7, 3) := by decide +kernel
theorem dX3_power_30 : decode cX3_power 30 = .ok (.iload_n 1, 1) := by decide +kernel
theorem dX3_power_31 : decode cX3_power 31 = .ok (.iaload, 1) := by decide +kernel
theorem dX3_power_32 : decode cX3_power 32 = .ok (.goto 17, 3) := by decide +kernel
theorem dX3_power_35 : decode cX3_power 35 = .ok (.iload_n 2, 1) := by decide +kernel
theorem dX3_power_36 : decode cX3_power 36 = .ok (.ifCond .ne 7, 3) := by decide +kernel
theorem dX3_power_39 : decode cX3_power 39 = .ok (.iconst 0, 1) := by decide +kernel
theorem dX3_power_40 : decode cX3_power 40 = .ok (.goto 9, 3) := by decide +kernel
theorem dX3_power_43 : decode cX3_power 43 = .ok (.aload_n 0, 1) := by decide +kernel
theorem dX3_power_44 : decode cX3_power 44 = .ok (.iload_n 1, 1) := by decide +kernel
theorem dX3_power_45 : decode cX3_power 45 = .ok (.iload_n 2, 1) := by decide +kernel
theorem dX3_power_46 : decode cX3_power 46 = .ok (.invokevirtual 97, 3) := by decide +kernel
theorem dX3_power_49 : decode cX3_power 49 = .ok (.invokevirtual 101, 3) := by decide +kernel
theorem dX3_power_52 : decode cX3_power 52 = .ok (.aload_n 0, 1) := by decide +kernel
theorem dX3_power_53 : decode cX3_power 53 = .ok (.getfield 46, 3) := by decide +kernel
theorem dX3_power_56 : decode cX3_power 56 = .ok (.iload_n 1, 1) := by decide +kernel
theorem dX3_power_57 : decode cX3_power 57 = .ok (.ldc 81, 2) := by decide +kernel
theorem dX3_power_59 : decode cX3_power 59 = .ok (.iastore, 1) := by decide +kernel
theorem dX3_power_60 : decode cX3_power 60 = .ok (.aload_n 0, 1) := by decide +kernel
theorem dX3_power_61 : decode cX3_power 61 = .ok (.getfield 43, 3) := by decide +kernel
theorem dX3_power_64 : decode cX3_power 64 = .ok (.iload_n 1, 1) := by decide +kernel
theorem dX3_power_65 : decode cX3_power 65 = .ok (.iconst 0, 1) := by decide +kernel
theorem dX3_power_66 : decode cX3_power 66 = .ok (.iastore, 1) := by decide +kernel
theorem dX3_power_67 : decode cX3_power 67 = .ok (.aload_n 0, 1) := by decide +kernel
theorem dX3_power_68 : decode cX3_power 68 = .ok (.getfield 52, 3) := by decide +kernel
theorem dX3_power_71 : decode cX3_power 71 = .ok (.iload_n 1, 1) := by decide +kernel
theorem dX3_power_72 : decode cX3_power 72 = .ok (.iconst 0, 1) := by decide +kernel
theorem dX3_power_73 : decode cX3_power 73 = .ok (.bastore, 1) := by decide +kernel
theorem dX3_power_74 : decode cX3_power 74 = .ok (.aload_n 0, 1) := by decide +kernel
theorem dX3_power_75 : decode cX3_power 75 = .ok (.getfield 56, 3) := by decide +kernel
theorem dX3_power_78 : decode cX3_power 78 = .ok (.iload_n 1, 1) := by decide +kernel
theorem dX3_power_79 : decode cX3_power 79 = .ok (.iconst 0, 1) := by decide +kernel
theorem dX3_power_80 : decode cX3_power 80 = .ok (.bastore, 1) := by decide +kernel
theorem dX3_power_81 : decode cX3_power 81 = .ok (.iinc 1 1, 3) := by decide +kernel
theorem dX3_power_84 : decode cX3_power 84 = .ok (.goto (-82), 3) := by decide +kernel
theorem dX3_power_87 : decode cX3_power 87 = .ok (.return_, 1) := by decide +kernel
theorem dX3_fail_0 : decode cX3_fail 0 = .ok (.iconst 0, 1) := by decide +kernel
theorem dX3_fail_1 : decode cX3_fail 1 = .ok (.istore_n 1, 1) := by decide +kernel
theorem dX3_fail_2 : decode cX3_fail 2 = .ok (.iload_n 1, 1) := by decide +kernel
theorem dX3_fail_3 : decode cX3_fail 3 = .ok (.aload_n 0, 1) := by decide +kernel
theorem dX3_fail_4 : decode cX3_fail 4 = .ok (.getfield 82, 3) := by decide +kernel
theorem dX3_fail_7 : decode cX3_fail 7 = .ok (.if_icmp .ge 32, 3) := by decide +kernel
theorem dX3_fail_10 : decode cX3_fail 10 = .ok (.aload_n 0, 1) := by decide +kernel
theorem dX3_fail_11 : decode cX3_fail 11 = .ok (.getfield 22, 3) := by decide +kernel
theorem dX3_fail_14 : decode cX3_fail 14 = .ok (.iload_n 1, 1) := by decide +kernel
theorem dX3_fail_15 : decode cX3_fail 15 = .ok (.iaload, 1) := by decide +kernel
theorem dX3_fail_16 : decode cX3_fail 16 = .ok (.sipush 255, 3) := by decide +kernel
theorem dX3_fail_19 : decode cX3_fail 19 = .ok (.if_icmp .eq 14, 3) := by decide +kernel
theorem dX3_fail_22 : decode cX3_fail 22 = .ok (.aload_n 0, 1) := by decide +kernel
theorem dX3_fail_23 : decode cX3_fail 23 = .ok (.iload_n 1, 1) := by decide +kernel
theorem dX3_fail_24 : decode cX3_fail 24 = .ok (.aload_n 0, 1) := by decide +kernel
theorem dX3_fail_25 : decode cX3_fail 25 = .ok (.getfield 22, 3) := by decide +kernel
theorem dX3_fail_28 : decode cX3_fail 28 = .ok (.iload_n 1, 1) := by decide +kernel
theorem dX3_fail_29 : decode cX3_fail 29 = .ok (.iaload, 1) := by decide +kernel
theorem dX3_fail_30 : decode cX3_fail 30 = .ok (.invokevirtual 111, 3) := by decide +kernel
theorem dX3_fail_33 : decode cX3_fail 33 = .ok (.iinc 1 1, 3) := by decide +kernel
theorem dX3_fail_36 : decode cX3_fail 36 = .ok (.goto (-34), 3) := by decide +kernel
theorem dX3_fail_39 : decode cX3_fail 39 = .ok (.return_, 1) := by decide +kernel
theorem dX3_search_0 : decode cX3_search 0 = .ok (.aload_n 0, 1) := by decide +kernel
theorem dX3_search_1 : decode cX3_search 1 = .ok (.sipush 177, 3) := by decide +kernel
theorem dX3_search_4 : decode cX3_search 4 = .ok (.iload_n 1, 1) := by decide +kernel
theorem dX3_search_5 : decode cX3_search 5 = .ok (.ldc 132, 2) := by decide +kernel
theorem dX3_search_7 : decode cX3_search 7 = .ok (.idiv, 1) := by decide +kernel
theorem dX3_search_8 : decode cX3_search 8 = .ok (.invokevirtual 158, 3) := by decide +kernel
theorem dX3_search_11 : decode cX3_search 11 = .ok (.istore_n 2, 1) := by decide +kernel
theorem dX3_search_12 : decode cX3_search 12 = .ok (.aload_n 0, 1) := by decide +kernel
theorem dX3_search_13 : decode cX3_search 13 = .ok (.sipush 179, 3) := by decide +kernel
theorem dX3_search_16 : decode cX3_search 16 = .ok (.iload_n 1, 1) := by decide +kernel
theorem dX3_search_17 : decode cX3_search 17 = .ok (.sipush 256, 3) := by decide +kernel
theorem dX3_search_20 : decode cX3_search 20 = .ok (.idiv, 1) := by decide +kernel
theorem dX3_search_21 : decode cX3_search 21 = .ok (.sipush 256, 3) := by decide +kernel
theorem dX3_search_24 : decode cX3_search 24 = .ok (.irem, 1) := by decide +kernel
theorem dX3_search_25 : decode cX3_search 25 = .ok (.invokevirtual 158, 3) := by decide +kernel
theorem dX3_search_28 : decode cX3_search 28 = .ok (.istore_n 2, 1) := by decide +kernel
theorem dX3_search_29 : decode cX3_search 29 = .ok (.aload_n 0, 1) := by decide +kernel
theorem dX3_search_30 : decode cX3_search 30 = .ok (.sipush 181, 3) := by decide +kernel
theorem dX3_search_33 : decode cX3_search 33 = .ok (.iload_n 1, 1) := by decide +kernel
theorem dX3_search_34 : decode cX3_search 34 = .ok (.sipush 256, 3) := by decide +kernel
theorem dX3_search_37 : decode cX3_search 37 = .ok (.irem, 1) := by decide +kernel
theorem dX3_search_38 : decode cX3_search 38 = .ok (.invokevirtual 158, 3) := by decide +kernel
theorem dX3_search_41 : decode cX3_search 41 = .ok (.istore_n 2, 1) := by decide +kernel
theorem dX3_search_42 : decode cX3_search 42 = .ok (.aload_n 0, 1) := by decide +kernel
theorem dX3_search_43 : decode cX3_search 43 = .ok (.dup, 1) := by decide +kernel
theorem dX3_search_44 : decode cX3_search 44 = .ok (.getfield 161, 3) := by decide +kernel
theorem dX3_search_47 : decode cX3_search 47 = .ok (.iconst 1, 1) := by decide +kernel
theorem dX3_search_48 : decode cX3_search 48 = .ok (.iadd, 1) := by decide +kernel
theorem dX3_search_49 : decode cX3_search 49 = .ok (.putfield 161, 3) := by decide +kernel
theorem dX3_search_52 : decode cX3_search 52 = .ok (.aload_n 0, 1) := by decide +kernel
theorem dX3_search_53 : decode cX3_search 53 = .ok (.sipush 169, 3) := by decide +kernel
theorem dX3_search_56 : decode cX3_search 56 = .ok (.iconst 0, 1) := by decide +kernel
theorem dX3_search_57 : decode cX3_search 57 = .ok (.invokevirtual 158, 3) := by decide +kernel
theorem dX3_search_60 : decode cX3_search 60 = .ok (.ireturn, 1) := by decide +kernel
theorem dX3_commission_0 : decode cX3_commission 0 = .ok (.iload_n 1, 1) := by decide +kernel
theorem dX3_commission_1 : decode cX3_commission 1 = .ok (.iconst 0, 1) := by decide +kernel
theorem dX3_commission_2 : decode cX3_commission 2 = .ok (.bipush 63, 2) := by decide +kernel
theorem dX3_commission_4 : decode cX3_commission 4 = .ok (.invokestatic 93, 3) := by decide +kernel
theorem dX3_commission_7 : decode cX3_commission 7 = .ok (.ifCond .ne 6, 3) := by decide +kernel
theorem dX3_commission_10 : decode cX3_commission 10 = .ok (.bipush (-2), 2) := by decide +kernel
theorem dX3_commission_12 : decode cX3_commission 12 = .ok (.ireturn, 1) := by decide +kernel
theorem dX3_commission_13 : decode cX3_commission 13 = .ok (.aload_n 0, 1) := by decide +kernel
theorem dX3_commission_14 : decode cX3_commission 14 = .ok (.iconst 0, 1) := by decide +kernel
theorem dX3_commission_15 : decode cX3_commission 15 = .ok (.putfield 161, 3) := by decide +kernel
theorem dX3_commission_18 : decode cX3_commission 18 = .ok (.aload_n 0, 1) := by decide +kernel
theorem dX3_commission_19 : decode cX3_commission 19 = .ok (.sipush 165, 3) := by decide +kernel
theorem dX3_commission_22 : decode cX3_commission 22 = .ok (.iconst 0, 1) := by decide +kernel
theorem dX3_commission_23 : decode cX3_commission 23 = .ok (.invokevirtual 158, 3) := by decide +kernel
theorem dX3_commission_26 : decode cX3_commission 26 = .ok (.istore_n 2, 1) := by decide +kernel
theorem dX3_commission_27 : decode cX3_commission 27 = .ok (.aload_n 0, 1) := by decide +kernel
theorem dX3_commission_28 : decode cX3_commission 28 = .ok (.sipush 165, 3) := by decide +kernel
theorem dX3_commission_31 : decode cX3_commission 31 = .ok (.iconst 0, 1) := by decide +kernel
theorem dX3_commission_32 : decode cX3_commission 32 = .ok (.invokevirtual 158, 3) := by decide +kernel
theorem dX3_commission_35 : decode cX3_commission 35 = .ok (.istore_n 2, 1) := by decide +kernel
theorem dX3_commission_36 : decode cX3_commission 36 = .ok (.aload_n 0, 1) := by decide +kernel
theorem dX3_commission_37 : decode cX3_commission 37 = .ok (.sipush 167, 3) := by decide +kernel
theorem dX3_commission_40 : decode cX3_commission 40 = .ok (.iconst 0, 1) := by decide +kernel
theorem dX3_commission_41 : decode cX3_commission 41 = .ok (.invokevirtual 158, 3) := by decide +kernel
theorem dX3_commission_44 : decode cX3_commission 44 = .ok (.istore_n 2, 1) := by decide +kernel
theorem dX3_commission_45 : decode cX3_commission 45 = .ok (.aload_n 0, 1) := by decide +kernel
theorem dX3_commission_46 : decode cX3_commission 46 = .ok (.sipush 167, 3) := by decide +kernel
theorem dX3_commission_49 : decode cX3_commission 49 = .ok (.iconst 0, 1) := by decide +kernel
theorem dX3_commission_50 : decode cX3_commission 50 = .ok (.invokevirtual 158, 3) := by decide +kernel
theorem dX3_commission_53 : decode cX3_commission 53 = .ok (.istore_n 2, 1) := by decide +kernel
theorem dX3_commission_54 : decode cX3_commission 54 = .ok (.iconst 0, 1) := by decide +kernel
theorem dX3_commission_55 : decode cX3_commission 55 = .ok (.istore_n 3, 1) := by decide +kernel
theorem dX3_commission_56 : decode cX3_commission 56 = .ok (.iload_n 1, 1) := by decide +kernel
theorem dX3_commission_57 : decode cX3_commission 57 = .ok (.iload_n 3, 1) := by decide +kernel
theorem dX3_commission_58 : decode cX3_commission 58 = .ok (.iadd, 1) := by decide +kernel
theorem dX3_commission_59 : decode cX3_commission 59 = .ok (.bipush 64, 2) := by decide +kernel
theorem dX3_commission_61 : decode cX3_commission 61 = .ok (.if_icmp .ge 136, 3) := by decide +kernel
theorem dX3_commission_64 : decode cX3_commission 64 = .ok (.iload_n 3, 1) := by decide +kernel
theorem dX3_commission_65 : decode cX3_commission 65 = .ok (.bipush 20, 2) := by decide +kernel
theorem dX3_commission_67 : decode cX3_commission 67 = .ok (.if_icmp .ge 130, 3) := by decide +kernel
theorem dX3_commission_70 : decode cX3_commission 70 = .ok (.aload_n 0, 1) := by decide +kernel
theorem dX3_commission_71 : decode cX3_commission 71 = .ok (.ldc 81, 2) := by decide +kernel
theorem dX3_commission_73 : decode cX3_commission 73 = .ok (.invokevirtual 164, 3) := by decide +kernel
theorem dX3_commission_76 : decode cX3_commission 76 = .ok (.iconst (-1), 1) := by decide +kernel
theorem dX3_commission_77 : decode cX3_commission 77 = .ok (.if_icmp .eq 120, 3) := by decide +kernel
theorem dX3_commission_80 : decode cX3_commission 80 = .ok (.ldc 81, 2) := by decide +kernel
theorem dX3_commission_82 : decode cX3_commission 82 = .ok (.istore 4, 2) := by decide +kernel
theorem dX3_commission_84 : decode cX3_commission 84 = .ok (.ldc 168, 2) := by decide +kernel
theorem dX3_commission_86 : decode cX3_commission 86 = .ok (.istore 5, 2) := by decide +kernel
theorem dX3_commission_88 : decode cX3_commission 88 = .ok (.iload 5, 2) := by decide +kernel
theorem dX3_commission_90 : decode cX3_commission 90 = .ok (.ifCond .le 32, 3) := by decide +kernel
theorem dX3_commission_93 : decode cX3_commission 93 = .ok (.aload_n 0, 1) := by decide +kernel
theorem dX3_commission_94 : decode cX3_commission 94 = .ok (.iload 4, 2) := by decide +kernel
theorem dX3_commission_96 : decode cX3_commission 96 = .ok (.iload 5, 2) := by decide +kernel
theorem dX3_commission_98 : decode cX3_commission 98 = .ok (.isub, 1) := by decide +kernel
theorem dX3_commission_99 : decode cX3_commission 99 = .ok (.invokevirtual 164, 3) := by decide +kernel
theorem dX3_commission_102 : decode cX3_commission 102 = .ok (.iconst (-1), 1) := by decide +kernel
theorem dX3_commission_103 : decode cX3_commission 103 = .ok (.if_icmp .eq 10, 3) := by decide +kernel
theorem dX3_commission_106 : decode cX3_commission 106 = .ok (.iload 4, 2) := by decide +kernel
theorem dX3_commission_108 : decode cX3_commission 108 = .ok (.iload 5, 2) := by decide +kernel
theorem dX3_commission_110 : decode cX3_commission 110 = .ok (.isub, 1) := by decide +kernel
theorem dX3_commission_111 : decode cX3_commission 111 = .ok (.istore 4, 2) := by decide +kernel
theorem dX3_commission_113 : decode cX3_commission 113 = .ok (.iload 5, 2) := by decide +kernel
theorem dX3_commission_115 : decode cX3_commission 115 = .ok (.iconst 2, 1) := by decide +kernel
theorem dX3_commission_116 : decode cX3_commission 116 = .ok (.idiv, 1) := by decide +kernel
theorem dX3_commission_117 : decode cX3_commission 117 = .ok (.istore 5, 2) := by decide +kernel
theorem dX3_commission_119 : decode cX3_commission 119 = .ok (.goto (-31), 3) := by decide +kernel
theorem dX3_commission_122 : decode cX3_commission 122 = .ok (.aload_n 0, 1) := by decide +kernel
theorem dX3_commission_123 : decode cX3_commission 123 = .ok (.sipush 177, 3) := by decide +kernel
theorem dX3_commission_126 : decode cX3_commission 126 = .ok (.iload 4, 2) := by decide +kernel
theorem dX3_commission_128 : decode cX3_commission 128 = .ok (.ldc 132, 2) := by decide +kernel
theorem dX3_commission_130 : decode cX3_commission 130 = .ok (.idiv, 1) := by decide +kernel
theorem dX3_commission_131 : decode cX3_commission 131 = .ok (.invokevirtual 158, 3) := by decide +kernel
theorem dX3_commission_134 : decode cX3_commission 134 = .ok (.istore_n 2, 1) := by decide +kernel
theorem dX3_commission_135 : decode cX3_commission 135 = .ok (.aload_n 0, 1) := by decide +kernel
theorem dX3_commission_136 : decode cX3_commission 136 = .ok (.sipush 179, 3) := by decide +kernel
theorem dX3_commission_139 : decode cX3_commission 139 = .ok (.iload 4, 2) := by decide +kernel
theorem dX3_commission_141 : decode cX3_commission 141 = .ok (.sipush 256, 3) := by decide +kernel
theorem dX3_commission_144 : decode cX3_commission 144 = .ok (.idiv, 1) := by decide +kernel
theorem dX3_commission_145 : decode cX3_commission 145 = .ok (.sipush 256, 3) := by decide +kernel
theorem dX3_commission_148 : decode cX3_commission 148 = .ok (.irem, 1) := by decide +kernel
theorem dX3_commission_149 : decode cX3_commission 149 = .ok (.invokevirtual 158, 3) := by decide +kernel
theorem dX3_commission_152 : decode cX3_commission 152 = .ok (.istore_n 2, 1) := by decide +kernel
theorem dX3_commission_153 : decode cX3_commission 153 = .ok (.aload_n 0, 1) := by decide +kernel
theorem dX3_commission_154 : decode cX3_commission 154 = .ok (.sipush 181, 3) := by decide +kernel
theorem dX3_commission_157 : decode cX3_commission 157 = .ok (.iload 4, 2) := by decide +kernel
theorem dX3_commission_159 : decode cX3_commission 159 = .ok (.sipush 256, 3) := by decide +kernel
theorem dX3_commission_162 : decode cX3_commission 162 = .ok (.irem, 1) := by decide +kernel
theorem dX3_commission_163 : decode cX3_commission 163 = .ok (.invokevirtual 158, 3) := by decide +kernel
theorem dX3_commission_166 : decode cX3_commission 166 = .ok (.istore_n 2, 1) := by decide +kernel
theorem dX3_commission_167 : decode cX3_commission 167 = .ok (.aload_n 0, 1) := by decide +kernel
theorem dX3_commission_168 : decode cX3_commission 168 = .ok (.sipush 183, 3) := by decide +kernel
theorem dX3_commission_171 : decode cX3_commission 171 = .ok (.iconst 2, 1) := by decide +kernel
theorem dX3_commission_172 : decode cX3_commission 172 = .ok (.iload_n 1, 1) := by decide +kernel
theorem dX3_commission_173 : decode cX3_commission 173 = .ok (.iload_n 3, 1) := by decide +kernel
theorem dX3_commission_174 : decode cX3_commission 174 = .ok (.iadd, 1) := by decide +kernel
theorem dX3_commission_175 : decode cX3_commission 175 = .ok (.imul, 1) := by decide +kernel
theorem dX3_commission_176 : decode cX3_commission 176 = .ok (.iconst 1, 1) := by decide +kernel
theorem dX3_commission_177 : decode cX3_commission 177 = .ok (.iadd, 1) := by decide +kernel
theorem dX3_commission_178 : decode cX3_commission 178 = .ok (.invokevirtual 158, 3) := by decide +kernel
theorem dX3_commission_181 : decode cX3_commission 181 = .ok (.istore_n 2, 1) := by decide +kernel
theorem dX3_commission_182 : decode cX3_commission 182 = .ok (.aload_n 0, 1) := by decide +kernel
theorem dX3_commission_183 : decode cX3_commission 183 = .ok (.sipush 171, 3) := by decide +kernel
theorem dX3_commission_186 : decode cX3_commission 186 = .ok (.iconst 0, 1) := by decide +kernel
theorem dX3_commission_187 : decode cX3_commission 187 = .ok (.invokevirtual 158, 3) := by decide +kernel
theorem dX3_commission_190 : decode cX3_commission 190 = .ok (.istore_n 2, 1) := by decide +kernel
theorem dX3_commission_191 : decode cX3_commission 191 = .ok (.iinc 3 1, 3) := by decide +kernel
theorem dX3_commission_194 : decode cX3_commission 194 = .ok (.goto (-138), 3) := by decide +kernel
theorem dX3_commission_197 : decode cX3_commission 197 = .ok (.aload_n 0, 1) := by decide +kernel
theorem dX3_commission_198 : decode cX3_commission 198 = .ok (.sipush 161, 3) := by decide +kernel
theorem dX3_commission_201 : decode cX3_commission 201 = .ok (.iconst 0, 1) := by decide +kernel
theorem dX3_commission_202 : decode cX3_commission 202 = .ok (.invokevirtual 158, 3) := by decide +kernel
theorem dX3_commission_205 : decode cX3_commission 205 = .ok (.istore_n 2, 1) := by decide +kernel
theorem dX3_commission_206 : decode cX3_commission 206 = .ok (.iload_n 3, 1) := by decide +kernel
theorem dX3_commission_207 : decode cX3_commission 207 = .ok (.ireturn, 1) := by decide +kernel
theorem dX3_compares_0 : decode cX3_compares 0 = .ok (.aload_n 0, 1) := by decide +kernel
theorem dX3_compares_1 : decode cX3_compares 1 = .ok (.getfield 161, 3) := by decide +kernel
theorem dX3_compares_4 : decode cX3_compares 4 = .ok (.ireturn, 1) := by decide +kernel
theorem dX3_told_0 : decode cX3_told 0 = .ok (.aload_n 0, 1) := by decide +kernel
theorem dX3_told_1 : decode cX3_told 1 = .ok (.iload_n 1, 1) := by decide +kernel
theorem dX3_told_2 : decode cX3_told 2 = .ok (.invokevirtual 89, 3) := by decide +kernel
theorem dX3_told_5 : decode cX3_told 5 = .ok (.ifCond .eq 6, 3) := by decide +kernel
theorem dX3_told_8 : decode cX3_told 8 = .ok (.bipush (-2), 2) := by decide +kernel
theorem dX3_told_10 : decode cX3_told 10 = .ok (.ireturn, 1) := by decide +kernel
theorem dX3_told_11 : decode cX3_told 11 = .ok (.iload_n 2, 1) := by decide +kernel
theorem dX3_told_12 : decode cX3_told 12 = .ok (.bipush 16, 2) := by decide +kernel
theorem dX3_told_14 : decode cX3_told 14 = .ok (.bipush 31, 2) := by decide +kernel
theorem dX3_told_16 : decode cX3_told 16 = .ok (.invokestatic 93, 3) := by decide +kernel
theorem dX3_told_19 : decode cX3_told 19 = .ok (.ifCond .eq 18, 3) := by decide +kernel
theorem dX3_told_22 : decode cX3_told 22 = .ok (.aload_n 0, 1) := by decide +kernel
theorem dX3_told_23 : decode cX3_told 23 = .ok (.getfield 34, 3) := by decide +kernel
theorem dX3_told_26 : decode cX3_told 26 = .ok (.bipush 16, 2) := by decide +kernel
theorem dX3_told_28 : decode cX3_told 28 = .ok (.iload_n 1, 1) := by decide +kernel
theorem dX3_told_29 : decode cX3_told 29 = .ok (.imul, 1) := by decide +kernel
theorem dX3_told_30 : decode cX3_told 30 = .ok (.iload_n 2, 1) := by decide +kernel
theorem dX3_told_31 : decode cX3_told 31 = .ok (.iadd, 1) := by decide +kernel
theorem dX3_told_32 : decode cX3_told 32 = .ok (.bipush 16, 2) := by decide +kernel
theorem dX3_told_34 : decode cX3_told 34 = .ok (.isub, 1) := by decide +kernel
theorem dX3_told_35 : decode cX3_told 35 = .ok (.iaload, 1) := by decide +kernel
theorem dX3_told_36 : decode cX3_told 36 = .ok (.ireturn, 1) := by decide +kernel
theorem dX3_told_37 : decode cX3_told 37 = .ok (.iload_n 2, 1) := by decide +kernel
theorem dX3_told_38 : decode cX3_told 38 = .ok (.tableswitch 195 0 14 #[74, 81, 88, 95, 102, 109, 116, 123, 130, 137, 144, 151, 158, 173, 188], 74) := by decide +kernel
theorem dX3_told_112 : decode cX3_told 112 = .ok (.aload_n 0, 1) := by decide +kernel
theorem dX3_told_113 : decode cX3_told 113 = .ok (.getfield 7, 3) := by decide +kernel
theorem dX3_told_116 : decode cX3_told 116 = .ok (.iload_n 1, 1) := by decide +kernel
theorem dX3_told_117 : decode cX3_told 117 = .ok (.iaload, 1) := by decide +kernel
theorem dX3_told_118 : decode cX3_told 118 = .ok (.ireturn, 1) := by decide +kernel
theorem dX3_told_119 : decode cX3_told 119 = .ok (.aload_n 0, 1) := by decide +kernel
theorem dX3_told_120 : decode cX3_told 120 = .ok (.getfield 13, 3) := by decide +kernel
theorem dX3_told_123 : decode cX3_told 123 = .ok (.iload_n 1, 1) := by decide +kernel
theorem dX3_told_124 : decode cX3_told 124 = .ok (.iaload, 1) := by decide +kernel
theorem dX3_told_125 : decode cX3_told 125 = .ok (.ireturn, 1) := by decide +kernel
theorem dX3_told_126 : decode cX3_told 126 = .ok (.aload_n 0, 1) := by decide +kernel
theorem dX3_told_127 : decode cX3_told 127 = .ok (.getfield 16, 3) := by decide +kernel
theorem dX3_told_130 : decode cX3_told 130 = .ok (.iload_n 1, 1) := by decide +kernel
theorem dX3_told_131 : decode cX3_told 131 = .ok (.iaload, 1) := by decide +kernel
theorem dX3_told_132 : decode cX3_told 132 = .ok (.ireturn, 1) := by decide +kernel
theorem dX3_told_133 : decode cX3_told 133 = .ok (.aload_n 0, 1) := by decide +kernel
theorem dX3_told_134 : decode cX3_told 134 = .ok (.getfield 19, 3) := by decide +kernel
theorem dX3_told_137 : decode cX3_told 137 = .ok (.iload_n 1, 1) := by decide +kernel
theorem dX3_told_138 : decode cX3_told 138 = .ok (.iaload, 1) := by decide +kernel
theorem dX3_told_139 : decode cX3_told 139 = .ok (.ireturn, 1) := by decide +kernel
theorem dX3_told_140 : decode cX3_told 140 = .ok (.aload_n 0, 1) := by decide +kernel
theorem dX3_told_141 : decode cX3_told 141 = .ok (.getfield 22, 3) := by decide +kernel
theorem dX3_told_144 : decode cX3_told 144 = .ok (.iload_n 1, 1) := by decide +kernel
theorem dX3_told_145 : decode cX3_told 145 = .ok (.iaload, 1) := by decide +kernel
theorem dX3_told_146 : decode cX3_told 146 = .ok (.ireturn, 1) := by decide +kernel
theorem dX3_told_147 : decode cX3_told 147 = .ok (.aload_n 0, 1) := by decide +kernel
theorem dX3_told_148 : decode cX3_told 148 = .ok (.getfield 25, 3) := by decide +kernel
theorem dX3_told_151 : decode cX3_told 151 = .ok (.iload_n 1, 1) := by decide +kernel
theorem dX3_told_152 : decode cX3_told 152 = .ok (.iaload, 1) := by decide +kernel
theorem dX3_told_153 : decode cX3_told 153 = .ok (.ireturn, 1) := by decide +kernel
theorem dX3_told_154 : decode cX3_told 154 = .ok (.aload_n 0, 1) := by decide +kernel
theorem dX3_told_155 : decode cX3_told 155 = .ok (.getfield 28, 3) := by decide +kernel
theorem dX3_told_158 : decode cX3_told 158 = .ok (.iload_n 1, 1) := by decide +kernel
theorem dX3_told_159 : decode cX3_told 159 = .ok (.iaload, 1) := by decide +kernel
theorem dX3_told_160 : decode cX3_told 160 = .ok (.ireturn, 1) := by decide +kernel
theorem dX3_told_161 : decode cX3_told 161 = .ok (.aload_n 0, 1) := by decide +kernel
theorem dX3_told_162 : decode cX3_told 162 = .ok (.getfield 31, 3) := by decide +kernel
theorem dX3_told_165 : decode cX3_told 165 = .ok (.iload_n 1, 1) := by decide +kernel
theorem dX3_told_166 : decode cX3_told 166 = .ok (.iaload, 1) := by decide +kernel
theorem dX3_told_167 : decode cX3_told 167 = .ok (.ireturn, 1) := by decide +kernel
theorem dX3_told_168 : decode cX3_told 168 = .ok (.aload_n 0, 1) := by decide +kernel
theorem dX3_told_169 : decode cX3_told 169 = .ok (.getfield 37, 3) := by decide +kernel
theorem dX3_told_172 : decode cX3_told 172 = .ok (.iload_n 1, 1) := by decide +kernel
theorem dX3_told_173 : decode cX3_told 173 = .ok (.iaload, 1) := by decide +kernel
theorem dX3_told_174 : decode cX3_told 174 = .ok (.ireturn, 1) := by decide +kernel
theorem dX3_told_175 : decode cX3_told 175 = .ok (.aload_n 0, 1) := by decide +kernel
theorem dX3_told_176 : decode cX3_told 176 = .ok (.getfield 40, 3) := by decide +kernel
theorem dX3_told_179 : decode cX3_told 179 = .ok (.iload_n 1, 1) := by decide +kernel
theorem dX3_told_180 : decode cX3_told 180 = .ok (.iaload, 1) := by decide +kernel
theorem dX3_told_181 : decode cX3_told 181 = .ok (.ireturn, 1) := by decide +kernel
theorem dX3_told_182 : decode cX3_told 182 = .ok (.aload_n 0, 1) := by decide +kernel
theorem dX3_told_183 : decode cX3_told 183 = .ok (.getfield 43, 3) := by decide +kernel
theorem dX3_told_186 : decode cX3_told 186 = .ok (.iload_n 1, 1) := by decide +kernel
theorem dX3_told_187 : decode cX3_told 187 = .ok (.iaload, 1) := by decide +kernel
theorem dX3_told_188 : decode cX3_told 188 = .ok (.ireturn, 1) := by decide +kernel
theorem dX3_told_189 : decode cX3_told 189 = .ok (.aload_n 0, 1) := by decide +kernel
theorem dX3_told_190 : decode cX3_told 190 = .ok (.getfield 46, 3) := by decide +kernel
theorem dX3_told_193 : decode cX3_told 193 = .ok (.iload_n 1, 1) := by decide +kernel
theorem dX3_told_194 : decode cX3_told 194 = .ok (.iaload, 1) := by decide +kernel
theorem dX3_told_195 : decode cX3_told 195 = .ok (.ireturn, 1) := by decide +kernel
theorem dX3_told_196 : decode cX3_told 196 = .ok (.aload_n 0, 1) := by decide +kernel
theorem dX3_told_197 : decode cX3_told 197 = .ok (.getfield 52, 3) := by decide +kernel
theorem dX3_told_200 : decode cX3_told 200 = .ok (.iload_n 1, 1) := by decide +kernel
theorem dX3_told_201 : decode cX3_told 201 = .ok (.baload, 1) := by decide +kernel
theorem dX3_told_202 : decode cX3_told 202 = .ok (.ifCond .eq 7, 3) := by decide +kernel
theorem dX3_told_205 : decode cX3_told 205 = .ok (.iconst 1, 1) := by decide +kernel
theorem dX3_told_206 : decode cX3_told 206 = .ok (.goto 4, 3) := by decide +kernel
theorem dX3_told_209 : decode cX3_told 209 = .ok (.iconst 0, 1) := by decide +kernel
theorem dX3_told_210 : decode cX3_told 210 = .ok (.ireturn, 1) := by decide +kernel
theorem dX3_told_211 : decode cX3_told 211 = .ok (.aload_n 0, 1) := by decide +kernel
theorem dX3_told_212 : decode cX3_told 212 = .ok (.getfield 56, 3) := by decide +kernel
theorem dX3_told_215 : decode cX3_told 215 = .ok (.iload_n 1, 1) := by decide +kernel
theorem dX3_told_216 : decode cX3_told 216 = .ok (.baload, 1) := by decide +kernel
theorem dX3_told_217 : decode cX3_told 217 = .ok (.ifCond .eq 7, 3) := by decide +kernel
theorem dX3_told_220 : decode cX3_told 220 = .ok (.iconst 1, 1) := by decide +kernel
theorem dX3_told_221 : decode cX3_told 221 = .ok (.goto 4, 3) := by decide +kernel
theorem dX3_told_224 : decode cX3_told 224 = .ok (.iconst 0, 1) := by decide +kernel
theorem dX3_told_225 : decode cX3_told 225 = .ok (.ireturn, 1) := by decide +kernel
theorem dX3_told_226 : decode cX3_told 226 = .ok (.aload_n 0, 1) := by decide +kernel
theorem dX3_told_227 : decode cX3_told 227 = .ok (.getfield 59, 3) := by decide +kernel
theorem dX3_told_230 : decode cX3_told 230 = .ok (.iload_n 1, 1) := by decide +kernel
theorem dX3_told_231 : decode cX3_told 231 = .ok (.iaload, 1) := by decide +kernel
theorem dX3_told_232 : decode cX3_told 232 = .ok (.ireturn, 1) := by decide +kernel
theorem dX3_told_233 : decode cX3_told 233 = .ok (.bipush (-2), 2) := by decide +kernel
theorem dX3_told_235 : decode cX3_told 235 = .ok (.ireturn, 1) := by decide +kernel
theorem dX3_frames_0 : decode cX3_frames 0 = .ok (.aload_n 0, 1) := by decide +kernel
theorem dX3_frames_1 : decode cX3_frames 1 = .ok (.getfield 143, 3) := by decide +kernel
theorem dX3_frames_4 : decode cX3_frames 4 = .ok (.ireturn, 1) := by decide +kernel
theorem dJ9_max_7cf53_0 : decode cJ9_max_7cf53 0 = .ok (.iload_n 0, 1) := by decide +kernel
theorem dJ9_max_7cf53_1 : decode cJ9_max_7cf53 1 = .ok (.iload_n 1, 1) := by decide +kernel
theorem dJ9_max_7cf53_2 : decode cJ9_max_7cf53 2 = .ok (.if_icmp .lt 7, 3) := by decide +kernel
theorem dJ9_max_7cf53_5 : decode cJ9_max_7cf53 5 = .ok (.iload_n 0, 1) := by decide +kernel
theorem dJ9_max_7cf53_6 : decode cJ9_max_7cf53 6 = .ok (.goto 4, 3) := by decide +kernel
theorem dJ9_max_7cf53_9 : decode cJ9_max_7cf53 9 = .ok (.iload_n 1, 1) := by decide +kernel
theorem dJ9_max_7cf53_10 : decode cJ9_max_7cf53 10 = .ok (.ireturn, 1) := by decide +kernel
theorem dJ9_min_7cf53_0 : decode cJ9_min_7cf53 0 = .ok (.iload_n 0, 1) := by decide +kernel
theorem dJ9_min_7cf53_1 : decode cJ9_min_7cf53 1 = .ok (.iload_n 1, 1) := by decide +kernel
theorem dJ9_min_7cf53_2 : decode cJ9_min_7cf53 2 = .ok (.if_icmp .gt 7, 3) := by decide +kernel
theorem dJ9_min_7cf53_5 : decode cJ9_min_7cf53 5 = .ok (.iload_n 0, 1) := by decide +kernel
theorem dJ9_min_7cf53_6 : decode cJ9_min_7cf53 6 = .ok (.goto 4, 3) := by decide +kernel
theorem dJ9_min_7cf53_9 : decode cJ9_min_7cf53 9 = .ok (.iload_n 1, 1) := by decide +kernel
theorem dJ9_min_7cf53_10 : decode cJ9_min_7cf53 10 = .ok (.ireturn, 1) := by decide +kernel
theorem dJxa1e45_init_da8c8_0 : decode cJxa1e45_init_da8c8 0 = .ok (.aload_n 0, 1) := by decide +kernel
theorem dJxa1e45_init_da8c8_1 : decode cJxa1e45_init_da8c8 1 = .ok (.invokespecial 1, 3) := by decide +kernel
theorem dJxa1e45_init_da8c8_4 : decode cJxa1e45_init_da8c8 4 = .ok (.return_, 1) := by decide +kernel
theorem dJxc12de_init_da8c8_0 : decode cJxc12de_init_da8c8 0 = .ok (.aload_n 0, 1) := by decide +kernel
theorem dJxc12de_init_da8c8_1 : decode cJxc12de_init_da8c8 1 = .ok (.invokespecial 1, 3) := by decide +kernel
theorem dJxc12de_init_da8c8_4 : decode cJxc12de_init_da8c8 4 = .ok (.aload_n 0, 1) := by decide +kernel
theorem dJxc12de_init_da8c8_5 : decode cJxc12de_init_da8c8 5 = .ok (.iconst 0, 1) := by decide +kernel
theorem dJxc12de_init_da8c8_6 : decode cJxc12de_init_da8c8 6 = .ok (.putfield 7, 3) := by decide +kernel
theorem dJxc12de_init_da8c8_9 : decode cJxc12de_init_da8c8 9 = .ok (.return_, 1) := by decide +kernel
theorem dJx4a65c_init_da8c8_0 : decode cJx4a65c_init_da8c8 0 = .ok (.aload_n 0, 1) := by decide +kernel
theorem dJx4a65c_init_da8c8_1 : decode cJx4a65c_init_da8c8 1 = .ok (.invokespecial 1, 3) := by decide +kernel
theorem dJx4a65c_init_da8c8_4 : decode cJx4a65c_init_da8c8 4 = .ok (.aload_n 0, 1) := by decide +kernel
theorem dJx4a65c_init_da8c8_5 : decode cJx4a65c_init_da8c8 5 = .ok (.getstatic 39, 3) := by decide +kernel
theorem dJx4a65c_init_da8c8_8 : decode cJx4a65c_init_da8c8 8 = .ok (.putfield 9, 3) := by decide +kernel
theorem dJx4a65c_init_da8c8_11 : decode cJx4a65c_init_da8c8 11 = .ok (.return_, 1) := by decide +kernel
theorem dJx4a65c_grow_92f84_0 : decode cJx4a65c_grow_92f84 0 = .ok (.aload_n 0, 1) := by decide +kernel
theorem dJx4a65c_grow_92f84_1 : decode cJx4a65c_grow_92f84 1 = .ok (.getfield 9, 3) := by decide +kernel
theorem dJx4a65c_grow_92f84_4 : decode cJx4a65c_grow_92f84 4 = .ok (.arraylength, 1) := by decide +kernel
theorem dJx4a65c_grow_92f84_5 : decode cJx4a65c_grow_92f84 5 = .ok (.istore_n 2, 1) := by decide +kernel
theorem dJx4a65c_grow_92f84_6 : decode cJx4a65c_grow_92f84 6 = .ok (.iload_n 2, 1) := by decide +kernel
theorem dJx4a65c_grow_92f84_7 : decode cJx4a65c_grow_92f84 7 = .ok (.ifCond .gt 13, 3) := by decide +kernel
theorem dJx4a65c_grow_92f84_10 : decode cJx4a65c_grow_92f84 10 = .ok (.aload_n 0, 1) := by decide +kernel
theorem dJx4a65c_grow_92f84_11 : decode cJx4a65c_grow_92f84 11 = .ok (.getfield 9, 3) := by decide +kernel
theorem dJx4a65c_grow_92f84_14 : decode cJx4a65c_grow_92f84 14 = .ok (.getstatic 39, 3) := by decide +kernel
theorem dJx4a65c_grow_92f84_17 : decode cJx4a65c_grow_92f84 17 = .ok (.if_acmp .eq 28, 3) := by decide +kernel
theorem dJx4a65c_grow_92f84_20 : decode cJx4a65c_grow_92f84 20 = .ok (.iload_n 2, 1) := by decide +kernel
theorem dJx4a65c_grow_92f84_21 : decode cJx4a65c_grow_92f84 21 = .ok (.iload_n 1, 1) := by decide +kernel
theorem dJx4a65c_grow_92f84_22 : decode cJx4a65c_grow_92f84 22 = .ok (.iload_n 2, 1) := by decide +kernel
theorem dJx4a65c_grow_92f84_23 : decode cJx4a65c_grow_92f84 23 = .ok (.isub, 1) := by decide +kernel
theorem dJx4a65c_grow_92f84_24 : decode cJx4a65c_grow_92f84 24 = .ok (.iload_n 2, 1) := by decide +kernel
theorem dJx4a65c_grow_92f84_25 : decode cJx4a65c_grow_92f84 25 = .ok (.iconst 1, 1) := by decide +kernel
theorem dJx4a65c_grow_92f84_26 : decode cJx4a65c_grow_92f84 26 = .ok (.ishr, 1) := by decide +kernel
theorem dJx4a65c_grow_92f84_27 : decode cJx4a65c_grow_92f84 27 = .ok (.invokestatic 73, 3) := by decide +kernel
theorem dJx4a65c_grow_92f84_30 : decode cJx4a65c_grow_92f84 30 = .ok (.istore_n 3, 1) := by decide +kernel
theorem dJx4a65c_grow_92f84_31 : decode cJx4a65c_grow_92f84 31 = .ok (.aload_n 0, 1) := by decide +kernel
theorem dJx4a65c_grow_92f84_32 : decode cJx4a65c_grow_92f84 32 = .ok (.aload_n 0, 1) := by decide +kernel
theorem dJx4a65c_grow_92f84_33 : decode cJx4a65c_grow_92f84 33 = .ok (.getfield 9, 3) := by decide +kernel
theorem dJx4a65c_grow_92f84_36 : decode cJx4a65c_grow_92f84 36 = .ok (.iload_n 3, 1) := by decide +kernel
theorem dJx4a65c_grow_92f84_37 : decode cJx4a65c_grow_92f84 37 = .ok (.invokestatic 66, 3) := by decide +kernel
theorem dJx4a65c_grow_92f84_40 : decode cJx4a65c_grow_92f84 40 = .ok (.dup_x1, 1) := by decide +kernel
theorem dJx4a65c_grow_92f84_41 : decode cJx4a65c_grow_92f84 41 = .ok (.putfield 9, 3) := by decide +kernel
theorem dJx4a65c_grow_92f84_44 : decode cJx4a65c_grow_92f84 44 = .ok (.areturn, 1) := by decide +kernel
theorem dJx4a65c_grow_92f84_45 : decode cJx4a65c_grow_92f84 45 = .ok (.aload_n 0, 1) := by decide +kernel
theorem dJx4a65c_grow_92f84_46 : decode cJx4a65c_grow_92f84 46 = .ok (.bipush 10, 2) := by decide +kernel
theorem dJx4a65c_grow_92f84_48 : decode cJx4a65c_grow_92f84 48 = .ok (.iload_n 1, 1) := by decide +kernel
theorem dJx4a65c_grow_92f84_49 : decode cJx4a65c_grow_92f84 49 = .ok (.invokestatic 79, 3) := by decide +kernel
theorem dJx4a65c_grow_92f84_52 : decode cJx4a65c_grow_92f84 52 = .ok (.anewarray 7, 3) := by decide +kernel
theorem dJx4a65c_grow_92f84_55 : decode cJx4a65c_grow_92f84 55 = .ok (.dup_x1, 1) := by decide +kernel
theorem dJx4a65c_grow_92f84_56 : decode cJx4a65c_grow_92f84 56 = .ok (.putfield 9, 3) := by decide +kernel
theorem dJx4a65c_grow_92f84_59 : decode cJx4a65c_grow_92f84 59 = .ok (.areturn, 1) := by decide +kernel
theorem dJx4a65c_grow_d5877_0 : decode cJx4a65c_grow_d5877 0 = .ok (.aload_n 0, 1) := by decide +kernel
theorem dJx4a65c_grow_d5877_1 : decode cJx4a65c_grow_d5877 1 = .ok (.aload_n 0, 1) := by decide +kernel
theorem dJx4a65c_grow_d5877_2 : decode cJx4a65c_grow_d5877 2 = .ok (.getfield 48, 3) := by decide +kernel
theorem dJx4a65c_grow_d5877_5 : decode cJx4a65c_grow_d5877 5 = .ok (.iconst 1, 1) := by decide +kernel
theorem dJx4a65c_grow_d5877_6 : decode cJx4a65c_grow_d5877 6 = .ok (.iadd, 1) := by decide +kernel
theorem dJx4a65c_grow_d5877_7 : decode cJx4a65c_grow_d5877 7 = .ok (.invokevirtual 69, 3) := by decide +kernel
theorem dJx4a65c_grow_d5877_10 : decode cJx4a65c_grow_d5877 10 = .ok (.areturn, 1) := by decide +kernel
theorem dJx4a65c_size_8abf5_0 : decode cJx4a65c_size_8abf5 0 = .ok (.aload_n 0, 1) := by decide +kernel
theorem dJx4a65c_size_8abf5_1 : decode cJx4a65c_size_8abf5 1 = .ok (.getfield 48, 3) := by decide +kernel
theorem dJx4a65c_size_8abf5_4 : decode cJx4a65c_size_8abf5 4 = .ok (.ireturn, 1) := by decide +kernel
theorem dJx4a65c_elementData_915e3_0 : decode cJx4a65c_elementData_915e3 0 = .ok (.aload_n 0, 1) := by decide +kernel
theorem dJx4a65c_elementData_915e3_1 : decode cJx4a65c_elementData_915e3 1 = .ok (.getfield 9, 3) := by decide +kernel
theorem dJx4a65c_elementData_915e3_4 : decode cJx4a65c_elementData_915e3 4 = .ok (.iload_n 1, 1) := by decide +kernel
theorem dJx4a65c_elementData_915e3_5 : decode cJx4a65c_elementData_915e3 5 = .ok (.aaload, 1) := by decide +kernel
theorem dJx4a65c_elementData_915e3_6 : decode cJx4a65c_elementData_915e3 6 = .ok (.areturn, 1) := by decide +kernel
theorem dJx4a65c_get_915e3_0 : decode cJx4a65c_get_915e3 0 = .ok (.iload_n 1, 1) := by decide +kernel
theorem dJx4a65c_get_915e3_1 : decode cJx4a65c_get_915e3 1 = .ok (.aload_n 0, 1) := by decide +kernel
theorem dJx4a65c_get_915e3_2 : decode cJx4a65c_get_915e3 2 = .ok (.getfield 48, 3) := by decide +kernel
theorem dJx4a65c_get_915e3_5 : decode cJx4a65c_get_915e3 5 = .ok (.invokestatic 118, 3) := by decide +kernel
theorem dJx4a65c_get_915e3_8 : decode cJx4a65c_get_915e3 8 = .ok (.pop, 1) := by decide +kernel
theorem dJx4a65c_get_915e3_9 : decode cJx4a65c_get_915e3 9 = .ok (.aload_n 0, 1) := by decide +kernel
theorem dJx4a65c_get_915e3_10 : decode cJx4a65c_get_915e3 10 = .ok (.iload_n 1, 1) := by decide +kernel
theorem dJx4a65c_get_915e3_11 : decode cJx4a65c_get_915e3 11 = .ok (.invokevirtual 123, 3) := by decide +kernel
theorem dJx4a65c_get_915e3_14 : decode cJx4a65c_get_915e3 14 = .ok (.areturn, 1) := by decide +kernel
theorem dJx4a65c_add_72be8_0 : decode cJx4a65c_add_72be8 0 = .ok (.iload_n 3, 1) := by decide +kernel
theorem dJx4a65c_add_72be8_1 : decode cJx4a65c_add_72be8 1 = .ok (.aload_n 2, 1) := by decide +kernel
theorem dJx4a65c_add_72be8_2 : decode cJx4a65c_add_72be8 2 = .ok (.arraylength, 1) := by decide +kernel
theorem dJx4a65c_add_72be8_3 : decode cJx4a65c_add_72be8 3 = .ok (.if_icmp .ne 8, 3) := by decide +kernel
theorem dJx4a65c_add_72be8_6 : decode cJx4a65c_add_72be8 6 = .ok (.aload_n 0, 1) := by decide +kernel
theorem dJx4a65c_add_72be8_7 : decode cJx4a65c_add_72be8 7 = .ok (.invokevirtual 129, 3) := by decide +kernel
theorem dJx4a65c_add_72be8_10 : decode cJx4a65c_add_72be8 10 = .ok (.astore_n 2, 1) := by decide +kernel
theorem dJx4a65c_add_72be8_11 : decode cJx4a65c_add_72be8 11 = .ok (.aload_n 2, 1) := by decide +kernel
theorem dJx4a65c_add_72be8_12 : decode cJx4a65c_add_72be8 12 = .ok (.iload_n 3, 1) := by decide +kernel
theorem dJx4a65c_add_72be8_13 : decode cJx4a65c_add_72be8 13 = .ok (.aload_n 1, 1) := by decide +kernel
theorem dJx4a65c_add_72be8_14 : decode cJx4a65c_add_72be8 14 = .ok (.aastore, 1) := by decide +kernel
theorem dJx4a65c_add_72be8_15 : decode cJx4a65c_add_72be8 15 = .ok (.aload_n 0, 1) := by decide +kernel
theorem dJx4a65c_add_72be8_16 : decode cJx4a65c_add_72be8 16 = .ok (.iload_n 3, 1) := by decide +kernel
theorem dJx4a65c_add_72be8_17 : decode cJx4a65c_add_72be8 17 = .ok (.iconst 1, 1) := by decide +kernel
theorem dJx4a65c_add_72be8_18 : decode cJx4a65c_add_72be8 18 = .ok (.iadd, 1) := by decide +kernel
theorem dJx4a65c_add_72be8_19 : decode cJx4a65c_add_72be8 19 = .ok (.putfield 48, 3) := by decide +kernel
theorem dJx4a65c_add_72be8_22 : decode cJx4a65c_add_72be8 22 = .ok (.return_, 1) := by decide +kernel
theorem dJx4a65c_add_9ea2d_0 : decode cJx4a65c_add_9ea2d 0 = .ok (.aload_n 0, 1) := by decide +kernel
theorem dJx4a65c_add_9ea2d_1 : decode cJx4a65c_add_9ea2d 1 = .ok (.dup, 1) := by decide +kernel
theorem dJx4a65c_add_9ea2d_2 : decode cJx4a65c_add_9ea2d 2 = .ok (.getfield 63, 3) := by decide +kernel
theorem dJx4a65c_add_9ea2d_5 : decode cJx4a65c_add_9ea2d 5 = .ok (.iconst 1, 1) := by decide +kernel
theorem dJx4a65c_add_9ea2d_6 : decode cJx4a65c_add_9ea2d 6 = .ok (.iadd, 1) := by decide +kernel
theorem dJx4a65c_add_9ea2d_7 : decode cJx4a65c_add_9ea2d 7 = .ok (.putfield 63, 3) := by decide +kernel
theorem dJx4a65c_add_9ea2d_10 : decode cJx4a65c_add_9ea2d 10 = .ok (.aload_n 0, 1) := by decide +kernel
theorem dJx4a65c_add_9ea2d_11 : decode cJx4a65c_add_9ea2d 11 = .ok (.aload_n 1, 1) := by decide +kernel
theorem dJx4a65c_add_9ea2d_12 : decode cJx4a65c_add_9ea2d 12 = .ok (.aload_n 0, 1) := by decide +kernel
theorem dJx4a65c_add_9ea2d_13 : decode cJx4a65c_add_9ea2d 13 = .ok (.getfield 9, 3) := by decide +kernel
theorem dJx4a65c_add_9ea2d_16 : decode cJx4a65c_add_9ea2d 16 = .ok (.aload_n 0, 1) := by decide +kernel
theorem dJx4a65c_add_9ea2d_17 : decode cJx4a65c_add_9ea2d 17 = .ok (.getfield 48, 3) := by decide +kernel
theorem dJx4a65c_add_9ea2d_20 : decode cJx4a65c_add_9ea2d 20 = .ok (.invokevirtual 131, 3) := by decide +kernel
theorem dJx4a65c_add_9ea2d_23 : decode cJx4a65c_add_9ea2d 23 = .ok (.iconst 1, 1) := by decide +kernel
theorem dJx4a65c_add_9ea2d_24 : decode cJx4a65c_add_9ea2d 24 = .ok (.ireturn, 1) := by decide +kernel
theorem dJ7_fill_53178_0 : decode cJ7_fill_53178 0 = .ok (.iconst 0, 1) := by decide +kernel
theorem dJ7_fill_53178_1 : decode cJ7_fill_53178 1 = .ok (.istore_n 2, 1) := by decide +kernel
theorem dJ7_fill_53178_2 : decode cJ7_fill_53178 2 = .ok (.aload_n 0, 1) := by decide +kernel
theorem dJ7_fill_53178_3 : decode cJ7_fill_53178 3 = .ok (.arraylength, 1) := by decide +kernel
theorem dJ7_fill_53178_4 : decode cJ7_fill_53178 4 = .ok (.istore_n 3, 1) := by decide +kernel
theorem dJ7_fill_53178_5 : decode cJ7_fill_53178 5 = .ok (.iload_n 2, 1) := by decide +kernel
theorem dJ7_fill_53178_6 : decode cJ7_fill_53178 6 = .ok (.iload_n 3, 1) := by decide +kernel
theorem dJ7_fill_53178_7 : decode cJ7_fill_53178 7 = .ok (.if_icmp .ge 13, 3) := by decide +kernel
theorem dJ7_fill_53178_10 : decode cJ7_fill_53178 10 = .ok (.aload_n 0, 1) := by decide +kernel
theorem dJ7_fill_53178_11 : decode cJ7_fill_53178 11 = .ok (.iload_n 2, 1) := by decide +kernel
theorem dJ7_fill_53178_12 : decode cJ7_fill_53178 12 = .ok (.iload_n 1, 1) := by decide +kernel
theorem dJ7_fill_53178_13 : decode cJ7_fill_53178 13 = .ok (.iastore, 1) := by decide +kernel
theorem dJ7_fill_53178_14 : decode cJ7_fill_53178 14 = .ok (.iinc 2 1, 3) := by decide +kernel
theorem dJ7_fill_53178_17 : decode cJ7_fill_53178 17 = .ok (.goto (-12), 3) := by decide +kernel
theorem dJ7_fill_53178_20 : decode cJ7_fill_53178 20 = .ok (.return_, 1) := by decide +kernel
theorem dJ7_copyOf_1904c_0 : decode cJ7_copyOf_1904c 0 = .ok (.aload_n 0, 1) := by decide +kernel
theorem dJ7_copyOf_1904c_1 : decode cJ7_copyOf_1904c 1 = .ok (.iload_n 1, 1) := by decide +kernel
theorem dJ7_copyOf_1904c_2 : decode cJ7_copyOf_1904c 2 = .ok (.aload_n 0, 1) := by decide +kernel
theorem dJ7_copyOf_1904c_3 : decode cJ7_copyOf_1904c 3 = .ok (.invokevirtual 86, 3) := by decide +kernel
theorem dJ7_copyOf_1904c_6 : decode cJ7_copyOf_1904c 6 = .ok (.invokestatic 300, 3) := by decide +kernel
theorem dJ7_copyOf_1904c_9 : decode cJ7_copyOf_1904c 9 = .ok (.areturn, 1) := by decide +kernel
theorem dJ7_copyOf_6403c_0 : decode cJ7_copyOf_6403c 0 = .ok (.aload_n 2, 1) := by decide +kernel
theorem dJ7_copyOf_6403c_1 : decode cJ7_copyOf_6403c 1 = .ok (.ldc 110, 2) := by decide +kernel
theorem dJ7_copyOf_6403c_3 : decode cJ7_copyOf_6403c 3 = .ok (.if_acmp .ne 10, 3) := by decide +kernel
theorem dJ7_copyOf_6403c_6 : decode cJ7_copyOf_6403c 6 = .ok (.iload_n 1, 1) := by decide +kernel
theorem dJ7_copyOf_6403c_7 : decode cJ7_copyOf_6403c 7 = .ok (.anewarray 2, 3) := by decide +kernel
theorem dJ7_copyOf_6403c_10 : decode cJ7_copyOf_6403c 10 = .ok (.goto 14, 3) := by decide +kernel
theorem dJ7_copyOf_6403c_13 : decode cJ7_copyOf_6403c 13 = .ok (.aload_n 2, 1) := by decide +kernel
theorem dJ7_copyOf_6403c_14 : decode cJ7_copyOf_6403c 14 = .ok (.invokevirtual 90, 3) := by decide +kernel
theorem dJ7_copyOf_6403c_17 : decode cJ7_copyOf_6403c 17 = .ok (.iload_n 1, 1) := by decide +kernel
theorem dJ7_copyOf_6403c_18 : decode cJ7_copyOf_6403c 18 = .ok (.invokestatic 95, 3) := by decide +kernel
theorem dJ7_copyOf_6403c_21 : decode cJ7_copyOf_6403c 21 = .ok (.checkcast 110, 3) := by decide +kernel
theorem dJ7_copyOf_6403c_24 : decode cJ7_copyOf_6403c 24 = .ok (.astore_n 3, 1) := by decide +kernel
theorem dJ7_copyOf_6403c_25 : decode cJ7_copyOf_6403c 25 = .ok (.aload_n 0, 1) := by decide +kernel
theorem dJ7_copyOf_6403c_26 : decode cJ7_copyOf_6403c 26 = .ok (.iconst 0, 1) := by decide +kernel
theorem dJ7_copyOf_6403c_27 : decode cJ7_copyOf_6403c 27 = .ok (.aload_n 3, 1) := by decide +kernel
theorem dJ7_copyOf_6403c_28 : decode cJ7_copyOf_6403c 28 = .ok (.iconst 0, 1) := by decide +kernel
theorem dJ7_copyOf_6403c_29 : decode cJ7_copyOf_6403c 29 = .ok (.aload_n 0, 1) := by decide +kernel
theorem dJ7_copyOf_6403c_30 : decode cJ7_copyOf_6403c 30 = .ok (.arraylength, 1) := by decide +kernel
theorem dJ7_copyOf_6403c_31 : decode cJ7_copyOf_6403c 31 = .ok (.iload_n 1, 1) := by decide +kernel
theorem dJ7_copyOf_6403c_32 : decode cJ7_copyOf_6403c 32 = .ok (.invokestatic 304, 3) := by decide +kernel
theorem dJ7_copyOf_6403c_35 : decode cJ7_copyOf_6403c 35 = .ok (.invokestatic 150, 3) := by decide +kernel
theorem dJ7_copyOf_6403c_38 : decode cJ7_copyOf_6403c 38 = .ok (.aload_n 3, 1) := by decide +kernel
theorem dJ7_copyOf_6403c_39 : decode cJ7_copyOf_6403c 39 = .ok (.areturn, 1) := by decide +kernel
theorem dJ15_checkIndex_7cf53_0 : decode cJ15_checkIndex_7cf53 0 = .ok (.iload_n 0, 1) := by decide +kernel
theorem dJ15_checkIndex_7cf53_1 : decode cJ15_checkIndex_7cf53 1 = .ok (.iload_n 1, 1) := by decide +kernel
theorem dJ15_checkIndex_7cf53_2 : decode cJ15_checkIndex_7cf53 2 = .ok (.aconst_null, 1) := by decide +kernel
theorem dJ15_checkIndex_7cf53_3 : decode cJ15_checkIndex_7cf53 3 = .ok (.invokestatic 105, 3) := by decide +kernel
theorem dJ15_checkIndex_7cf53_6 : decode cJ15_checkIndex_7cf53 6 = .ok (.ireturn, 1) := by decide +kernel
theorem dJ8_newLength_cabcc_0 : decode cJ8_newLength_cabcc 0 = .ok (.iload_n 0, 1) := by decide +kernel
theorem dJ8_newLength_cabcc_1 : decode cJ8_newLength_cabcc 1 = .ok (.iload_n 1, 1) := by decide +kernel
theorem dJ8_newLength_cabcc_2 : decode cJ8_newLength_cabcc 2 = .ok (.iload_n 2, 1) := by decide +kernel
theorem dJ8_newLength_cabcc_3 : decode cJ8_newLength_cabcc 3 = .ok (.invokestatic 194, 3) := by decide +kernel
theorem dJ8_newLength_cabcc_6 : decode cJ8_newLength_cabcc 6 = .ok (.iadd, 1) := by decide +kernel
theorem dJ8_newLength_cabcc_7 : decode cJ8_newLength_cabcc 7 = .ok (.istore_n 3, 1) := by decide +kernel
theorem dJ8_newLength_cabcc_8 : decode cJ8_newLength_cabcc 8 = .ok (.iconst 0, 1) := by decide +kernel
theorem dJ8_newLength_cabcc_9 : decode cJ8_newLength_cabcc 9 = .ok (.iload_n 3, 1) := by decide +kernel
theorem dJ8_newLength_cabcc_10 : decode cJ8_newLength_cabcc 10 = .ok (.if_icmp .ge 11, 3) := by decide +kernel
theorem dJ8_newLength_cabcc_13 : decode cJ8_newLength_cabcc 13 = .ok (.iload_n 3, 1) := by decide +kernel
theorem dJ8_newLength_cabcc_14 : decode cJ8_newLength_cabcc 14 = .ok (.ldc 200, 2) := by decide +kernel
theorem dJ8_newLength_cabcc_16 : decode cJ8_newLength_cabcc 16 = .ok (.if_icmp .gt 5, 3) := by decide +kernel
theorem dJ8_newLength_cabcc_19 : decode cJ8_newLength_cabcc 19 = .ok (.iload_n 3, 1) := by decide +kernel
theorem dJ8_newLength_cabcc_20 : decode cJ8_newLength_cabcc 20 = .ok (.ireturn, 1) := by decide +kernel
theorem dJ8_newLength_cabcc_21 : decode cJ8_newLength_cabcc 21 = .ok (.iload_n 0, 1) := by decide +kernel
theorem dJ8_newLength_cabcc_22 : decode cJ8_newLength_cabcc 22 = .ok (.iload_n 1, 1) := by decide +kernel
theorem dJ8_newLength_cabcc_23 : decode cJ8_newLength_cabcc 23 = .ok (.invokestatic 201, 3) := by decide +kernel
theorem dJ8_newLength_cabcc_26 : decode cJ8_newLength_cabcc 26 = .ok (.ireturn, 1) := by decide +kernel
theorem dJ8_hugeLength_7cf53_0 : decode cJ8_hugeLength_7cf53 0 = .ok (.iload_n 0, 1) := by decide +kernel
theorem dJ8_hugeLength_7cf53_1 : decode cJ8_hugeLength_7cf53 1 = .ok (.iload_n 1, 1) := by decide +kernel
theorem dJ8_hugeLength_7cf53_2 : decode cJ8_hugeLength_7cf53 2 = .ok (.iadd, 1) := by decide +kernel
theorem dJ8_hugeLength_7cf53_3 : decode cJ8_hugeLength_7cf53 3 = .ok (.istore_n 2, 1) := by decide +kernel
theorem dJ8_hugeLength_7cf53_4 : decode cJ8_hugeLength_7cf53 4 = .ok (.iload_n 2, 1) := by decide +kernel
theorem dJ8_hugeLength_7cf53_5 : decode cJ8_hugeLength_7cf53 5 = .ok (.ifCond .ge 44, 3) := by decide +kernel
theorem dJ8_hugeLength_7cf53_8 : decode cJ8_hugeLength_7cf53 8 = .ok (.new 204, 3) := by decide +kernel
theorem dJ8_hugeLength_7cf53_11 : decode cJ8_hugeLength_7cf53 11 = .ok (.dup, 1) := by decide +kernel
theorem dJ8_hugeLength_7cf53_12 : decode cJ8_hugeLength_7cf53 12 = .ok (.new 89, 3) := by decide +kernel
theorem dJ8_hugeLength_7cf53_15 : decode cJ8_hugeLength_7cf53 15 = .ok (.dup, 1) := by decide +kernel
theorem dJ8_hugeLength_7cf53_16 : decode cJ8_hugeLength_7cf53 16 = .ok (.invokespecial 91, 3) := by decide +kernel
theorem dJ8_hugeLength_7cf53_19 : decode cJ8_hugeLength_7cf53 19 = .ok (.ldc 206, 2) := by decide +kernel
theorem dJ8_hugeLength_7cf53_21 : decode cJ8_hugeLength_7cf53 21 = .ok (.invokevirtual 94, 3) := by decide +kernel
theorem dJ8_hugeLength_7cf53_24 : decode cJ8_hugeLength_7cf53 24 = .ok (.iload_n 0, 1) := by decide +kernel
theorem dJ8_hugeLength_7cf53_25 : decode cJ8_hugeLength_7cf53 25 = .ok (.invokevirtual 98, 3) := by decide +kernel
theorem dJ8_hugeLength_7cf53_28 : decode cJ8_hugeLength_7cf53 28 = .ok (.ldc 208, 2) := by decide +kernel
theorem dJ8_hugeLength_7cf53_30 : decode cJ8_hugeLength_7cf53 30 = .ok (.invokevirtual 94, 3) := by decide +kernel
theorem dJ8_hugeLength_7cf53_33 : decode cJ8_hugeLength_7cf53 33 = .ok (.iload_n 1, 1) := by decide +kernel
theorem dJ8_hugeLength_7cf53_34 : decode cJ8_hugeLength_7cf53 34 = .ok (.invokevirtual 98, 3) := by decide +kernel
theorem dJ8_hugeLength_7cf53_37 : decode cJ8_hugeLength_7cf53 37 = .ok (.ldc 210, 2) := by decide +kernel
theorem dJ8_hugeLength_7cf53_39 : decode cJ8_hugeLength_7cf53 39 = .ok (.invokevirtual 94, 3) := by decide +kernel
theorem dJ8_hugeLength_7cf53_42 : decode cJ8_hugeLength_7cf53 42 = .ok (.invokevirtual 101, 3) := by decide +kernel
theorem dJ8_hugeLength_7cf53_45 : decode cJ8_hugeLength_7cf53 45 = .ok (.invokespecial 212, 3) := by decide +kernel
theorem dJ8_hugeLength_7cf53_48 : decode cJ8_hugeLength_7cf53 48 = .ok (.athrow, 1) := by decide +kernel
theorem dJ8_hugeLength_7cf53_49 : decode cJ8_hugeLength_7cf53 49 = .ok (.iload_n 2, 1) := by decide +kernel
theorem dJ8_hugeLength_7cf53_50 : decode cJ8_hugeLength_7cf53 50 = .ok (.ldc 200, 2) := by decide +kernel
theorem dJ8_hugeLength_7cf53_52 : decode cJ8_hugeLength_7cf53 52 = .ok (.if_icmp .gt 6, 3) := by decide +kernel
theorem dJ8_hugeLength_7cf53_55 : decode cJ8_hugeLength_7cf53 55 = .ok (.ldc 200, 2) := by decide +kernel
theorem dJ8_hugeLength_7cf53_57 : decode cJ8_hugeLength_7cf53 57 = .ok (.ireturn, 1) := by decide +kernel
theorem dJ8_hugeLength_7cf53_58 : decode cJ8_hugeLength_7cf53 58 = .ok (.iload_n 2, 1) := by decide +kernel
theorem dJ8_hugeLength_7cf53_59 : decode cJ8_hugeLength_7cf53 59 = .ok (.ireturn, 1) := by decide +kernel
theorem dJ3_checkIndex_8e157_0 : decode cJ3_checkIndex_8e157 0 = .ok (.iload_n 0, 1) := by decide +kernel
theorem dJ3_checkIndex_8e157_1 : decode cJ3_checkIndex_8e157 1 = .ok (.ifCond .lt 8, 3) := by decide +kernel
theorem dJ3_checkIndex_8e157_4 : decode cJ3_checkIndex_8e157 4 = .ok (.iload_n 0, 1) := by decide +kernel
theorem dJ3_checkIndex_8e157_5 : decode cJ3_checkIndex_8e157 5 = .ok (.iload_n 1, 1) := by decide +kernel
theorem dJ3_checkIndex_8e157_6 : decode cJ3_checkIndex_8e157 6 = .ok (.if_icmp .lt 10, 3) := by decide +kernel
theorem dJ3_checkIndex_8e157_9 : decode cJ3_checkIndex_8e157 9 = .ok (.aload_n 2, 1) := by decide +kernel
theorem dJ3_checkIndex_8e157_10 : decode cJ3_checkIndex_8e157 10 = .ok (.iload_n 0, 1) := by decide +kernel
theorem dJ3_checkIndex_8e157_11 : decode cJ3_checkIndex_8e157 11 = .ok (.iload_n 1, 1) := by decide +kernel
theorem dJ3_checkIndex_8e157_12 : decode cJ3_checkIndex_8e157 12 = .ok (.invokestatic 95, 3) := by decide +kernel
theorem dJ3_checkIndex_8e157_15 : decode cJ3_checkIndex_8e157 15 = .ok (.athrow, 1) := by decide +kernel
theorem dJ3_checkIndex_8e157_16 : decode cJ3_checkIndex_8e157 16 = .ok (.iload_n 0, 1) := by decide +kernel
theorem dJ3_checkIndex_8e157_17 : decode cJ3_checkIndex_8e157 17 = .ok (.ireturn, 1) := by decide +kernel
theorem dL_law_0 : decode cL_law 0 = .ok (.new 7, 3) := by decide +kernel
theorem dL_law_3 : decode cL_law 3 = .ok (.dup, 1) := by decide +kernel
theorem dL_law_4 : decode cL_law 4 = .ok (.invokespecial 9, 3) := by decide +kernel
theorem dL_law_7 : decode cL_law 7 = .ok (.astore_n 1, 1) := by decide +kernel
theorem dL_law_8 : decode cL_law 8 = .ok (.new 10, 3) := by decide +kernel
theorem dL_law_11 : decode cL_law 11 = .ok (.dup, 1) := by decide +kernel
theorem dL_law_12 : decode cL_law 12 = .ok (.invokespecial 12, 3) := by decide +kernel
theorem dL_law_15 : decode cL_law 15 = .ok (.astore_n 2, 1) := by decide +kernel
theorem dL_law_16 : decode cL_law 16 = .ok (.iconst 0, 1) := by decide +kernel
theorem dL_law_17 : decode cL_law 17 = .ok (.istore_n 3, 1) := by decide +kernel
theorem dL_law_18 : decode cL_law 18 = .ok (.iload_n 3, 1) := by decide +kernel
theorem dL_law_19 : decode cL_law 19 = .ok (.aload_n 0, 1) := by decide +kernel
theorem dL_law_20 : decode cL_law 20 = .ok (.arraylength, 1) := by decide +kernel
theorem dL_law_21 : decode cL_law 21 = .ok (.iconst 3, 1) := by decide +kernel
theorem dL_law_22 : decode cL_law 22 = .ok (.isub, 1) := by decide +kernel
theorem dL_law_23 : decode cL_law 23 = .ok (.if_icmp .gt 277, 3) := by decide +kernel
theorem dL_law_26 : decode cL_law 26 = .ok (.aload_n 0, 1) := by decide +kernel
theorem dL_law_27 : decode cL_law 27 = .ok (.iload_n 3, 1) := by decide +kernel
theorem dL_law_28 : decode cL_law 28 = .ok (.iaload, 1) := by decide +kernel
theorem dL_law_29 : decode cL_law 29 = .ok (.bipush 15, 2) := by decide +kernel
theorem dL_law_31 : decode cL_law 31 = .ok (.iand, 1) := by decide +kernel
theorem dL_law_32 : decode cL_law 32 = .ok (.tableswitch 262 0 9 #[56, 69, 102, 135, 158, 169, 180, 203, 216, 249], 56) := by decide +kernel
theorem dL_law_88 : decode cL_law 88 = .ok (.aload_n 1, 1) := by decide +kernel
theorem dL_law_89 : decode cL_law 89 = .ok (.invokevirtual 13, 3) := by decide +kernel
theorem dL_law_92 : decode cL_law 92 = .ok (.aload_n 2, 1) := by decide +kernel
theorem dL_law_93 : decode cL_law 93 = .ok (.invokevirtual 17, 3) := by decide +kernel
theorem dL_law_96 : decode cL_law 96 = .ok (.if_icmp .eq 198, 3) := by decide +kernel
theorem dL_law_99 : decode cL_law 99 = .ok (.iconst 0, 1) := by decide +kernel
theorem dL_law_100 : decode cL_law 100 = .ok (.ireturn, 1) := by decide +kernel
theorem dL_law_101 : decode cL_law 101 = .ok (.aload_n 1, 1) := by decide +kernel
theorem dL_law_102 : decode cL_law 102 = .ok (.aload_n 0, 1) := by decide +kernel
theorem dL_law_103 : decode cL_law 103 = .ok (.iload_n 3, 1) := by decide +kernel
theorem dL_law_104 : decode cL_law 104 = .ok (.iconst 1, 1) := by decide +kernel
theorem dL_law_105 : decode cL_law 105 = .ok (.iadd, 1) := by decide +kernel
theorem dL_law_106 : decode cL_law 106 = .ok (.iaload, 1) := by decide +kernel
theorem dL_law_107 : decode cL_law 107 = .ok (.aload_n 0, 1) := by decide +kernel
theorem dL_law_108 : decode cL_law 108 = .ok (.iload_n 3, 1) := by decide +kernel
theorem dL_law_109 : decode cL_law 109 = .ok (.iconst 2, 1) := by decide +kernel
theorem dL_law_110 : decode cL_law 110 = .ok (.iadd, 1) := by decide +kernel
theorem dL_law_111 : decode cL_law 111 = .ok (.iaload, 1) := by decide +kernel
theorem dL_law_112 : decode cL_law 112 = .ok (.invokevirtual 18, 3) := by decide +kernel
theorem dL_law_115 : decode cL_law 115 = .ok (.aload_n 2, 1) := by decide +kernel
theorem dL_law_116 : decode cL_law 116 = .ok (.aload_n 0, 1) := by decide +kernel
theorem dL_law_117 : decode cL_law 117 = .ok (.iload_n 3, 1) := by decide +kernel
theorem dL_law_118 : decode cL_law 118 = .ok (.iconst 1, 1) := by decide +kernel
theorem dL_law_119 : decode cL_law 119 = .ok (.iadd, 1) := by decide +kernel
theorem dL_law_120 : decode cL_law 120 = .ok (.iaload, 1) := by decide +kernel
theorem dL_law_121 : decode cL_law 121 = .ok (.aload_n 0, 1) := by decide +kernel
theorem dL_law_122 : decode cL_law 122 = .ok (.iload_n 3, 1) := by decide +kernel
theorem dL_law_123 : decode cL_law 123 = .ok (.iconst 2, 1) := by decide +kernel
theorem dL_law_124 : decode cL_law 124 = .ok (.iadd, 1) := by decide +kernel
theorem dL_law_125 : decode cL_law 125 = .ok (.iaload, 1) := by decide +kernel
theorem dL_law_126 : decode cL_law 126 = .ok (.invokevirtual 22, 3) := by decide +kernel
theorem dL_law_129 : decode cL_law 129 = .ok (.if_icmp .eq 165, 3) := by decide +kernel
theorem dL_law_132 : decode cL_law 132 = .ok (.iconst 0, 1) := by decide +kernel
theorem dL_law_133 : decode cL_law 133 = .ok (.ireturn, 1) := by decide +kernel
theorem dL_law_134 : decode cL_law 134 = .ok (.aload_n 1, 1) := by decide +kernel
theorem dL_law_135 : decode cL_law 135 = .ok (.aload_n 0, 1) := by decide +kernel
theorem dL_law_136 : decode cL_law 136 = .ok (.iload_n 3, 1) := by decide +kernel
theorem dL_law_137 : decode cL_law 137 = .ok (.iconst 1, 1) := by decide +kernel
theorem dL_law_138 : decode cL_law 138 = .ok (.iadd, 1) := by decide +kernel
theorem dL_law_139 : decode cL_law 139 = .ok (.iaload, 1) := by decide +kernel
theorem dL_law_140 : decode cL_law 140 = .ok (.aload_n 0, 1) := by decide +kernel
theorem dL_law_141 : decode cL_law 141 = .ok (.iload_n 3, 1) := by decide +kernel
theorem dL_law_142 : decode cL_law 142 = .ok (.iconst 2, 1) := by decide +kernel
theorem dL_law_143 : decode cL_law 143 = .ok (.iadd, 1) := by decide +kernel
theorem dL_law_144 : decode cL_law 144 = .ok (.iaload, 1) := by decide +kernel
theorem dL_law_145 : decode cL_law 145 = .ok (.invokevirtual 23, 3) := by decide +kernel
theorem dL_law_148 : decode cL_law 148 = .ok (.aload_n 2, 1) := by decide +kernel
theorem dL_law_149 : decode cL_law 149 = .ok (.aload_n 0, 1) := by decide +kernel
theorem dL_law_150 : decode cL_law 150 = .ok (.iload_n 3, 1) := by decide +kernel
theorem dL_law_151 : decode cL_law 151 = .ok (.iconst 1, 1) := by decide +kernel
theorem dL_law_152 : decode cL_law 152 = .ok (.iadd, 1) := by decide +kernel
theorem dL_law_153 : decode cL_law 153 = .ok (.iaload, 1) := by decide +kernel
theorem dL_law_154 : decode cL_law 154 = .ok (.aload_n 0, 1) := by decide +kernel
theorem dL_law_155 : decode cL_law 155 = .ok (.iload_n 3, 1) := by decide +kernel
theorem dL_law_156 : decode cL_law 156 = .ok (.iconst 2, 1) := by decide +kernel
theorem dL_law_157 : decode cL_law 157 = .ok (.iadd, 1) := by decide +kernel
theorem dL_law_158 : decode cL_law 158 = .ok (.iaload, 1) := by decide +kernel
theorem dL_law_159 : decode cL_law 159 = .ok (.invokevirtual 27, 3) := by decide +kernel
theorem dL_law_162 : decode cL_law 162 = .ok (.if_icmp .eq 132, 3) := by decide +kernel
theorem dL_law_165 : decode cL_law 165 = .ok (.iconst 0, 1) := by decide +kernel
theorem dL_law_166 : decode cL_law 166 = .ok (.ireturn, 1) := by decide +kernel
theorem dL_law_167 : decode cL_law 167 = .ok (.aload_n 1, 1) := by decide +kernel
theorem dL_law_168 : decode cL_law 168 = .ok (.aload_n 0, 1) := by decide +kernel
theorem dL_law_169 : decode cL_law 169 = .ok (.iload_n 3, 1) := by decide +kernel
theorem dL_law_170 : decode cL_law 170 = .ok (.iconst 1, 1) := by decide +kernel
theorem dL_law_171 : decode cL_law 171 = .ok (.iadd, 1) := by decide +kernel
theorem dL_law_172 : decode cL_law 172 = .ok (.iaload, 1) := by decide +kernel
theorem dL_law_173 : decode cL_law 173 = .ok (.invokevirtual 28, 3) := by decide +kernel
theorem dL_law_176 : decode cL_law 176 = .ok (.aload_n 2, 1) := by decide +kernel
theorem dL_law_177 : decode cL_law 177 = .ok (.aload_n 0, 1) := by decide +kernel
theorem dL_law_178 : decode cL_law 178 = .ok (.iload_n 3, 1) := by decide +kernel
theorem dL_law_179 : decode cL_law 179 = .ok (.iconst 1, 1) := by decide +kernel
theorem dL_law_180 : decode cL_law 180 = .ok (.iadd, 1) := by decide +kernel
theorem dL_law_181 : decode cL_law 181 = .ok (.iaload, 1) := by decide +kernel
theorem dL_law_182 : decode cL_law 182 = .ok (.invokevirtual 32, 3) := by decide +kernel
theorem dL_law_185 : decode cL_law 185 = .ok (.if_icmp .eq 109, 3) := by decide +kernel
theorem dL_law_188 : decode cL_law 188 = .ok (.iconst 0, 1) := by decide +kernel
theorem dL_law_189 : decode cL_law 189 = .ok (.ireturn, 1) := by decide +kernel
theorem dL_law_190 : decode cL_law 190 = .ok (.aload_n 1, 1) := by decide +kernel
theorem dL_law_191 : decode cL_law 191 = .ok (.invokevirtual 33, 3) := by decide +kernel
theorem dL_law_194 : decode cL_law 194 = .ok (.aload_n 2, 1) := by decide +kernel
theorem dL_law_195 : decode cL_law 195 = .ok (.invokevirtual 36, 3) := by decide +kernel
theorem dL_law_198 : decode cL_law 198 = .ok (.goto 96, 3) := by decide +kernel
theorem dL_law_201 : decode cL_law 201 = .ok (.aload_n 1, 1) := by decide +kernel
theorem dL_law_202 : decode cL_law 202 = .ok (.invokevirtual 37, 3) := by decide +kernel
theorem dL_law_205 : decode cL_law 205 = .ok (.aload_n 2, 1) := by decide +kernel
theorem dL_law_206 : decode cL_law 206 = .ok (.invokevirtual 40, 3) := by decide +kernel
theorem dL_law_209 : decode cL_law 209 = .ok (.goto 85, 3) := by decide +kernel
theorem dL_law_212 : decode cL_law 212 = .ok (.aload_n 1, 1) := by decide +kernel
theorem dL_law_213 : decode cL_law 213 = .ok (.aload_n 0, 1) := by decide +kernel
theorem dL_law_214 : decode cL_law 214 = .ok (.iload_n 3, 1) := by decide +kernel
theorem dL_law_215 : decode cL_law 215 = .ok (.iconst 1, 1) := by decide +kernel
theorem dL_law_216 : decode cL_law 216 = .ok (.iadd, 1) := by decide +kernel
theorem dL_law_217 : decode cL_law 217 = .ok (.iaload, 1) := by decide +kernel
theorem dL_law_218 : decode cL_law 218 = .ok (.invokevirtual 41, 3) := by decide +kernel
theorem dL_law_221 : decode cL_law 221 = .ok (.aload_n 2, 1) := by decide +kernel
theorem dL_law_222 : decode cL_law 222 = .ok (.aload_n 0, 1) := by decide +kernel
theorem dL_law_223 : decode cL_law 223 = .ok (.iload_n 3, 1) := by decide +kernel
theorem dL_law_224 : decode cL_law 224 = .ok (.iconst 1, 1) := by decide +kernel
theorem dL_law_225 : decode cL_law 225 = .ok (.iadd, 1) := by decide +kernel
theorem dL_law_226 : decode cL_law 226 = .ok (.iaload, 1) := by decide +kernel
theorem dL_law_227 : decode cL_law 227 = .ok (.invokevirtual 44, 3) := by decide +kernel
theorem dL_law_230 : decode cL_law 230 = .ok (.if_icmp .eq 64, 3) := by decide +kernel
theorem dL_law_233 : decode cL_law 233 = .ok (.iconst 0, 1) := by decide +kernel
theorem dL_law_234 : decode cL_law 234 = .ok (.ireturn, 1) := by decide +kernel
theorem dL_law_235 : decode cL_law 235 = .ok (.aload_n 1, 1) := by decide +kernel
theorem dL_law_236 : decode cL_law 236 = .ok (.invokevirtual 45, 3) := by decide +kernel
theorem dL_law_239 : decode cL_law 239 = .ok (.aload_n 2, 1) := by decide +kernel
theorem dL_law_240 : decode cL_law 240 = .ok (.invokevirtual 48, 3) := by decide +kernel
theorem dL_law_243 : decode cL_law 243 = .ok (.if_icmp .eq 51, 3) := by decide +kernel
theorem dL_law_246 : decode cL_law 246 = .ok (.iconst 0, 1) := by decide +kernel
theorem dL_law_247 : decode cL_law 247 = .ok (.ireturn, 1) := by decide +kernel
theorem dL_law_248 : decode cL_law 248 = .ok (.aload_n 1, 1) := by decide +kernel
theorem dL_law_249 : decode cL_law 249 = .ok (.aload_n 0, 1) := by decide +kernel
theorem dL_law_250 : decode cL_law 250 = .ok (.iload_n 3, 1) := by decide +kernel
theorem dL_law_251 : decode cL_law 251 = .ok (.iconst 1, 1) := by decide +kernel
theorem dL_law_252 : decode cL_law 252 = .ok (.iadd, 1) := by decide +kernel
theorem dL_law_253 : decode cL_law 253 = .ok (.iaload, 1) := by decide +kernel
theorem dL_law_254 : decode cL_law 254 = .ok (.aload_n 0, 1) := by decide +kernel
theorem dL_law_255 : decode cL_law 255 = .ok (.iload_n 3, 1) := by decide +kernel
theorem dL_law_256 : decode cL_law 256 = .ok (.iconst 2, 1) := by decide +kernel
theorem dL_law_257 : decode cL_law 257 = .ok (.iadd, 1) := by decide +kernel
theorem dL_law_258 : decode cL_law 258 = .ok (.iaload, 1) := by decide +kernel
theorem dL_law_259 : decode cL_law 259 = .ok (.invokevirtual 49, 3) := by decide +kernel
theorem dL_law_262 : decode cL_law 262 = .ok (.aload_n 2, 1) := by decide +kernel
theorem dL_law_263 : decode cL_law 263 = .ok (.aload_n 0, 1) := by decide +kernel
theorem dL_law_264 : decode cL_law 264 = .ok (.iload_n 3, 1) := by decide +kernel
theorem dL_law_265 : decode cL_law 265 = .ok (.iconst 1, 1) := by decide +kernel
theorem dL_law_266 : decode cL_law 266 = .ok (.iadd, 1) := by decide +kernel
theorem dL_law_267 : decode cL_law 267 = .ok (.iaload, 1) := by decide +kernel
theorem dL_law_268 : decode cL_law 268 = .ok (.aload_n 0, 1) := by decide +kernel
theorem dL_law_269 : decode cL_law 269 = .ok (.iload_n 3, 1) := by decide +kernel
theorem dL_law_270 : decode cL_law 270 = .ok (.iconst 2, 1) := by decide +kernel
theorem dL_law_271 : decode cL_law 271 = .ok (.iadd, 1) := by decide +kernel
theorem dL_law_272 : decode cL_law 272 = .ok (.iaload, 1) := by decide +kernel
theorem dL_law_273 : decode cL_law 273 = .ok (.invokevirtual 52, 3) := by decide +kernel
theorem dL_law_276 : decode cL_law 276 = .ok (.if_icmp .eq 18, 3) := by decide +kernel
theorem dL_law_279 : decode cL_law 279 = .ok (.iconst 0, 1) := by decide +kernel
theorem dL_law_280 : decode cL_law 280 = .ok (.ireturn, 1) := by decide +kernel
theorem dL_law_281 : decode cL_law 281 = .ok (.aload_n 1, 1) := by decide +kernel
theorem dL_law_282 : decode cL_law 282 = .ok (.invokevirtual 53, 3) := by decide +kernel
theorem dL_law_285 : decode cL_law 285 = .ok (.aload_n 2, 1) := by decide +kernel
theorem dL_law_286 : decode cL_law 286 = .ok (.invokevirtual 56, 3) := by decide +kernel
theorem dL_law_289 : decode cL_law 289 = .ok (.if_icmp .eq 5, 3) := by decide +kernel
theorem dL_law_292 : decode cL_law 292 = .ok (.iconst 0, 1) := by decide +kernel
theorem dL_law_293 : decode cL_law 293 = .ok (.ireturn, 1) := by decide +kernel
theorem dL_law_294 : decode cL_law 294 = .ok (.iinc 3 3, 3) := by decide +kernel
theorem dL_law_297 : decode cL_law 297 = .ok (.goto (-279), 3) := by decide +kernel
theorem dL_law_300 : decode cL_law 300 = .ok (.iconst 1, 1) := by decide +kernel
theorem dL_law_301 : decode cL_law 301 = .ok (.ireturn, 1) := by decide +kernel

theorem dX12_init_348 : decode cX12_init 348 = .ok (.putfield 43, 3) := by decide +kernel
theorem dX12_init_351 : decode cX12_init 351 = .ok (.aload_n 0, 1) := by decide +kernel
theorem dX12_init_352 : decode cX12_init 352 = .ok (.bipush 24, 2) := by decide +kernel
theorem dX12_init_354 : decode cX12_init 354 = .ok (.newarray .int, 2) := by decide +kernel
theorem dX12_init_356 : decode cX12_init 356 = .ok (.putfield 46, 3) := by decide +kernel
theorem dX12_init_359 : decode cX12_init 359 = .ok (.aload_n 0, 1) := by decide +kernel
theorem dX12_init_360 : decode cX12_init 360 = .ok (.sipush 130, 3) := by decide +kernel
theorem dX12_init_363 : decode cX12_init 363 = .ok (.newarray .boolean, 2) := by decide +kernel
theorem dX12_init_365 : decode cX12_init 365 = .ok (.putfield 49, 3) := by decide +kernel
theorem dX12_init_368 : decode cX12_init 368 = .ok (.aload_n 0, 1) := by decide +kernel
theorem dX12_init_369 : decode cX12_init 369 = .ok (.sipush 131, 3) := by decide +kernel
theorem dX12_init_372 : decode cX12_init 372 = .ok (.newarray .int, 2) := by decide +kernel
theorem dX12_init_374 : decode cX12_init 374 = .ok (.putfield 53, 3) := by decide +kernel
theorem dX12_init_377 : decode cX12_init 377 = .ok (.aload_n 0, 1) := by decide +kernel
theorem dX12_init_378 : decode cX12_init 378 = .ok (.sipush 4001, 3) := by decide +kernel
theorem dX12_init_381 : decode cX12_init 381 = .ok (.newarray .long, 2) := by decide +kernel
theorem dX12_init_383 : decode cX12_init 383 = .ok (.putfield 56, 3) := by decide +kernel
theorem dX12_init_386 : decode cX12_init 386 = .ok (.aload_n 0, 1) := by decide +kernel
theorem dX12_init_387 : decode cX12_init 387 = .ok (.sipush 4001, 3) := by decide +kernel
theorem dX12_init_390 : decode cX12_init 390 = .ok (.newarray .int, 2) := by decide +kernel
theorem dX12_init_392 : decode cX12_init 392 = .ok (.putfield 60, 3) := by decide +kernel
theorem dX12_init_395 : decode cX12_init 395 = .ok (.aload_n 0, 1) := by decide +kernel
theorem dX12_init_396 : decode cX12_init 396 = .ok (.sipush 4001, 3) := by decide +kernel
theorem dX12_init_399 : decode cX12_init 399 = .ok (.newarray .int, 2) := by decide +kernel
theorem dX12_init_401 : decode cX12_init 401 = .ok (.putfield 63, 3) := by decide +kernel
theorem dX12_init_404 : decode cX12_init 404 = .ok (.aload_n 0, 1) := by decide +kernel
theorem dX12_init_405 : decode cX12_init 405 = .ok (.sipush 1602, 3) := by decide +kernel
theorem dX12_init_408 : decode cX12_init 408 = .ok (.newarray .long, 2) := by decide +kernel
theorem dX12_init_410 : decode cX12_init 410 = .ok (.putfield 66, 3) := by decide +kernel
theorem dX12_init_413 : decode cX12_init 413 = .ok (.aload_n 0, 1) := by decide +kernel
theorem dX12_init_414 : decode cX12_init 414 = .ok (.sipush 4806, 3) := by decide +kernel
theorem dX12_init_417 : decode cX12_init 417 = .ok (.newarray .int, 2) := by decide +kernel
theorem dX12_init_419 : decode cX12_init 419 = .ok (.putfield 69, 3) := by decide +kernel
theorem dX12_init_422 : decode cX12_init 422 = .ok (.aload_n 0, 1) := by decide +kernel
theorem dX12_init_423 : decode cX12_init 423 = .ok (.iconst 2, 1) := by decide +kernel
theorem dX12_init_424 : decode cX12_init 424 = .ok (.newarray .int, 2) := by decide +kernel
theorem dX12_init_426 : decode cX12_init 426 = .ok (.putfield 72, 3) := by decide +kernel
theorem dX12_init_429 : decode cX12_init 429 = .ok (.aload_n 0, 1) := by decide +kernel
theorem dX12_init_430 : decode cX12_init 430 = .ok (.sipush 1602, 3) := by decide +kernel
theorem dX12_init_433 : decode cX12_init 433 = .ok (.newarray .int, 2) := by decide +kernel
theorem dX12_init_435 : decode cX12_init 435 = .ok (.putfield 75, 3) := by decide +kernel
theorem dX12_init_438 : decode cX12_init 438 = .ok (.aload_n 0, 1) := by decide +kernel
theorem dX12_init_439 : decode cX12_init 439 = .ok (.sipush 1602, 3) := by decide +kernel
theorem dX12_init_442 : decode cX12_init 442 = .ok (.newarray .int, 2) := by decide +kernel
theorem dX12_init_444 : decode cX12_init 444 = .ok (.putfield 78, 3) := by decide +kernel
theorem dX12_init_447 : decode cX12_init 447 = .ok (.aload_n 0, 1) := by decide +kernel
theorem dX12_init_448 : decode cX12_init 448 = .ok (.sipush 800, 3) := by decide +kernel
theorem dX12_init_451 : decode cX12_init 451 = .ok (.newarray .long, 2) := by decide +kernel
theorem dX12_init_453 : decode cX12_init 453 = .ok (.putfield 81, 3) := by decide +kernel
theorem dX12_init_456 : decode cX12_init 456 = .ok (.aload_n 0, 1) := by decide +kernel
theorem dX12_init_457 : decode cX12_init 457 = .ok (.sipush 800, 3) := by decide +kernel
theorem dX12_init_460 : decode cX12_init 460 = .ok (.newarray .long, 2) := by decide +kernel
theorem dX12_init_462 : decode cX12_init 462 = .ok (.putfield 84, 3) := by decide +kernel
theorem dX12_init_465 : decode cX12_init 465 = .ok (.aload_n 0, 1) := by decide +kernel
theorem dX12_init_466 : decode cX12_init 466 = .ok (.sipush 10400, 3) := by decide +kernel
theorem dX12_init_469 : decode cX12_init 469 = .ok (.newarray .int, 2) := by decide +kernel
theorem dX12_init_471 : decode cX12_init 471 = .ok (.putfield 87, 3) := by decide +kernel
theorem dX12_init_474 : decode cX12_init 474 = .ok (.aload_n 0, 1) := by decide +kernel
theorem dX12_init_475 : decode cX12_init 475 = .ok (.sipush 800, 3) := by decide +kernel
theorem dX12_init_478 : decode cX12_init 478 = .ok (.newarray .int, 2) := by decide +kernel
theorem dX12_init_480 : decode cX12_init 480 = .ok (.putfield 90, 3) := by decide +kernel
theorem dX12_init_483 : decode cX12_init 483 = .ok (.aload_n 0, 1) := by decide +kernel
theorem dX12_init_484 : decode cX12_init 484 = .ok (.sipush 800, 3) := by decide +kernel
theorem dX12_init_487 : decode cX12_init 487 = .ok (.newarray .int, 2) := by decide +kernel
theorem dX12_init_489 : decode cX12_init 489 = .ok (.putfield 93, 3) := by decide +kernel
theorem dX12_init_492 : decode cX12_init 492 = .ok (.aload_n 0, 1) := by decide +kernel
theorem dX12_init_493 : decode cX12_init 493 = .ok (.sipush 16384, 3) := by decide +kernel
theorem dX12_init_496 : decode cX12_init 496 = .ok (.newarray .int, 2) := by decide +kernel
theorem dX12_init_498 : decode cX12_init 498 = .ok (.putfield 96, 3) := by decide +kernel
theorem dX12_init_501 : decode cX12_init 501 = .ok (.aload_n 0, 1) := by decide +kernel
theorem dX12_init_502 : decode cX12_init 502 = .ok (.sipush 131, 3) := by decide +kernel
theorem dX12_init_505 : decode cX12_init 505 = .ok (.newarray .int, 2) := by decide +kernel
theorem dX12_init_507 : decode cX12_init 507 = .ok (.putfield 99, 3) := by decide +kernel
theorem dX12_init_510 : decode cX12_init 510 = .ok (.return_, 1) := by decide +kernel
theorem dX12_in_0 : decode cX12_in 0 = .ok (.lload_n 0, 1) := by decide +kernel
theorem dX12_in_1 : decode cX12_in 1 = .ok (.lload_n 2, 1) := by decide +kernel
theorem dX12_in_2 : decode cX12_in 2 = .ok (.lcmp, 1) := by decide +kernel
theorem dX12_in_3 : decode cX12_in 3 = .ok (.ifCond .lt 14, 3) := by decide +kernel
theorem dX12_in_6 : decode cX12_in 6 = .ok (.lload_n 0, 1) := by decide +kernel
theorem dX12_in_7 : decode cX12_in 7 = .ok (.lload 4, 2) := by decide +kernel
theorem dX12_in_9 : decode cX12_in 9 = .ok (.lcmp, 1) := by decide +kernel
theorem dX12_in_10 : decode cX12_in 10 = .ok (.ifCond .gt 7, 3) := by decide +kernel
theorem dX12_in_13 : decode cX12_in 13 = .ok (.iconst 1, 1) := by decide +kernel
theorem dX12_in_14 : decode cX12_in 14 = .ok (.goto 4, 3) := by decide +kernel
theorem dX12_in_17 : decode cX12_in 17 = .ok (.iconst 0, 1) := by decide +kernel
theorem dX12_in_18 : decode cX12_in 18 = .ok (.ireturn, 1) := by decide +kernel
set_option maxRecDepth 20000 in
theorem ggX12_isReader_X12_in : GoodIn wsX12_isReader wsX12_in := goodIn_r _ [4] rfl (by decide +kernel)
set_option maxRecDepth 20000 in
theorem gX12_isReader_X12_in : GoodIn wsX12_isReader (va_wsS RX12 102 yX12_in wsX12_in) := goodIn_app (goodIn_of _ (by decide +kernel)) ggX12_isReader_X12_in
theorem dX12_isReader_0 : decode cX12_isReader 0 = .ok (.iload_n 0, 1) := by decide +kernel
theorem dX12_isReader_1 : decode cX12_isReader 1 = .ok (.i2l, 1) := by decide +kernel
theorem dX12_isReader_2 : decode cX12_isReader 2 = .ok (.lconst 0, 1) := by decide +kernel
theorem dX12_isReader_3 : decode cX12_isReader 3 = .ok (.lconst 1, 1) := by decide +kernel
theorem dX12_isReader_4 : decode cX12_isReader 4 = .ok (.invokestatic 102, 3) := by decide +kernel
theorem dX12_isReader_7 : decode cX12_isReader 7 = .ok (.ireturn, 1) := by decide +kernel
set_option maxRecDepth 20000 in
theorem ggX12_isState_X12_isReader : GoodIn wsX12_isState wsX12_isReader := goodIn_r _ [5, 6, 7, 4, 8] rfl (by decide +kernel)
set_option maxRecDepth 20000 in
theorem gX12_isState_X12_isReader : GoodIn wsX12_isState (va_wsS RX12 106 yX12_isReader wsX12_isReader) := goodIn_app (goodIn_of _ (by decide +kernel)) ggX12_isState_X12_isReader
set_option maxRecDepth 20000 in
theorem ggX12_isState_X12_in : GoodIn wsX12_isState wsX12_in := goodIn_r _ [8] rfl (by decide +kernel)
set_option maxRecDepth 20000 in
theorem gX12_isState_X12_in : GoodIn wsX12_isState (va_wsS RX12 102 yX12_in wsX12_in) := goodIn_app (goodIn_of _ (by decide +kernel)) ggX12_isState_X12_in
theorem dX12_isState_0 : decode cX12_isState 0 = .ok (.iload_n 1, 1) := by decide +kernel
theorem dX12_isState_1 : decode cX12_isState 1 = .ok (.invokestatic 106, 3) := by decide +kernel
theorem dX12_isState_4 : decode cX12_isState 4 = .ok (.ifCond .eq 25, 3) := by decide +kernel
theorem dX12_isState_7 : decode cX12_isState 7 = .ok (.iload_n 2, 1) := by decide +kernel
theorem dX12_isState_8 : decode cX12_isState 8 = .ok (.i2l, 1) := by decide +kernel
theorem dX12_isState_9 : decode cX12_isState 9 = .ok (.lconst 0, 1) := by decide +kernel
theorem dX12_isState_10 : decode cX12_isState 10 = .ok (.aload_n 0, 1) := by decide +kernel
theorem dX12_isState_11 : decode cX12_isState 11 = .ok (.getfield 7, 3) := by decide +kernel
theorem dX12_isState_14 : decode cX12_isState 14 = .ok (.iload_n 1, 1) := by decide +kernel
theorem dX12_isState_15 : decode cX12_isState 15 = .ok (.iaload, 1) := by decide +kernel
theorem dX12_isState_16 : decode cX12_isState 16 = .ok (.iconst 1, 1) := by decide +kernel
theorem dX12_isState_17 : decode cX12_isState 17 = .ok (.isub, 1) := by decide +kernel
theorem dX12_isState_18 : decode cX12_isState 18 = .ok (.i2l, 1) := by decide +kernel
theorem dX12_isState_19 : decode cX12_isState 19 = .ok (.invokestatic 102, 3) := by decide +kernel
theorem dX12_isState_22 : decode cX12_isState 22 = .ok (.ifCond .eq 7, 3) := by decide +kernel
theorem dX12_isState_25 : decode cX12_isState 25 = .ok (.iconst 1, 1) := by decide +kernel
theorem dX12_isState_26 : decode cX12_isState 26 = .ok (.goto 4, 3) := by decide +kernel
theorem dX12_isState_29 : decode cX12_isState 29 = .ok (.iconst 0, 1) := by decide +kernel
theorem dX12_isState_30 : decode cX12_isState 30 = .ok (.ireturn, 1) := by decide +kernel
theorem dX12_at0_0 : decode cX12_at0 0 = .ok (.bipush 25, 2) := by decide +kernel
theorem dX12_at0_2 : decode cX12_at0 2 = .ok (.iload_n 0, 1) := by decide +kernel
theorem dX12_at0_3 : decode cX12_at0 3 = .ok (.imul, 1) := by decide +kernel
theorem dX12_at0_4 : decode cX12_at0 4 = .ok (.iconst 5, 1) := by decide +kernel
theorem dX12_at0_5 : decode cX12_at0 5 = .ok (.iload_n 1, 1) := by decide +kernel
theorem dX12_at0_6 : decode cX12_at0 6 = .ok (.imul, 1) := by decide +kernel
theorem dX12_at0_7 : decode cX12_at0 7 = .ok (.iadd, 1) := by decide +kernel
theorem dX12_at0_8 : decode cX12_at0 8 = .ok (.iload_n 2, 1) := by decide +kernel
theorem dX12_at0_9 : decode cX12_at0 9 = .ok (.iadd, 1) := by decide +kernel
theorem dX12_at0_10 : decode cX12_at0 10 = .ok (.ireturn, 1) := by decide +kernel
set_option maxRecDepth 20000 in
theorem ggX12_reader_X12_isReader : GoodIn wsX12_reader wsX12_isReader := goodIn_r _ [8, 9, 10, 7, 11] rfl (by decide +kernel)
set_option maxRecDepth 20000 in
theorem gX12_reader_X12_isReader : GoodIn wsX12_reader (va_wsS RX12 106 yX12_isReader wsX12_isReader) := goodIn_app (goodIn_of _ (by decide +kernel)) ggX12_reader_X12_isReader
set_option maxRecDepth 20000 in
theorem ggX12_reader_X12_in : GoodIn wsX12_reader wsX12_in := goodIn_r _ [11] rfl (by decide +kernel)
set_option maxRecDepth 20000 in
theorem gX12_reader_X12_in : GoodIn wsX12_reader (va_wsS RX12 102 yX12_in wsX12_in) := goodIn_app (goodIn_of _ (by decide +kernel)) ggX12_reader_X12_in
theorem dX12_reader_0 : decode cX12_reader 0 = .ok (.iload_n 1, 1) := by decide +kernel
theorem dX12_reader_1 : decode cX12_reader 1 = .ok (.invokestatic 106, 3) := by decide +kernel
theorem dX12_reader_4 : decode cX12_reader 4 = .ok (.ifCond .ne 6, 3) := by decide +kernel
theorem dX12_reader_7 : decode cX12_reader 7 = .ok (.bipush (-2), 2) := by decide +kernel
theorem dX12_reader_9 : decode cX12_reader 9 = .ok (.ireturn, 1) := by decide +kernel
theorem dX12_reader_10 : decode cX12_reader 10 = .ok (.iload_n 2, 1) := by decide +kernel
theorem dX12_reader_11 : decode cX12_reader 11 = .ok (.i2l, 1) := by decide +kernel
theorem dX12_reader_12 : decode cX12_reader 12 = .ok (.lconst 1, 1) := by decide +kernel
theorem dX12_reader_13 : decode cX12_reader 13 = .ok (.ldc2_w 110, 3) := by decide +kernel
theorem dX12_reader_16 : decode cX12_reader 16 = .ok (.invokestatic 102, 3) := by decide +kernel
theorem dX12_reader_19 : decode cX12_reader 19 = .ok (.ifCond .eq 18, 3) := by decide +kernel
theorem dX12_reader_22 : decode cX12_reader 22 = .ok (.iload_n 3, 1) := by decide +kernel
theorem dX12_reader_23 : decode cX12_reader 23 = .ok (.i2l, 1) := by decide +kernel
theorem dX12_reader_24 : decode cX12_reader 24 = .ok (.lconst 0, 1) := by decide +kernel
theorem dX12_reader_25 : decode cX12_reader 25 = .ok (.iconst 1, 1) := by decide +kernel
theorem dX12_reader_26 : decode cX12_reader 26 = .ok (.iload_n 2, 1) := by decide +kernel
theorem dX12_reader_27 : decode cX12_reader 27 = .ok (.ishl, 1) := by decide +kernel
theorem dX12_reader_28 : decode cX12_reader 28 = .ok (.iconst 1, 1) := by decide +kernel
theorem dX12_reader_29 : decode cX12_reader 29 = .ok (.isub, 1) := by decide +kernel
theorem dX12_reader_30 : decode cX12_reader 30 = .ok (.i2l, 1) := by decide +kernel
theorem dX12_reader_31 : decode cX12_reader 31 = .ok (.invokestatic 102, 3) := by decide +kernel
theorem dX12_reader_34 : decode cX12_reader 34 = .ok (.ifCond .ne 6, 3) := by decide +kernel
theorem dX12_reader_37 : decode cX12_reader 37 = .ok (.bipush (-3), 2) := by decide +kernel
theorem dX12_reader_39 : decode cX12_reader 39 = .ok (.ireturn, 1) := by decide +kernel
theorem dX12_reader_40 : decode cX12_reader 40 = .ok (.aload_n 0, 1) := by decide +kernel
theorem dX12_reader_41 : decode cX12_reader 41 = .ok (.getfield 7, 3) := by decide +kernel
theorem dX12_reader_44 : decode cX12_reader 44 = .ok (.iload_n 1, 1) := by decide +kernel
theorem dX12_reader_45 : decode cX12_reader 45 = .ok (.iload_n 2, 1) := by decide +kernel
theorem dX12_reader_46 : decode cX12_reader 46 = .ok (.iastore, 1) := by decide +kernel
theorem dX12_reader_47 : decode cX12_reader 47 = .ok (.aload_n 0, 1) := by decide +kernel
theorem dX12_reader_48 : decode cX12_reader 48 = .ok (.getfield 13, 3) := by decide +kernel
theorem dX12_reader_51 : decode cX12_reader 51 = .ok (.iload_n 1, 1) := by decide +kernel
theorem dX12_reader_52 : decode cX12_reader 52 = .ok (.iload_n 3, 1) := by decide +kernel
theorem dX12_reader_53 : decode cX12_reader 53 = .ok (.iastore, 1) := by decide +kernel
theorem dX12_reader_54 : decode cX12_reader 54 = .ok (.bipush 25, 2) := by decide +kernel
theorem dX12_reader_56 : decode cX12_reader 56 = .ok (.iload_n 1, 1) := by decide +kernel
theorem dX12_reader_57 : decode cX12_reader 57 = .ok (.imul, 1) := by decide +kernel
theorem dX12_reader_58 : decode cX12_reader 58 = .ok (.istore 4, 2) := by decide +kernel
theorem dX12_reader_60 : decode cX12_reader 60 = .ok (.iload 4, 2) := by decide +kernel
theorem dX12_reader_62 : decode cX12_reader 62 = .ok (.bipush 25, 2) := by decide +kernel
theorem dX12_reader_64 : decode cX12_reader 64 = .ok (.iload_n 1, 1) := by decide +kernel
theorem dX12_reader_65 : decode cX12_reader 65 = .ok (.imul, 1) := by decide +kernel
theorem dX12_reader_66 : decode cX12_reader 66 = .ok (.bipush 25, 2) := by decide +kernel
theorem dX12_reader_68 : decode cX12_reader 68 = .ok (.iadd, 1) := by decide +kernel
theorem dX12_reader_69 : decode cX12_reader 69 = .ok (.if_icmp .ge 17, 3) := by decide +kernel
theorem dX12_reader_72 : decode cX12_reader 72 = .ok (.aload_n 0, 1) := by decide +kernel
theorem dX12_reader_73 : decode cX12_reader 73 = .ok (.getfield 16, 3) := by decide +kernel
theorem dX12_reader_76 : decode cX12_reader 76 = .ok (.iload 4, 2) := by decide +kernel
theorem dX12_reader_78 : decode cX12_reader 78 = .ok (.iconst (-1), 1) := by decide +kernel
theorem dX12_reader_79 : decode cX12_reader 79 = .ok (.iastore, 1) := by decide +kernel
theorem dX12_reader_80 : decode cX12_reader 80 = .ok (.iinc 4 1, 3) := by decide +kernel
theorem dX12_reader_83 : decode cX12_reader 83 = .ok (.goto (-23), 3) := by decide +kernel
theorem dX12_reader_86 : decode cX12_reader 86 = .ok (.iconst 1, 1) := by decide +kernel
theorem dX12_reader_87 : decode cX12_reader 87 = .ok (.ireturn, 1) := by decide +kernel
set_option maxRecDepth 20000 in
theorem ggX12_write_X12_in : GoodIn wsX12_write wsX12_in := goodIn_r _ [8] rfl (by decide +kernel)
set_option maxRecDepth 20000 in
theorem gX12_write_X12_in : GoodIn wsX12_write (va_wsS RX12 102 yX12_in wsX12_in) := goodIn_app (goodIn_of _ (by decide +kernel)) ggX12_write_X12_in
theorem dX12_write_0 : decode cX12_write 0 = .ok (.iload_n 3, 1) := by decide +kernel
theorem dX12_write_1 : decode cX12_write 1 = .ok (.i2l, 1) := by decide +kernel
theorem dX12_write_2 : decode cX12_write 2 = .ok (.lconst 1, 1) := by decide +kernel
theorem dX12_write_3 : decode cX12_write 3 = .ok (.ldc2_w 112, 3) := by decide +kernel
theorem dX12_write_6 : decode cX12_write 6 = .ok (.invokestatic 102, 3) := by decide +kernel
theorem dX12_write_9 : decode cX12_write 9 = .ok (.ifCond .ne 6, 3) := by decide +kernel
theorem dX12_write_12 : decode cX12_write 12 = .ok (.bipush (-3), 2) := by decide +kernel
theorem dX12_write_14 : decode cX12_write 14 = .ok (.ireturn, 1) := by decide +kernel
theorem dX12_write_15 : decode cX12_write 15 = .ok (.aload_n 0, 1) := by decide +kernel
theorem dX12_write_16 : decode cX12_write 16 = .ok (.getfield 114, 3) := by decide +kernel
theorem dX12_write_19 : decode cX12_write 19 = .ok (.iload_n 3, 1) := by decide +kernel
theorem dX12_write_20 : decode cX12_write 20 = .ok (.iadd, 1) := by decide +kernel
theorem dX12_write_21 : decode cX12_write 21 = .ok (.sipush 160, 3) := by decide +kernel
theorem dX12_write_24 : decode cX12_write 24 = .ok (.if_icmp .le 6, 3) := by decide +kernel
theorem dX12_write_27 : decode cX12_write 27 = .ok (.bipush (-5), 2) := by decide +kernel
theorem dX12_write_29 : decode cX12_write 29 = .ok (.ireturn, 1) := by decide +kernel
theorem dX12_write_30 : decode cX12_write 30 = .ok (.iconst 0, 1) := by decide +kernel
theorem dX12_write_31 : decode cX12_write 31 = .ok (.istore 4, 2) := by decide +kernel
theorem dX12_write_33 : decode cX12_write 33 = .ok (.iload 4, 2) := by decide +kernel
theorem dX12_write_35 : decode cX12_write 35 = .ok (.iload_n 3, 1) := by decide +kernel
theorem dX12_write_36 : decode cX12_write 36 = .ok (.if_icmp .ge 40, 3) := by decide +kernel
theorem dX12_write_39 : decode cX12_write 39 = .ok (.aload_n 0, 1) := by decide +kernel
theorem dX12_write_40 : decode cX12_write 40 = .ok (.getfield 25, 3) := by decide +kernel
theorem dX12_write_43 : decode cX12_write 43 = .ok (.aload_n 0, 1) := by decide +kernel
theorem dX12_write_44 : decode cX12_write 44 = .ok (.getfield 114, 3) := by decide +kernel
theorem dX12_write_47 : decode cX12_write 47 = .ok (.lload_n 1, 1) := by decide +kernel
theorem dX12_write_48 : decode cX12_write 48 = .ok (.bipush 8, 2) := by decide +kernel
theorem dX12_write_50 : decode cX12_write 50 = .ok (.iload 4, 2) := by decide +kernel
theorem dX12_write_52 : decode cX12_write 52 = .ok (.imul, 1) := by decide +kernel
theorem dX12_write_53 : decode cX12_write 53 = .ok (.lshr, 1) := by decide +kernel
theorem dX12_write_54 : decode cX12_write 54 = .ok (.ldc2_w 118, 3) := by decide +kernel
theorem dX12_write_57 : decode cX12_write 57 = .ok (.land, 1) := by decide +kernel
theorem dX12_write_58 : decode cX12_write 58 = .ok (.l2i, 1) := by decide +kernel
theorem dX12_write_59 : decode cX12_write 59 = .ok (.iastore, 1) := by decide +kernel
theorem dX12_write_60 : decode cX12_write 60 = .ok (.aload_n 0, 1) := by decide +kernel
theorem dX12_write_61 : decode cX12_write 61 = .ok (.dup, 1) := by decide +kernel
theorem dX12_write_62 : decode cX12_write 62 = .ok (.getfield 114, 3) := by decide +kernel
theorem dX12_write_65 : decode cX12_write 65 = .ok (.iconst 1, 1) := by decide +kernel
theorem dX12_write_66 : decode cX12_write 66 = .ok (.iadd, 1) := by decide +kernel
theorem dX12_write_67 : decode cX12_write 67 = .ok (.putfield 114, 3) := by decide +kernel
theorem dX12_write_70 : decode cX12_write 70 = .ok (.iinc 4 1, 3) := by decide +kernel
theorem dX12_write_73 : decode cX12_write 73 = .ok (.goto (-40), 3) := by decide +kernel
theorem dX12_write_76 : decode cX12_write 76 = .ok (.aload_n 0, 1) := by decide +kernel
theorem dX12_write_77 : decode cX12_write 77 = .ok (.getfield 114, 3) := by decide +kernel
theorem dX12_write_80 : decode cX12_write 80 = .ok (.ireturn, 1) := by decide +kernel
theorem dX12_erase_0 : decode cX12_erase 0 = .ok (.aload_n 0, 1) := by decide +kernel
theorem dX12_erase_1 : decode cX12_erase 1 = .ok (.getfield 114, 3) := by decide +kernel
theorem dX12_erase_4 : decode cX12_erase 4 = .ok (.istore_n 1, 1) := by decide +kernel
theorem dX12_erase_5 : decode cX12_erase 5 = .ok (.aload_n 0, 1) := by decide +kernel
theorem dX12_erase_6 : decode cX12_erase 6 = .ok (.iconst 0, 1) := by decide +kernel
theorem dX12_erase_7 : decode cX12_erase 7 = .ok (.putfield 114, 3) := by decide +kernel
theorem dX12_erase_10 : decode cX12_erase 10 = .ok (.iload_n 1, 1) := by decide +kernel
theorem dX12_erase_11 : decode cX12_erase 11 = .ok (.ireturn, 1) := by decide +kernel
theorem dX12_sort_0 : decode cX12_sort 0 = .ok (.iload_n 0, 1) := by decide +kernel
theorem dX12_sort_1 : decode cX12_sort 1 = .ok (.bipush 97, 2) := by decide +kernel
theorem dX12_sort_3 : decode cX12_sort 3 = .ok (.if_icmp .lt 13, 3) := by decide +kernel
theorem dX12_sort_6 : decode cX12_sort 6 = .ok (.iload_n 0, 1) := by decide +kernel
theorem dX12_sort_7 : decode cX12_sort 7 = .ok (.bipush 122, 2) := by decide +kernel
theorem dX12_sort_9 : decode cX12_sort 9 = .ok (.if_icmp .gt 7, 3) := by decide +kernel
theorem dX12_sort_12 : decode cX12_sort 12 = .ok (.iconst 1, 1) := by decide +kernel
theorem dX12_sort_13 : decode cX12_sort 13 = .ok (.goto 20, 3) := by decide +kernel
theorem dX12_sort_16 : decode cX12_sort 16 = .ok (.iload_n 0, 1) := by decide +kernel
theorem dX12_sort_17 : decode cX12_sort 17 = .ok (.bipush 48, 2) := by decide +kernel
theorem dX12_sort_19 : decode cX12_sort 19 = .ok (.if_icmp .lt 13, 3) := by decide +kernel
theorem dX12_sort_22 : decode cX12_sort 22 = .ok (.iload_n 0, 1) := by decide +kernel
theorem dX12_sort_23 : decode cX12_sort 23 = .ok (.bipush 57, 2) := by decide +kernel
theorem dX12_sort_25 : decode cX12_sort 25 = .ok (.if_icmp .gt 7, 3) := by decide +kernel
theorem dX12_sort_28 : decode cX12_sort 28 = .ok (.iconst 2, 1) := by decide +kernel
theorem dX12_sort_29 : decode cX12_sort 29 = .ok (.goto 4, 3) := by decide +kernel
theorem dX12_sort_32 : decode cX12_sort 32 = .ok (.iconst 0, 1) := by decide +kernel
theorem dX12_sort_33 : decode cX12_sort 33 = .ok (.ireturn, 1) := by decide +kernel
set_option maxRecDepth 20000 in
theorem ggX12_token_X12_sort : GoodIn wsX12_token wsX12_sort := goodIn_r _ [9] rfl (by decide +kernel)
set_option maxRecDepth 20000 in
theorem gX12_token_X12_sort : GoodIn wsX12_token (va_wsS RX12 126 yX12_sort wsX12_sort) := goodIn_app (goodIn_of _ (by decide +kernel)) ggX12_token_X12_sort
theorem dX12_token_0 : decode cX12_token 0 = .ok (.aload_n 0, 1) := by decide +kernel
theorem dX12_token_1 : decode cX12_token 1 = .ok (.getfield 120, 3) := by decide +kernel
theorem dX12_token_4 : decode cX12_token 4 = .ok (.aload_n 0, 1) := by decide +kernel
theorem dX12_token_5 : decode cX12_token 5 = .ok (.getfield 114, 3) := by decide +kernel
theorem dX12_token_8 : decode cX12_token 8 = .ok (.if_icmp .ge 30, 3) := by decide +kernel
theorem dX12_token_11 : decode cX12_token 11 = .ok (.aload_n 0, 1) := by decide +kernel
theorem dX12_token_12 : decode cX12_token 12 = .ok (.getfield 25, 3) := by decide +kernel
theorem dX12_token_15 : decode cX12_token 15 = .ok (.aload_n 0, 1) := by decide +kernel
theorem dX12_token_16 : decode cX12_token 16 = .ok (.getfield 120, 3) := by decide +kernel
theorem dX12_token_19 : decode cX12_token 19 = .ok (.iaload, 1) := by decide +kernel
theorem dX12_token_20 : decode cX12_token 20 = .ok (.bipush 32, 2) := by decide +kernel
theorem dX12_token_22 : decode cX12_token 22 = .ok (.if_icmp .ne 16, 3) := by decide +kernel
theorem dX12_token_25 : decode cX12_token 25 = .ok (.aload_n 0, 1) := by decide +kernel
theorem dX12_token_26 : decode cX12_token 26 = .ok (.dup, 1) := by decide +kernel
theorem dX12_token_27 : decode cX12_token 27 = .ok (.getfield 120, 3) := by decide +kernel
theorem dX12_token_30 : decode cX12_token 30 = .ok (.iconst 1, 1) := by decide +kernel
theorem dX12_token_31 : decode cX12_token 31 = .ok (.iadd, 1) := by decide +kernel
theorem dX12_token_32 : decode cX12_token 32 = .ok (.putfield 120, 3) := by decide +kernel
theorem dX12_token_35 : decode cX12_token 35 = .ok (.goto (-35), 3) := by decide +kernel
theorem dX12_token_38 : decode cX12_token 38 = .ok (.aload_n 0, 1) := by decide +kernel
theorem dX12_token_39 : decode cX12_token 39 = .ok (.aload_n 0, 1) := by decide +kernel
theorem dX12_token_40 : decode cX12_token 40 = .ok (.getfield 120, 3) := by decide +kernel
theorem dX12_token_43 : decode cX12_token 43 = .ok (.putfield 123, 3) := by decide +kernel
theorem dX12_token_46 : decode cX12_token 46 = .ok (.aload_n 0, 1) := by decide +kernel
theorem dX12_token_47 : decode cX12_token 47 = .ok (.dup, 1) := by decide +kernel
theorem dX12_token_48 : decode cX12_token 48 = .ok (.getfield 120, 3) := by decide +kernel
theorem dX12_token_51 : decode cX12_token 51 = .ok (.aload_n 0, 1) := by decide +kernel
theorem dX12_token_52 : decode cX12_token 52 = .ok (.getfield 120, 3) := by decide +kernel
theorem dX12_token_55 : decode cX12_token 55 = .ok (.aload_n 0, 1) := by decide +kernel
theorem dX12_token_56 : decode cX12_token 56 = .ok (.getfield 114, 3) := by decide +kernel
theorem dX12_token_59 : decode cX12_token 59 = .ok (.if_icmp .ge 7, 3) := by decide +kernel
theorem dX12_token_62 : decode cX12_token 62 = .ok (.iconst 1, 1) := by decide +kernel
theorem dX12_token_63 : decode cX12_token 63 = .ok (.goto 4, 3) := by decide +kernel
theorem dX12_token_66 : decode cX12_token 66 = .ok (.iconst 0, 1) := by decide +kernel
theorem dX12_token_67 : decode cX12_token 67 = .ok (.iadd, 1) := by decide +kernel
theorem dX12_token_68 : decode cX12_token 68 = .ok (.putfield 120, 3) := by decide +kernel
theorem dX12_token_71 : decode cX12_token 71 = .ok (.aload_n 0, 1) := by decide +kernel
theorem dX12_token_72 : decode cX12_token 72 = .ok (.getfield 120, 3) := by decide +kernel
theorem dX12_token_75 : decode cX12_token 75 = .ok (.aload_n 0, 1) := by decide +kernel
theorem dX12_token_76 : decode cX12_token 76 = .ok (.getfield 114, 3) := by decide +kernel
theorem dX12_token_79 : decode cX12_token 79 = .ok (.if_icmp .ge 58, 3) := by decide +kernel
theorem dX12_token_82 : decode cX12_token 82 = .ok (.aload_n 0, 1) := by decide +kernel
theorem dX12_token_83 : decode cX12_token 83 = .ok (.getfield 25, 3) := by decide +kernel
theorem dX12_token_86 : decode cX12_token 86 = .ok (.aload_n 0, 1) := by decide +kernel
theorem dX12_token_87 : decode cX12_token 87 = .ok (.getfield 123, 3) := by decide +kernel
theorem dX12_token_90 : decode cX12_token 90 = .ok (.iaload, 1) := by decide +kernel
theorem dX12_token_91 : decode cX12_token 91 = .ok (.invokestatic 126, 3) := by decide +kernel
theorem dX12_token_94 : decode cX12_token 94 = .ok (.ifCond .le 43, 3) := by decide +kernel
theorem dX12_token_97 : decode cX12_token 97 = .ok (.aload_n 0, 1) := by decide +kernel
theorem dX12_token_98 : decode cX12_token 98 = .ok (.getfield 25, 3) := by decide +kernel
theorem dX12_token_101 : decode cX12_token 101 = .ok (.aload_n 0, 1) := by decide +kernel
theorem dX12_token_102 : decode cX12_token 102 = .ok (.getfield 120, 3) := by decide +kernel
theorem dX12_token_105 : decode cX12_token 105 = .ok (.iaload, 1) := by decide +kernel
theorem dX12_token_106 : decode cX12_token 106 = .ok (.invokestatic 126, 3) := by decide +kernel
theorem dX12_token_109 : decode cX12_token 109 = .ok (.aload_n 0, 1) := by decide +kernel
theorem dX12_token_110 : decode cX12_token 110 = .ok (.getfield 25, 3) := by decide +kernel
theorem dX12_token_113 : decode cX12_token 113 = .ok (.aload_n 0, 1) := by decide +kernel
theorem dX12_token_114 : decode cX12_token 114 = .ok (.getfield 123, 3) := by decide +kernel
theorem dX12_token_117 : decode cX12_token 117 = .ok (.iaload, 1) := by decide +kernel
theorem dX12_token_118 : decode cX12_token 118 = .ok (.invokestatic 126, 3) := by decide +kernel
theorem dX12_token_121 : decode cX12_token 121 = .ok (.if_icmp .ne 16, 3) := by decide +kernel
theorem dX12_token_124 : decode cX12_token 124 = .ok (.aload_n 0, 1) := by decide +kernel
theorem dX12_token_125 : decode cX12_token 125 = .ok (.dup, 1) := by decide +kernel
theorem dX12_token_126 : decode cX12_token 126 = .ok (.getfield 120, 3) := by decide +kernel
theorem dX12_token_129 : decode cX12_token 129 = .ok (.iconst 1, 1) := by decide +kernel
theorem dX12_token_130 : decode cX12_token 130 = .ok (.iadd, 1) := by decide +kernel
theorem dX12_token_131 : decode cX12_token 131 = .ok (.putfield 120, 3) := by decide +kernel
theorem dX12_token_134 : decode cX12_token 134 = .ok (.goto (-63), 3) := by decide +kernel
theorem dX12_token_137 : decode cX12_token 137 = .ok (.aload_n 0, 1) := by decide +kernel
theorem dX12_token_138 : decode cX12_token 138 = .ok (.aload_n 0, 1) := by decide +kernel
theorem dX12_token_139 : decode cX12_token 139 = .ok (.getfield 120, 3) := by decide +kernel
theorem dX12_token_142 : decode cX12_token 142 = .ok (.putfield 130, 3) := by decide +kernel
theorem dX12_token_145 : decode cX12_token 145 = .ok (.return_, 1) := by decide +kernel
theorem dX12_isWord_0 : decode cX12_isWord 0 = .ok (.aload_n 0, 1) := by decide +kernel
theorem dX12_isWord_1 : decode cX12_isWord 1 = .ok (.getfield 130, 3) := by decide +kernel
theorem dX12_isWord_4 : decode cX12_isWord 4 = .ok (.aload_n 0, 1) := by decide +kernel
theorem dX12_isWord_5 : decode cX12_isWord 5 = .ok (.getfield 123, 3) := by decide +kernel
theorem dX12_isWord_8 : decode cX12_isWord 8 = .ok (.isub, 1) := by decide +kernel
theorem dX12_isWord_9 : decode cX12_isWord 9 = .ok (.iload_n 2, 1) := by decide +kernel
theorem dX12_isWord_10 : decode cX12_isWord 10 = .ok (.if_icmp .ne 7, 3) := by decide +kernel
theorem dX12_isWord_13 : decode cX12_isWord 13 = .ok (.iconst 1, 1) := by decide +kernel
theorem dX12_isWord_14 : decode cX12_isWord 14 = .ok (.goto 4, 3) := by decide +kernel
theorem dX12_isWord_17 : decode cX12_isWord 17 = .ok (.iconst 0, 1) := by decide +kernel
theorem dX12_isWord_18 : decode cX12_isWord 18 = .ok (.istore_n 3, 1) := by decide +kernel
theorem dX12_isWord_19 : decode cX12_isWord 19 = .ok (.iconst 0, 1) := by decide +kernel
theorem dX12_isWord_20 : decode cX12_isWord 20 = .ok (.istore 4, 2) := by decide +kernel
theorem dX12_isWord_22 : decode cX12_isWord 22 = .ok (.iload_n 3, 1) := by decide +kernel
theorem dX12_isWord_23 : decode cX12_isWord 23 = .ok (.ifCond .eq 48, 3) := by decide +kernel
theorem dX12_isWord_26 : decode cX12_isWord 26 = .ok (.iload 4, 2) := by decide +kernel
theorem dX12_isWord_28 : decode cX12_isWord 28 = .ok (.iload_n 2, 1) := by decide +kernel
theorem dX12_isWord_29 : decode cX12_isWord 29 = .ok (.if_icmp .ge 42, 3) := by decide +kernel
theorem dX12_isWord_32 : decode cX12_isWord 32 = .ok (.aload_n 0, 1) := by decide +kernel
theorem dX12_isWord_33 : decode cX12_isWord 33 = .ok (.getfield 25, 3) := by decide +kernel
theorem dX12_isWord_36 : decode cX12_isWord 36 = .ok (.aload_n 0, 1) := by decide +kernel
theorem dX12_isWord_37 : decode cX12_isWord 37 = .ok (.getfield 123, 3) := by decide +kernel
theorem dX12_isWord_40 : decode cX12_isWord 40 = .ok (.iload 4, 2) := by decide +kernel
theorem dX12_isWord_42 : decode cX12_isWord 42 = .ok (.iadd, 1) := by decide +kernel
theorem dX12_isWord_43 : decode cX12_isWord 43 = .ok (.iaload, 1) := by decide +kernel
theorem dX12_isWord_44 : decode cX12_isWord 44 = .ok (.bipush 96, 2) := by decide +kernel
theorem dX12_isWord_46 : decode cX12_isWord 46 = .ok (.iload_n 1, 1) := by decide +kernel
theorem dX12_isWord_47 : decode cX12_isWord 47 = .ok (.iconst 5, 1) := by decide +kernel
theorem dX12_isWord_48 : decode cX12_isWord 48 = .ok (.iload 4, 2) := by decide +kernel
theorem dX12_isWord_50 : decode cX12_isWord 50 = .ok (.imul, 1) := by decide +kernel
theorem dX12_isWord_51 : decode cX12_isWord 51 = .ok (.ishr, 1) := by decide +kernel
theorem dX12_isWord_52 : decode cX12_isWord 52 = .ok (.bipush 31, 2) := by decide +kernel
theorem dX12_isWord_54 : decode cX12_isWord 54 = .ok (.iand, 1) := by decide +kernel
theorem dX12_isWord_55 : decode cX12_isWord 55 = .ok (.iadd, 1) := by decide +kernel
theorem dX12_isWord_56 : decode cX12_isWord 56 = .ok (.if_icmp .ne 7, 3) := by decide +kernel
theorem dX12_isWord_59 : decode cX12_isWord 59 = .ok (.iconst 1, 1) := by decide +kernel
theorem dX12_isWord_60 : decode cX12_isWord 60 = .ok (.goto 4, 3) := by decide +kernel
theorem dX12_isWord_63 : decode cX12_isWord 63 = .ok (.iconst 0, 1) := by decide +kernel
theorem dX12_isWord_64 : decode cX12_isWord 64 = .ok (.istore_n 3, 1) := by decide +kernel
theorem dX12_isWord_65 : decode cX12_isWord 65 = .ok (.iinc 4 1, 3) := by decide +kernel
theorem dX12_isWord_68 : decode cX12_isWord 68 = .ok (.goto (-46), 3) := by decide +kernel
theorem dX12_isWord_71 : decode cX12_isWord 71 = .ok (.iload_n 3, 1) := by decide +kernel
theorem dX12_isWord_72 : decode cX12_isWord 72 = .ok (.ireturn, 1) := by decide +kernel
set_option maxRecDepth 20000 in
theorem ggX12_stateNow_X12_token : GoodIn wsX12_stateNow wsX12_token := goodIn_r _ [10, 11, 2, 4, 1, 3, 12, 13, 9, 14, 15, 16, 17, 18, 19, 20, 21, 22, 23, 24, 25, 26, 27, 28, 29, 30, 31, 32, 33, 34, 35, 36, 37, 38, 39, 40, 41, 42, 43, 44, 45, 46, 47, 48, 49, 50, 51, 52, 53, 54, 55, 56, 57] rfl (by decide +kernel)
set_option maxRecDepth 20000 in
theorem gX12_stateNow_X12_token : GoodIn wsX12_stateNow (wsV RX12 133 RX12 yX12_token wsX12_token) := goodIn_app (goodIn_of _ (by decide +kernel)) ggX12_stateNow_X12_token
theorem dX12_stateNow_0 : decode cX12_stateNow 0 = .ok (.aload_n 0, 1) := by decide +kernel
theorem dX12_stateNow_1 : decode cX12_stateNow 1 = .ok (.getfield 123, 3) := by decide +kernel
theorem dX12_stateNow_4 : decode cX12_stateNow 4 = .ok (.aload_n 0, 1) := by decide +kernel
theorem dX12_stateNow_5 : decode cX12_stateNow 5 = .ok (.getfield 114, 3) := by decide +kernel
theorem dX12_stateNow_8 : decode cX12_stateNow 8 = .ok (.if_icmp .ge 55, 3) := by decide +kernel
theorem dX12_stateNow_11 : decode cX12_stateNow 11 = .ok (.aload_n 0, 1) := by decide +kernel
theorem dX12_stateNow_12 : decode cX12_stateNow 12 = .ok (.getfield 130, 3) := by decide +kernel
theorem dX12_stateNow_15 : decode cX12_stateNow 15 = .ok (.aload_n 0, 1) := by decide +kernel
theorem dX12_stateNow_16 : decode cX12_stateNow 16 = .ok (.getfield 123, 3) := by decide +kernel
theorem dX12_stateNow_19 : decode cX12_stateNow 19 = .ok (.isub, 1) := by decide +kernel
theorem dX12_stateNow_20 : decode cX12_stateNow 20 = .ok (.iconst 1, 1) := by decide +kernel
theorem dX12_stateNow_21 : decode cX12_stateNow 21 = .ok (.if_icmp .ne 42, 3) := by decide +kernel
theorem dX12_stateNow_24 : decode cX12_stateNow 24 = .ok (.aload_n 0, 1) := by decide +kernel
theorem dX12_stateNow_25 : decode cX12_stateNow 25 = .ok (.getfield 25, 3) := by decide +kernel
theorem dX12_stateNow_28 : decode cX12_stateNow 28 = .ok (.aload_n 0, 1) := by decide +kernel
theorem dX12_stateNow_29 : decode cX12_stateNow 29 = .ok (.getfield 123, 3) := by decide +kernel
theorem dX12_stateNow_32 : decode cX12_stateNow 32 = .ok (.iaload, 1) := by decide +kernel
theorem dX12_stateNow_33 : decode cX12_stateNow 33 = .ok (.bipush 48, 2) := by decide +kernel
theorem dX12_stateNow_35 : decode cX12_stateNow 35 = .ok (.if_icmp .lt 28, 3) := by decide +kernel
theorem dX12_stateNow_38 : decode cX12_stateNow 38 = .ok (.aload_n 0, 1) := by decide +kernel
theorem dX12_stateNow_39 : decode cX12_stateNow 39 = .ok (.getfield 25, 3) := by decide +kernel
theorem dX12_stateNow_42 : decode cX12_stateNow 42 = .ok (.aload_n 0, 1) := by decide +kernel
theorem dX12_stateNow_43 : decode cX12_stateNow 43 = .ok (.getfield 123, 3) := by decide +kernel
theorem dX12_stateNow_46 : decode cX12_stateNow 46 = .ok (.iaload, 1) := by decide +kernel
theorem dX12_stateNow_47 : decode cX12_stateNow 47 = .ok (.bipush 48, 2) := by decide +kernel
theorem dX12_stateNow_49 : decode cX12_stateNow 49 = .ok (.aload_n 0, 1) := by decide +kernel
theorem dX12_stateNow_50 : decode cX12_stateNow 50 = .ok (.getfield 7, 3) := by decide +kernel
theorem dX12_stateNow_53 : decode cX12_stateNow 53 = .ok (.iload_n 1, 1) := by decide +kernel
theorem dX12_stateNow_54 : decode cX12_stateNow 54 = .ok (.iaload, 1) := by decide +kernel
theorem dX12_stateNow_55 : decode cX12_stateNow 55 = .ok (.iadd, 1) := by decide +kernel
theorem dX12_stateNow_56 : decode cX12_stateNow 56 = .ok (.if_icmp .ge 7, 3) := by decide +kernel
theorem dX12_stateNow_59 : decode cX12_stateNow 59 = .ok (.iconst 1, 1) := by decide +kernel
theorem dX12_stateNow_60 : decode cX12_stateNow 60 = .ok (.goto 4, 3) := by decide +kernel
theorem dX12_stateNow_63 : decode cX12_stateNow 63 = .ok (.iconst 0, 1) := by decide +kernel
theorem dX12_stateNow_64 : decode cX12_stateNow 64 = .ok (.istore_n 2, 1) := by decide +kernel
theorem dX12_stateNow_65 : decode cX12_stateNow 65 = .ok (.iload_n 2, 1) := by decide +kernel
theorem dX12_stateNow_66 : decode cX12_stateNow 66 = .ok (.ifCond .eq 18, 3) := by decide +kernel
theorem dX12_stateNow_69 : decode cX12_stateNow 69 = .ok (.aload_n 0, 1) := by decide +kernel
theorem dX12_stateNow_70 : decode cX12_stateNow 70 = .ok (.getfield 25, 3) := by decide +kernel
theorem dX12_stateNow_73 : decode cX12_stateNow 73 = .ok (.aload_n 0, 1) := by decide +kernel
theorem dX12_stateNow_74 : decode cX12_stateNow 74 = .ok (.getfield 123, 3) := by decide +kernel
theorem dX12_stateNow_77 : decode cX12_stateNow 77 = .ok (.iaload, 1) := by decide +kernel
theorem dX12_stateNow_78 : decode cX12_stateNow 78 = .ok (.bipush 48, 2) := by decide +kernel
theorem dX12_stateNow_80 : decode cX12_stateNow 80 = .ok (.isub, 1) := by decide +kernel
theorem dX12_stateNow_81 : decode cX12_stateNow 81 = .ok (.goto 4, 3) := by decide +kernel
theorem dX12_stateNow_84 : decode cX12_stateNow 84 = .ok (.iconst (-1), 1) := by decide +kernel
theorem dX12_stateNow_85 : decode cX12_stateNow 85 = .ok (.istore_n 3, 1) := by decide +kernel
theorem dX12_stateNow_86 : decode cX12_stateNow 86 = .ok (.iload_n 2, 1) := by decide +kernel
theorem dX12_stateNow_87 : decode cX12_stateNow 87 = .ok (.ifCond .eq 7, 3) := by decide +kernel
theorem dX12_stateNow_90 : decode cX12_stateNow 90 = .ok (.aload_n 0, 1) := by decide +kernel
theorem dX12_stateNow_91 : decode cX12_stateNow 91 = .ok (.invokevirtual 133, 3) := by decide +kernel
theorem dX12_stateNow_94 : decode cX12_stateNow 94 = .ok (.iload_n 3, 1) := by decide +kernel
theorem dX12_stateNow_95 : decode cX12_stateNow 95 = .ok (.ireturn, 1) := by decide +kernel
set_option maxRecDepth 20000 in
theorem ggX12_letterNow_X12_in : GoodIn wsX12_letterNow wsX12_in := goodIn_r _ [10] rfl (by decide +kernel)
set_option maxRecDepth 20000 in
theorem gX12_letterNow_X12_in : GoodIn wsX12_letterNow (va_wsS RX12 102 yX12_in wsX12_in) := goodIn_app (goodIn_of _ (by decide +kernel)) ggX12_letterNow_X12_in
theorem dX12_letterNow_0 : decode cX12_letterNow 0 = .ok (.aload_n 0, 1) := by decide +kernel
theorem dX12_letterNow_1 : decode cX12_letterNow 1 = .ok (.getfield 123, 3) := by decide +kernel
theorem dX12_letterNow_4 : decode cX12_letterNow 4 = .ok (.aload_n 0, 1) := by decide +kernel
theorem dX12_letterNow_5 : decode cX12_letterNow 5 = .ok (.getfield 114, 3) := by decide +kernel
theorem dX12_letterNow_8 : decode cX12_letterNow 8 = .ok (.if_icmp .ge 53, 3) := by decide +kernel
theorem dX12_letterNow_11 : decode cX12_letterNow 11 = .ok (.aload_n 0, 1) := by decide +kernel
theorem dX12_letterNow_12 : decode cX12_letterNow 12 = .ok (.getfield 130, 3) := by decide +kernel
theorem dX12_letterNow_15 : decode cX12_letterNow 15 = .ok (.aload_n 0, 1) := by decide +kernel
theorem dX12_letterNow_16 : decode cX12_letterNow 16 = .ok (.getfield 123, 3) := by decide +kernel
theorem dX12_letterNow_19 : decode cX12_letterNow 19 = .ok (.isub, 1) := by decide +kernel
theorem dX12_letterNow_20 : decode cX12_letterNow 20 = .ok (.iconst 1, 1) := by decide +kernel
theorem dX12_letterNow_21 : decode cX12_letterNow 21 = .ok (.if_icmp .ne 40, 3) := by decide +kernel
theorem dX12_letterNow_24 : decode cX12_letterNow 24 = .ok (.aload_n 0, 1) := by decide +kernel
theorem dX12_letterNow_25 : decode cX12_letterNow 25 = .ok (.getfield 25, 3) := by decide +kernel
theorem dX12_letterNow_28 : decode cX12_letterNow 28 = .ok (.aload_n 0, 1) := by decide +kernel
theorem dX12_letterNow_29 : decode cX12_letterNow 29 = .ok (.getfield 123, 3) := by decide +kernel
theorem dX12_letterNow_32 : decode cX12_letterNow 32 = .ok (.iaload, 1) := by decide +kernel
theorem dX12_letterNow_33 : decode cX12_letterNow 33 = .ok (.i2l, 1) := by decide +kernel
theorem dX12_letterNow_34 : decode cX12_letterNow 34 = .ok (.ldc2_w 136, 3) := by decide +kernel
theorem dX12_letterNow_37 : decode cX12_letterNow 37 = .ok (.ldc2_w 138, 3) := by decide +kernel
theorem dX12_letterNow_40 : decode cX12_letterNow 40 = .ok (.invokestatic 102, 3) := by decide +kernel
theorem dX12_letterNow_43 : decode cX12_letterNow 43 = .ok (.ifCond .eq 18, 3) := by decide +kernel
theorem dX12_letterNow_46 : decode cX12_letterNow 46 = .ok (.aload_n 0, 1) := by decide +kernel
theorem dX12_letterNow_47 : decode cX12_letterNow 47 = .ok (.getfield 25, 3) := by decide +kernel
theorem dX12_letterNow_50 : decode cX12_letterNow 50 = .ok (.aload_n 0, 1) := by decide +kernel
theorem dX12_letterNow_51 : decode cX12_letterNow 51 = .ok (.getfield 123, 3) := by decide +kernel
theorem dX12_letterNow_54 : decode cX12_letterNow 54 = .ok (.iaload, 1) := by decide +kernel
theorem dX12_letterNow_55 : decode cX12_letterNow 55 = .ok (.bipush 97, 2) := by decide +kernel
theorem dX12_letterNow_57 : decode cX12_letterNow 57 = .ok (.isub, 1) := by decide +kernel
theorem dX12_letterNow_58 : decode cX12_letterNow 58 = .ok (.goto 4, 3) := by decide +kernel
theorem dX12_letterNow_61 : decode cX12_letterNow 61 = .ok (.iconst (-1), 1) := by decide +kernel
theorem dX12_letterNow_62 : decode cX12_letterNow 62 = .ok (.ireturn, 1) := by decide +kernel
set_option maxRecDepth 20000 in
theorem ggX12_readsMove_X12_stateNow : GoodIn wsX12_readsMove wsX12_stateNow := goodIn_r _ [15, 16, 17, 18, 19, 20, 21, 22, 23, 14, 24, 25, 26, 27, 28, 42, 43, 44, 45, 46, 47, 48, 49, 50, 51, 52, 53, 54, 55, 56, 57, 58, 59, 60, 61, 62, 63, 64, 65, 66, 67, 68, 69, 70, 71, 72, 73, 74, 75, 76, 77, 78, 79, 80, 81, 82, 83, 84] rfl (by decide +kernel)
set_option maxRecDepth 20000 in
theorem gX12_readsMove_X12_stateNow : GoodIn wsX12_readsMove (wsV RX12 143 RX12 yX12_stateNow wsX12_stateNow) := goodIn_app (goodIn_of _ (by decide +kernel)) ggX12_readsMove_X12_stateNow
set_option maxRecDepth 20000 in
theorem ggX12_readsMove_X12_isWord : GoodIn wsX12_readsMove wsX12_isWord := goodIn_r _ [32, 18, 16, 19, 42, 43, 44, 45, 46, 47, 48, 49, 50, 51, 52, 53, 54, 55, 56, 57, 58, 59, 60, 61, 62, 63, 64, 65, 66, 67, 68, 69, 70, 71, 72, 73, 74, 75, 76, 77, 78, 79, 80, 81, 82, 83, 84] rfl (by decide +kernel)
set_option maxRecDepth 20000 in
theorem gX12_readsMove_X12_isWord : GoodIn wsX12_readsMove (wsV RX12 147 RX12 yX12_isWord wsX12_isWord) := goodIn_app (goodIn_of _ (by decide +kernel)) ggX12_readsMove_X12_isWord
set_option maxRecDepth 20000 in
theorem ggX12_readsMove_X12_letterNow : GoodIn wsX12_readsMove wsX12_letterNow := goodIn_r _ [36, 16, 17, 18, 19, 37, 38, 39, 40, 14, 41, 42, 43, 44, 45, 46, 47, 48, 49, 50, 51, 52, 53, 54, 55, 56, 57, 58, 59, 60, 61, 62, 63, 64, 65, 66, 67, 68, 69, 70, 71, 72, 73, 74, 75, 76, 77, 78, 79, 80, 81, 82, 83, 84] rfl (by decide +kernel)
set_option maxRecDepth 20000 in
theorem gX12_readsMove_X12_letterNow : GoodIn wsX12_readsMove (wsV RX12 152 RX12 yX12_letterNow wsX12_letterNow) := goodIn_app (goodIn_of _ (by decide +kernel)) ggX12_readsMove_X12_letterNow
set_option maxRecDepth 20000 in
theorem ggX12_readsMove_X12_token : GoodIn wsX12_readsMove wsX12_token := goodIn_r _ [24, 25, 17, 19, 16, 18, 26, 27, 14, 28, 42, 43, 44, 45, 46, 47, 48, 49, 50, 51, 52, 53, 54, 55, 56, 57, 58, 59, 60, 61, 62, 63, 64, 65, 66, 67, 68, 69, 70, 71, 72, 73, 74, 75, 76, 77, 78, 79, 80, 81, 82, 83, 84] rfl (by decide +kernel)
set_option maxRecDepth 20000 in
theorem gX12_readsMove_X12_token : GoodIn wsX12_readsMove (wsV RX12 133 RX12 yX12_token wsX12_token) := goodIn_app (goodIn_of _ (by decide +kernel)) ggX12_readsMove_X12_token
theorem dX12_readsMove_0 : decode cX12_readsMove 0 = .ok (.aload_n 0, 1) := by decide +kernel
theorem dX12_readsMove_1 : decode cX12_readsMove 1 = .ok (.getfield 140, 3) := by decide +kernel
theorem dX12_readsMove_4 : decode cX12_readsMove 4 = .ok (.istore_n 2, 1) := by decide +kernel
theorem dX12_readsMove_5 : decode cX12_readsMove 5 = .ok (.aload_n 0, 1) := by decide +kernel
theorem dX12_readsMove_6 : decode cX12_readsMove 6 = .ok (.getfield 28, 3) := by decide +kernel
theorem dX12_readsMove_9 : decode cX12_readsMove 9 = .ok (.iload_n 2, 1) := by decide +kernel
theorem dX12_readsMove_10 : decode cX12_readsMove 10 = .ok (.aload_n 0, 1) := by decide +kernel
theorem dX12_readsMove_11 : decode cX12_readsMove 11 = .ok (.iload_n 1, 1) := by decide +kernel
theorem dX12_readsMove_12 : decode cX12_readsMove 12 = .ok (.invokevirtual 143, 3) := by decide +kernel
theorem dX12_readsMove_15 : decode cX12_readsMove 15 = .ok (.iastore, 1) := by decide +kernel
theorem dX12_readsMove_16 : decode cX12_readsMove 16 = .ok (.aload_n 0, 1) := by decide +kernel
theorem dX12_readsMove_17 : decode cX12_readsMove 17 = .ok (.getfield 28, 3) := by decide +kernel
theorem dX12_readsMove_20 : decode cX12_readsMove 20 = .ok (.iload_n 2, 1) := by decide +kernel
theorem dX12_readsMove_21 : decode cX12_readsMove 21 = .ok (.iaload, 1) := by decide +kernel
theorem dX12_readsMove_22 : decode cX12_readsMove 22 = .ok (.iconst (-1), 1) := by decide +kernel
theorem dX12_readsMove_23 : decode cX12_readsMove 23 = .ok (.if_icmp .ne 5, 3) := by decide +kernel
theorem dX12_readsMove_26 : decode cX12_readsMove 26 = .ok (.iconst 0, 1) := by decide +kernel
theorem dX12_readsMove_27 : decode cX12_readsMove 27 = .ok (.ireturn, 1) := by decide +kernel
theorem dX12_readsMove_28 : decode cX12_readsMove 28 = .ok (.aload_n 0, 1) := by decide +kernel
theorem dX12_readsMove_29 : decode cX12_readsMove 29 = .ok (.getfield 31, 3) := by decide +kernel
theorem dX12_readsMove_32 : decode cX12_readsMove 32 = .ok (.iload_n 2, 1) := by decide +kernel
theorem dX12_readsMove_33 : decode cX12_readsMove 33 = .ok (.aload_n 0, 1) := by decide +kernel
theorem dX12_readsMove_34 : decode cX12_readsMove 34 = .ok (.ldc 146, 2) := by decide +kernel
theorem dX12_readsMove_36 : decode cX12_readsMove 36 = .ok (.iconst 5, 1) := by decide +kernel
theorem dX12_readsMove_37 : decode cX12_readsMove 37 = .ok (.invokevirtual 147, 3) := by decide +kernel
theorem dX12_readsMove_40 : decode cX12_readsMove 40 = .ok (.ifCond .eq 7, 3) := by decide +kernel
theorem dX12_readsMove_43 : decode cX12_readsMove 43 = .ok (.iconst 3, 1) := by decide +kernel
theorem dX12_readsMove_44 : decode cX12_readsMove 44 = .ok (.goto 21, 3) := by decide +kernel
theorem dX12_readsMove_47 : decode cX12_readsMove 47 = .ok (.aload_n 0, 1) := by decide +kernel
theorem dX12_readsMove_48 : decode cX12_readsMove 48 = .ok (.ldc 151, 2) := by decide +kernel
theorem dX12_readsMove_50 : decode cX12_readsMove 50 = .ok (.iconst 4, 1) := by decide +kernel
theorem dX12_readsMove_51 : decode cX12_readsMove 51 = .ok (.invokevirtual 147, 3) := by decide +kernel
theorem dX12_readsMove_54 : decode cX12_readsMove 54 = .ok (.ifCond .eq 7, 3) := by decide +kernel
theorem dX12_readsMove_57 : decode cX12_readsMove 57 = .ok (.iconst 4, 1) := by decide +kernel
theorem dX12_readsMove_58 : decode cX12_readsMove 58 = .ok (.goto 7, 3) := by decide +kernel
theorem dX12_readsMove_61 : decode cX12_readsMove 61 = .ok (.aload_n 0, 1) := by decide +kernel
theorem dX12_readsMove_62 : decode cX12_readsMove 62 = .ok (.invokevirtual 152, 3) := by decide +kernel
theorem dX12_readsMove_65 : decode cX12_readsMove 65 = .ok (.iastore, 1) := by decide +kernel
theorem dX12_readsMove_66 : decode cX12_readsMove 66 = .ok (.aload_n 0, 1) := by decide +kernel
theorem dX12_readsMove_67 : decode cX12_readsMove 67 = .ok (.getfield 31, 3) := by decide +kernel
theorem dX12_readsMove_70 : decode cX12_readsMove 70 = .ok (.iload_n 2, 1) := by decide +kernel
theorem dX12_readsMove_71 : decode cX12_readsMove 71 = .ok (.iaload, 1) := by decide +kernel
theorem dX12_readsMove_72 : decode cX12_readsMove 72 = .ok (.iconst (-1), 1) := by decide +kernel
theorem dX12_readsMove_73 : decode cX12_readsMove 73 = .ok (.if_icmp .ne 5, 3) := by decide +kernel
theorem dX12_readsMove_76 : decode cX12_readsMove 76 = .ok (.iconst 0, 1) := by decide +kernel
theorem dX12_readsMove_77 : decode cX12_readsMove 77 = .ok (.ireturn, 1) := by decide +kernel
theorem dX12_readsMove_78 : decode cX12_readsMove 78 = .ok (.aload_n 0, 1) := by decide +kernel
theorem dX12_readsMove_79 : decode cX12_readsMove 79 = .ok (.invokevirtual 133, 3) := by decide +kernel
theorem dX12_readsMove_82 : decode cX12_readsMove 82 = .ok (.aload_n 0, 1) := by decide +kernel
theorem dX12_readsMove_83 : decode cX12_readsMove 83 = .ok (.getfield 34, 3) := by decide +kernel
theorem dX12_readsMove_86 : decode cX12_readsMove 86 = .ok (.iload_n 2, 1) := by decide +kernel
theorem dX12_readsMove_87 : decode cX12_readsMove 87 = .ok (.aload_n 0, 1) := by decide +kernel
theorem dX12_readsMove_88 : decode cX12_readsMove 88 = .ok (.ldc 156, 2) := by decide +kernel
theorem dX12_readsMove_90 : decode cX12_readsMove 90 = .ok (.iconst 4, 1) := by decide +kernel
theorem dX12_readsMove_91 : decode cX12_readsMove 91 = .ok (.invokevirtual 147, 3) := by decide +kernel
theorem dX12_readsMove_94 : decode cX12_readsMove 94 = .ok (.ifCond .eq 7, 3) := by decide +kernel
theorem dX12_readsMove_97 : decode cX12_readsMove 97 = .ok (.iconst 0, 1) := by decide +kernel
theorem dX12_readsMove_98 : decode cX12_readsMove 98 = .ok (.goto 18, 3) := by decide +kernel
theorem dX12_readsMove_101 : decode cX12_readsMove 101 = .ok (.aload_n 0, 1) := by decide +kernel
theorem dX12_readsMove_102 : decode cX12_readsMove 102 = .ok (.ldc 157, 2) := by decide +kernel
theorem dX12_readsMove_104 : decode cX12_readsMove 104 = .ok (.iconst 5, 1) := by decide +kernel
theorem dX12_readsMove_105 : decode cX12_readsMove 105 = .ok (.invokevirtual 147, 3) := by decide +kernel
theorem dX12_readsMove_108 : decode cX12_readsMove 108 = .ok (.ifCond .eq 7, 3) := by decide +kernel
theorem dX12_readsMove_111 : decode cX12_readsMove 111 = .ok (.iconst 1, 1) := by decide +kernel
theorem dX12_readsMove_112 : decode cX12_readsMove 112 = .ok (.goto 4, 3) := by decide +kernel
theorem dX12_readsMove_115 : decode cX12_readsMove 115 = .ok (.iconst (-1), 1) := by decide +kernel
theorem dX12_readsMove_116 : decode cX12_readsMove 116 = .ok (.iastore, 1) := by decide +kernel
theorem dX12_readsMove_117 : decode cX12_readsMove 117 = .ok (.aload_n 0, 1) := by decide +kernel
theorem dX12_readsMove_118 : decode cX12_readsMove 118 = .ok (.getfield 34, 3) := by decide +kernel
theorem dX12_readsMove_121 : decode cX12_readsMove 121 = .ok (.iload_n 2, 1) := by decide +kernel
theorem dX12_readsMove_122 : decode cX12_readsMove 122 = .ok (.iaload, 1) := by decide +kernel
theorem dX12_readsMove_123 : decode cX12_readsMove 123 = .ok (.iconst (-1), 1) := by decide +kernel
theorem dX12_readsMove_124 : decode cX12_readsMove 124 = .ok (.if_icmp .eq 42, 3) := by decide +kernel
theorem dX12_readsMove_127 : decode cX12_readsMove 127 = .ok (.aload_n 0, 1) := by decide +kernel
theorem dX12_readsMove_128 : decode cX12_readsMove 128 = .ok (.getfield 34, 3) := by decide +kernel
theorem dX12_readsMove_131 : decode cX12_readsMove 131 = .ok (.iload_n 2, 1) := by decide +kernel
theorem dX12_readsMove_132 : decode cX12_readsMove 132 = .ok (.iaload, 1) := by decide +kernel
theorem dX12_readsMove_133 : decode cX12_readsMove 133 = .ok (.ifCond .ne 13, 3) := by decide +kernel
theorem dX12_readsMove_136 : decode cX12_readsMove 136 = .ok (.aload_n 0, 1) := by decide +kernel
theorem dX12_readsMove_137 : decode cX12_readsMove 137 = .ok (.getfield 31, 3) := by decide +kernel
theorem dX12_readsMove_140 : decode cX12_readsMove 140 = .ok (.iload_n 2, 1) := by decide +kernel
theorem dX12_readsMove_141 : decode cX12_readsMove 141 = .ok (.iaload, 1) := by decide +kernel
theorem dX12_readsMove_142 : decode cX12_readsMove 142 = .ok (.iconst 3, 1) := by decide +kernel
theorem dX12_readsMove_143 : decode cX12_readsMove 143 = .ok (.if_icmp .eq 23, 3) := by decide +kernel
theorem dX12_readsMove_146 : decode cX12_readsMove 146 = .ok (.aload_n 0, 1) := by decide +kernel
theorem dX12_readsMove_147 : decode cX12_readsMove 147 = .ok (.getfield 34, 3) := by decide +kernel
theorem dX12_readsMove_150 : decode cX12_readsMove 150 = .ok (.iload_n 2, 1) := by decide +kernel
theorem dX12_readsMove_151 : decode cX12_readsMove 151 = .ok (.iaload, 1) := by decide +kernel
theorem dX12_readsMove_152 : decode cX12_readsMove 152 = .ok (.iconst 1, 1) := by decide +kernel
theorem dX12_readsMove_153 : decode cX12_readsMove 153 = .ok (.if_icmp .ne 15, 3) := by decide +kernel
theorem dX12_readsMove_156 : decode cX12_readsMove 156 = .ok (.aload_n 0, 1) := by decide +kernel
theorem dX12_readsMove_157 : decode cX12_readsMove 157 = .ok (.getfield 31, 3) := by decide +kernel
theorem dX12_readsMove_160 : decode cX12_readsMove 160 = .ok (.iload_n 2, 1) := by decide +kernel
theorem dX12_readsMove_161 : decode cX12_readsMove 161 = .ok (.iaload, 1) := by decide +kernel
theorem dX12_readsMove_162 : decode cX12_readsMove 162 = .ok (.iconst 4, 1) := by decide +kernel
theorem dX12_readsMove_163 : decode cX12_readsMove 163 = .ok (.if_icmp .ne 5, 3) := by decide +kernel
theorem dX12_readsMove_166 : decode cX12_readsMove 166 = .ok (.iconst 0, 1) := by decide +kernel
theorem dX12_readsMove_167 : decode cX12_readsMove 167 = .ok (.ireturn, 1) := by decide +kernel
theorem dX12_readsMove_168 : decode cX12_readsMove 168 = .ok (.aload_n 0, 1) := by decide +kernel
theorem dX12_readsMove_169 : decode cX12_readsMove 169 = .ok (.invokevirtual 133, 3) := by decide +kernel
theorem dX12_readsMove_172 : decode cX12_readsMove 172 = .ok (.aload_n 0, 1) := by decide +kernel
theorem dX12_readsMove_173 : decode cX12_readsMove 173 = .ok (.sipush 500, 3) := by decide +kernel
theorem dX12_readsMove_176 : decode cX12_readsMove 176 = .ok (.iconst 2, 1) := by decide +kernel
theorem dX12_readsMove_177 : decode cX12_readsMove 177 = .ok (.invokevirtual 147, 3) := by decide +kernel
theorem dX12_readsMove_180 : decode cX12_readsMove 180 = .ok (.ifCond .ne 5, 3) := by decide +kernel
theorem dX12_readsMove_183 : decode cX12_readsMove 183 = .ok (.iconst 0, 1) := by decide +kernel
theorem dX12_readsMove_184 : decode cX12_readsMove 184 = .ok (.ireturn, 1) := by decide +kernel
theorem dX12_readsMove_185 : decode cX12_readsMove 185 = .ok (.aload_n 0, 1) := by decide +kernel
theorem dX12_readsMove_186 : decode cX12_readsMove 186 = .ok (.invokevirtual 133, 3) := by decide +kernel
theorem dX12_readsMove_189 : decode cX12_readsMove 189 = .ok (.aload_n 0, 1) := by decide +kernel
theorem dX12_readsMove_190 : decode cX12_readsMove 190 = .ok (.getfield 37, 3) := by decide +kernel
theorem dX12_readsMove_193 : decode cX12_readsMove 193 = .ok (.iload_n 2, 1) := by decide +kernel
theorem dX12_readsMove_194 : decode cX12_readsMove 194 = .ok (.aload_n 0, 1) := by decide +kernel
theorem dX12_readsMove_195 : decode cX12_readsMove 195 = .ok (.iload_n 1, 1) := by decide +kernel
theorem dX12_readsMove_196 : decode cX12_readsMove 196 = .ok (.invokevirtual 143, 3) := by decide +kernel
theorem dX12_readsMove_199 : decode cX12_readsMove 199 = .ok (.iastore, 1) := by decide +kernel
theorem dX12_readsMove_200 : decode cX12_readsMove 200 = .ok (.aload_n 0, 1) := by decide +kernel
theorem dX12_readsMove_201 : decode cX12_readsMove 201 = .ok (.getfield 37, 3) := by decide +kernel
theorem dX12_readsMove_204 : decode cX12_readsMove 204 = .ok (.iload_n 2, 1) := by decide +kernel
theorem dX12_readsMove_205 : decode cX12_readsMove 205 = .ok (.iaload, 1) := by decide +kernel
theorem dX12_readsMove_206 : decode cX12_readsMove 206 = .ok (.iconst (-1), 1) := by decide +kernel
theorem dX12_readsMove_207 : decode cX12_readsMove 207 = .ok (.if_icmp .ne 5, 3) := by decide +kernel
theorem dX12_readsMove_210 : decode cX12_readsMove 210 = .ok (.iconst 0, 1) := by decide +kernel
theorem dX12_readsMove_211 : decode cX12_readsMove 211 = .ok (.ireturn, 1) := by decide +kernel
theorem dX12_readsMove_212 : decode cX12_readsMove 212 = .ok (.aload_n 0, 1) := by decide +kernel
theorem dX12_readsMove_213 : decode cX12_readsMove 213 = .ok (.getfield 40, 3) := by decide +kernel
theorem dX12_readsMove_216 : decode cX12_readsMove 216 = .ok (.iload_n 2, 1) := by decide +kernel
theorem dX12_readsMove_217 : decode cX12_readsMove 217 = .ok (.iconst (-1), 1) := by decide +kernel
theorem dX12_readsMove_218 : decode cX12_readsMove 218 = .ok (.iastore, 1) := by decide +kernel
theorem dX12_readsMove_219 : decode cX12_readsMove 219 = .ok (.aload_n 0, 1) := by decide +kernel
theorem dX12_readsMove_220 : decode cX12_readsMove 220 = .ok (.sipush 25651, 3) := by decide +kernel
theorem dX12_readsMove_223 : decode cX12_readsMove 223 = .ok (.iconst 3, 1) := by decide +kernel
theorem dX12_readsMove_224 : decode cX12_readsMove 224 = .ok (.invokevirtual 147, 3) := by decide +kernel
theorem dX12_readsMove_227 : decode cX12_readsMove 227 = .ok (.ifCond .eq 33, 3) := by decide +kernel
theorem dX12_readsMove_230 : decode cX12_readsMove 230 = .ok (.aload_n 0, 1) := by decide +kernel
theorem dX12_readsMove_231 : decode cX12_readsMove 231 = .ok (.invokevirtual 133, 3) := by decide +kernel
theorem dX12_readsMove_234 : decode cX12_readsMove 234 = .ok (.aload_n 0, 1) := by decide +kernel
theorem dX12_readsMove_235 : decode cX12_readsMove 235 = .ok (.getfield 40, 3) := by decide +kernel
theorem dX12_readsMove_238 : decode cX12_readsMove 238 = .ok (.iload_n 2, 1) := by decide +kernel
theorem dX12_readsMove_239 : decode cX12_readsMove 239 = .ok (.aload_n 0, 1) := by decide +kernel
theorem dX12_readsMove_240 : decode cX12_readsMove 240 = .ok (.invokevirtual 152, 3) := by decide +kernel
theorem dX12_readsMove_243 : decode cX12_readsMove 243 = .ok (.iastore, 1) := by decide +kernel
theorem dX12_readsMove_244 : decode cX12_readsMove 244 = .ok (.aload_n 0, 1) := by decide +kernel
theorem dX12_readsMove_245 : decode cX12_readsMove 245 = .ok (.getfield 40, 3) := by decide +kernel
theorem dX12_readsMove_248 : decode cX12_readsMove 248 = .ok (.iload_n 2, 1) := by decide +kernel
theorem dX12_readsMove_249 : decode cX12_readsMove 249 = .ok (.iaload, 1) := by decide +kernel
theorem dX12_readsMove_250 : decode cX12_readsMove 250 = .ok (.iconst (-1), 1) := by decide +kernel
theorem dX12_readsMove_251 : decode cX12_readsMove 251 = .ok (.if_icmp .ne 5, 3) := by decide +kernel
theorem dX12_readsMove_254 : decode cX12_readsMove 254 = .ok (.iconst 0, 1) := by decide +kernel
theorem dX12_readsMove_255 : decode cX12_readsMove 255 = .ok (.ireturn, 1) := by decide +kernel
theorem dX12_readsMove_256 : decode cX12_readsMove 256 = .ok (.aload_n 0, 1) := by decide +kernel
theorem dX12_readsMove_257 : decode cX12_readsMove 257 = .ok (.invokevirtual 133, 3) := by decide +kernel
theorem dX12_readsMove_260 : decode cX12_readsMove 260 = .ok (.aload_n 0, 1) := by decide +kernel
theorem dX12_readsMove_261 : decode cX12_readsMove 261 = .ok (.dup, 1) := by decide +kernel
theorem dX12_readsMove_262 : decode cX12_readsMove 262 = .ok (.getfield 140, 3) := by decide +kernel
theorem dX12_readsMove_265 : decode cX12_readsMove 265 = .ok (.iconst 1, 1) := by decide +kernel
theorem dX12_readsMove_266 : decode cX12_readsMove 266 = .ok (.iadd, 1) := by decide +kernel
theorem dX12_readsMove_267 : decode cX12_readsMove 267 = .ok (.putfield 140, 3) := by decide +kernel
theorem dX12_readsMove_270 : decode cX12_readsMove 270 = .ok (.iconst 1, 1) := by decide +kernel
theorem dX12_readsMove_271 : decode cX12_readsMove 271 = .ok (.ireturn, 1) := by decide +kernel
set_option maxRecDepth 20000 in
theorem ggX12_fault_X12_isReader : GoodIn wsX12_fault wsX12_isReader := goodIn_r _ [10, 11, 12, 9, 13] rfl (by decide +kernel)
set_option maxRecDepth 20000 in
theorem gX12_fault_X12_isReader : GoodIn wsX12_fault (va_wsS RX12 106 yX12_isReader wsX12_isReader) := goodIn_app (goodIn_of _ (by decide +kernel)) ggX12_fault_X12_isReader
set_option maxRecDepth 20000 in
theorem ggX12_fault_X12_token : GoodIn wsX12_fault wsX12_token := goodIn_r _ [17, 1, 4, 6, 3, 5, 18, 19, 9, 20, 49, 50, 51, 52, 53, 54, 55, 56, 57, 58, 59, 60, 61, 62, 63, 64, 65, 66, 67, 68, 69, 70, 71, 72, 73, 74, 75, 76, 77, 78, 79, 80, 81, 82, 83, 84, 85, 86, 87, 88, 89, 90, 91] rfl (by decide +kernel)
set_option maxRecDepth 20000 in
theorem gX12_fault_X12_token : GoodIn wsX12_fault (wsV RX12 133 RX12 yX12_token wsX12_token) := goodIn_app (goodIn_of _ (by decide +kernel)) ggX12_fault_X12_token
set_option maxRecDepth 20000 in
theorem ggX12_fault_X12_readsMove : GoodIn wsX12_fault wsX12_readsMove := goodIn_r _ [24, 2, 25, 26, 27, 28, 29, 30, 31, 32, 33, 34, 35, 36, 9, 37, 3, 4, 5, 6, 38, 14, 15, 16, 17, 1, 18, 19, 20, 39, 40, 41, 42, 43, 44, 45, 46, 47, 48, 11, 12, 13, 49, 50, 51, 52, 53, 54, 55, 56, 57, 58, 59, 60, 61, 62, 63, 64, 65, 66, 67, 68, 69, 70, 71, 72, 73, 74, 75, 76, 77, 78, 79, 80, 81, 82, 83, 84, 85, 86, 87, 88, 89, 90, 91] rfl (by decide +kernel)
set_option maxRecDepth 20000 in
theorem gX12_fault_X12_readsMove : GoodIn wsX12_fault (wsV RX12 158 RX12 yX12_readsMove wsX12_readsMove) := goodIn_app (goodIn_of _ (by decide +kernel)) ggX12_fault_X12_readsMove
theorem dX12_fault_0 : decode cX12_fault 0 = .ok (.iload_n 1, 1) := by decide +kernel
theorem dX12_fault_1 : decode cX12_fault 1 = .ok (.invokestatic 106, 3) := by decide +kernel
theorem dX12_fault_4 : decode cX12_fault 4 = .ok (.ifCond .ne 6, 3) := by decide +kernel
theorem dX12_fault_7 : decode cX12_fault 7 = .ok (.bipush (-2), 2) := by decide +kernel
theorem dX12_fault_9 : decode cX12_fault 9 = .ok (.ireturn, 1) := by decide +kernel
theorem dX12_fault_10 : decode cX12_fault 10 = .ok (.aload_n 0, 1) := by decide +kernel
theorem dX12_fault_11 : decode cX12_fault 11 = .ok (.iconst 0, 1) := by decide +kernel
theorem dX12_fault_12 : decode cX12_fault 12 = .ok (.putfield 120, 3) := by decide +kernel
theorem dX12_fault_15 : decode cX12_fault 15 = .ok (.aload_n 0, 1) := by decide +kernel
theorem dX12_fault_16 : decode cX12_fault 16 = .ok (.iconst 0, 1) := by decide +kernel
theorem dX12_fault_17 : decode cX12_fault 17 = .ok (.putfield 140, 3) := by decide +kernel
theorem dX12_fault_20 : decode cX12_fault 20 = .ok (.aload_n 0, 1) := by decide +kernel
theorem dX12_fault_21 : decode cX12_fault 21 = .ok (.invokevirtual 133, 3) := by decide +kernel
theorem dX12_fault_24 : decode cX12_fault 24 = .ok (.aload_n 0, 1) := by decide +kernel
theorem dX12_fault_25 : decode cX12_fault 25 = .ok (.iload_n 1, 1) := by decide +kernel
theorem dX12_fault_26 : decode cX12_fault 26 = .ok (.invokevirtual 158, 3) := by decide +kernel
theorem dX12_fault_29 : decode cX12_fault 29 = .ok (.ifCond .ne 8, 3) := by decide +kernel
theorem dX12_fault_32 : decode cX12_fault 32 = .ok (.aload_n 0, 1) := by decide +kernel
theorem dX12_fault_33 : decode cX12_fault 33 = .ok (.getfield 123, 3) := by decide +kernel
theorem dX12_fault_36 : decode cX12_fault 36 = .ok (.ireturn, 1) := by decide +kernel
theorem dX12_fault_37 : decode cX12_fault 37 = .ok (.aload_n 0, 1) := by decide +kernel
theorem dX12_fault_38 : decode cX12_fault 38 = .ok (.getfield 123, 3) := by decide +kernel
theorem dX12_fault_41 : decode cX12_fault 41 = .ok (.aload_n 0, 1) := by decide +kernel
theorem dX12_fault_42 : decode cX12_fault 42 = .ok (.getfield 114, 3) := by decide +kernel
theorem dX12_fault_45 : decode cX12_fault 45 = .ok (.if_icmp .ge 62, 3) := by decide +kernel
theorem dX12_fault_48 : decode cX12_fault 48 = .ok (.aload_n 0, 1) := by decide +kernel
theorem dX12_fault_49 : decode cX12_fault 49 = .ok (.getfield 130, 3) := by decide +kernel
theorem dX12_fault_52 : decode cX12_fault 52 = .ok (.aload_n 0, 1) := by decide +kernel
theorem dX12_fault_53 : decode cX12_fault 53 = .ok (.getfield 123, 3) := by decide +kernel
theorem dX12_fault_56 : decode cX12_fault 56 = .ok (.isub, 1) := by decide +kernel
theorem dX12_fault_57 : decode cX12_fault 57 = .ok (.iconst 1, 1) := by decide +kernel
theorem dX12_fault_58 : decode cX12_fault 58 = .ok (.if_icmp .ne 21, 3) := by decide +kernel
theorem dX12_fault_61 : decode cX12_fault 61 = .ok (.aload_n 0, 1) := by decide +kernel
theorem dX12_fault_62 : decode cX12_fault 62 = .ok (.getfield 25, 3) := by decide +kernel
theorem dX12_fault_65 : decode cX12_fault 65 = .ok (.aload_n 0, 1) := by decide +kernel
theorem dX12_fault_66 : decode cX12_fault 66 = .ok (.getfield 123, 3) := by decide +kernel
theorem dX12_fault_69 : decode cX12_fault 69 = .ok (.iaload, 1) := by decide +kernel
theorem dX12_fault_70 : decode cX12_fault 70 = .ok (.bipush 59, 2) := by decide +kernel
theorem dX12_fault_72 : decode cX12_fault 72 = .ok (.if_icmp .ne 7, 3) := by decide +kernel
theorem dX12_fault_75 : decode cX12_fault 75 = .ok (.iconst 1, 1) := by decide +kernel
theorem dX12_fault_76 : decode cX12_fault 76 = .ok (.goto 4, 3) := by decide +kernel
theorem dX12_fault_79 : decode cX12_fault 79 = .ok (.iconst 0, 1) := by decide +kernel
theorem dX12_fault_80 : decode cX12_fault 80 = .ok (.istore_n 2, 1) := by decide +kernel
theorem dX12_fault_81 : decode cX12_fault 81 = .ok (.iload_n 2, 1) := by decide +kernel
theorem dX12_fault_82 : decode cX12_fault 82 = .ok (.ifCond .eq 13, 3) := by decide +kernel
theorem dX12_fault_85 : decode cX12_fault 85 = .ok (.aload_n 0, 1) := by decide +kernel
theorem dX12_fault_86 : decode cX12_fault 86 = .ok (.invokevirtual 133, 3) := by decide +kernel
theorem dX12_fault_89 : decode cX12_fault 89 = .ok (.aload_n 0, 1) := by decide +kernel
theorem dX12_fault_90 : decode cX12_fault 90 = .ok (.iload_n 1, 1) := by decide +kernel
theorem dX12_fault_91 : decode cX12_fault 91 = .ok (.invokevirtual 158, 3) := by decide +kernel
theorem dX12_fault_94 : decode cX12_fault 94 = .ok (.istore_n 2, 1) := by decide +kernel
theorem dX12_fault_95 : decode cX12_fault 95 = .ok (.iload_n 2, 1) := by decide +kernel
theorem dX12_fault_96 : decode cX12_fault 96 = .ok (.ifCond .ne 8, 3) := by decide +kernel
theorem dX12_fault_99 : decode cX12_fault 99 = .ok (.aload_n 0, 1) := by decide +kernel
theorem dX12_fault_100 : decode cX12_fault 100 = .ok (.getfield 123, 3) := by decide +kernel
theorem dX12_fault_103 : decode cX12_fault 103 = .ok (.ireturn, 1) := by decide +kernel
theorem dX12_fault_104 : decode cX12_fault 104 = .ok (.goto (-67), 3) := by decide +kernel
theorem dX12_fault_107 : decode cX12_fault 107 = .ok (.iconst (-1), 1) := by decide +kernel
theorem dX12_fault_108 : decode cX12_fault 108 = .ok (.ireturn, 1) := by decide +kernel
theorem dX12_movesOf_0 : decode cX12_movesOf 0 = .ok (.iconst 0, 1) := by decide +kernel
theorem dX12_movesOf_1 : decode cX12_movesOf 1 = .ok (.istore_n 2, 1) := by decide +kernel
theorem dX12_movesOf_2 : decode cX12_movesOf 2 = .ok (.bipush 25, 2) := by decide +kernel
theorem dX12_movesOf_4 : decode cX12_movesOf 4 = .ok (.iload_n 1, 1) := by decide +kernel
theorem dX12_movesOf_5 : decode cX12_movesOf 5 = .ok (.imul, 1) := by decide +kernel
theorem dX12_movesOf_6 : decode cX12_movesOf 6 = .ok (.istore_n 3, 1) := by decide +kernel
theorem dX12_movesOf_7 : decode cX12_movesOf 7 = .ok (.iload_n 3, 1) := by decide +kernel
theorem dX12_movesOf_8 : decode cX12_movesOf 8 = .ok (.bipush 25, 2) := by decide +kernel
theorem dX12_movesOf_10 : decode cX12_movesOf 10 = .ok (.iload_n 1, 1) := by decide +kernel
theorem dX12_movesOf_11 : decode cX12_movesOf 11 = .ok (.imul, 1) := by decide +kernel
theorem dX12_movesOf_12 : decode cX12_movesOf 12 = .ok (.bipush 25, 2) := by decide +kernel
theorem dX12_movesOf_14 : decode cX12_movesOf 14 = .ok (.iadd, 1) := by decide +kernel
theorem dX12_movesOf_15 : decode cX12_movesOf 15 = .ok (.if_icmp .ge 27, 3) := by decide +kernel
theorem dX12_movesOf_18 : decode cX12_movesOf 18 = .ok (.iload_n 2, 1) := by decide +kernel
theorem dX12_movesOf_19 : decode cX12_movesOf 19 = .ok (.aload_n 0, 1) := by decide +kernel
theorem dX12_movesOf_20 : decode cX12_movesOf 20 = .ok (.getfield 16, 3) := by decide +kernel
theorem dX12_movesOf_23 : decode cX12_movesOf 23 = .ok (.iload_n 3, 1) := by decide +kernel
theorem dX12_movesOf_24 : decode cX12_movesOf 24 = .ok (.iaload, 1) := by decide +kernel
theorem dX12_movesOf_25 : decode cX12_movesOf 25 = .ok (.iconst (-1), 1) := by decide +kernel
theorem dX12_movesOf_26 : decode cX12_movesOf 26 = .ok (.if_icmp .eq 7, 3) := by decide +kernel
theorem dX12_movesOf_29 : decode cX12_movesOf 29 = .ok (.iconst 1, 1) := by decide +kernel
theorem dX12_movesOf_30 : decode cX12_movesOf 30 = .ok (.goto 4, 3) := by decide +kernel
theorem dX12_movesOf_33 : decode cX12_movesOf 33 = .ok (.iconst 0, 1) := by decide +kernel
theorem dX12_movesOf_34 : decode cX12_movesOf 34 = .ok (.iadd, 1) := by decide +kernel
theorem dX12_movesOf_35 : decode cX12_movesOf 35 = .ok (.istore_n 2, 1) := by decide +kernel
theorem dX12_movesOf_36 : decode cX12_movesOf 36 = .ok (.iinc 3 1, 3) := by decide +kernel
theorem dX12_movesOf_39 : decode cX12_movesOf 39 = .ok (.goto (-32), 3) := by decide +kernel
theorem dX12_movesOf_42 : decode cX12_movesOf 42 = .ok (.iload_n 2, 1) := by decide +kernel
theorem dX12_movesOf_43 : decode cX12_movesOf 43 = .ok (.ireturn, 1) := by decide +kernel
set_option maxRecDepth 20000 in
theorem ggX12_moves_X12_isReader : GoodIn wsX12_moves wsX12_isReader := goodIn_r _ [14, 15, 16, 13, 17] rfl (by decide +kernel)
set_option maxRecDepth 20000 in
theorem gX12_moves_X12_isReader : GoodIn wsX12_moves (va_wsS RX12 106 yX12_isReader wsX12_isReader) := goodIn_app (goodIn_of _ (by decide +kernel)) ggX12_moves_X12_isReader
set_option maxRecDepth 20000 in
theorem ggX12_moves_X12_fault : GoodIn wsX12_moves wsX12_fault := goodIn_r _ [21, 22, 1, 23, 10, 24, 25, 11, 12, 13, 14, 15, 16, 17, 26, 27, 28, 29, 30, 31, 32, 33, 34, 35, 36, 2, 3, 37, 38, 7, 39, 40, 5, 9, 41, 42, 43, 44, 45, 46, 47, 48, 49, 50, 51, 52, 53, 54, 55, 63, 64, 65, 66, 67, 68, 69, 70, 71, 72, 73, 74, 75, 76, 77, 78, 79, 80, 81, 82, 83, 84, 85, 86, 87, 88, 89, 90, 91, 92, 93, 94, 95, 96, 97, 98, 99, 100, 101, 102, 103, 104, 105] rfl (by decide +kernel)
set_option maxRecDepth 20000 in
theorem gX12_moves_X12_fault : GoodIn wsX12_moves (wsV RX12 161 RX12 yX12_fault wsX12_fault) := goodIn_app (goodIn_of _ (by decide +kernel)) ggX12_moves_X12_fault
set_option maxRecDepth 20000 in
theorem ggX12_moves_X12_at0 : GoodIn wsX12_moves wsX12_at0 := goodIn_r _ [58] rfl (by decide +kernel)
set_option maxRecDepth 20000 in
theorem gX12_moves_X12_at0 : GoodIn wsX12_moves (va_wsS RX12 164 yX12_at0 wsX12_at0) := goodIn_app (goodIn_of _ (by decide +kernel)) ggX12_moves_X12_at0
set_option maxRecDepth 20000 in
theorem ggX12_moves_X12_movesOf : GoodIn wsX12_moves wsX12_movesOf := goodIn_r _ [62, 4, 63, 64, 65, 66, 67, 68, 69, 70, 71, 72, 73, 74, 75, 76, 77, 78, 79, 80, 81, 82, 83, 84, 85, 86, 87, 88, 89, 90, 91, 92, 93, 94, 95, 96, 97, 98, 99, 100, 101, 102, 103, 104, 105] rfl (by decide +kernel)
set_option maxRecDepth 20000 in
theorem gX12_moves_X12_movesOf : GoodIn wsX12_moves (wsV RX12 168 RX12 yX12_movesOf wsX12_movesOf) := goodIn_app (goodIn_of _ (by decide +kernel)) ggX12_moves_X12_movesOf
theorem dX12_moves_0 : decode cX12_moves 0 = .ok (.iload_n 1, 1) := by decide +kernel
theorem dX12_moves_1 : decode cX12_moves 1 = .ok (.invokestatic 106, 3) := by decide +kernel
theorem dX12_moves_4 : decode cX12_moves 4 = .ok (.ifCond .ne 6, 3) := by decide +kernel
theorem dX12_moves_7 : decode cX12_moves 7 = .ok (.bipush (-2), 2) := by decide +kernel
theorem dX12_moves_9 : decode cX12_moves 9 = .ok (.ireturn, 1) := by decide +kernel
theorem dX12_moves_10 : decode cX12_moves 10 = .ok (.aload_n 0, 1) := by decide +kernel
theorem dX12_moves_11 : decode cX12_moves 11 = .ok (.iload_n 1, 1) := by decide +kernel
theorem dX12_moves_12 : decode cX12_moves 12 = .ok (.invokevirtual 161, 3) := by decide +kernel
theorem dX12_moves_15 : decode cX12_moves 15 = .ok (.iconst (-1), 1) := by decide +kernel
theorem dX12_moves_16 : decode cX12_moves 16 = .ok (.if_icmp .eq 6, 3) := by decide +kernel
theorem dX12_moves_19 : decode cX12_moves 19 = .ok (.bipush (-4), 2) := by decide +kernel
theorem dX12_moves_21 : decode cX12_moves 21 = .ok (.ireturn, 1) := by decide +kernel
theorem dX12_moves_22 : decode cX12_moves 22 = .ok (.iconst 0, 1) := by decide +kernel
theorem dX12_moves_23 : decode cX12_moves 23 = .ok (.istore_n 2, 1) := by decide +kernel
theorem dX12_moves_24 : decode cX12_moves 24 = .ok (.iload_n 2, 1) := by decide +kernel
theorem dX12_moves_25 : decode cX12_moves 25 = .ok (.aload_n 0, 1) := by decide +kernel
theorem dX12_moves_26 : decode cX12_moves 26 = .ok (.getfield 140, 3) := by decide +kernel
theorem dX12_moves_29 : decode cX12_moves 29 = .ok (.if_icmp .ge 62, 3) := by decide +kernel
theorem dX12_moves_32 : decode cX12_moves 32 = .ok (.iload_n 1, 1) := by decide +kernel
theorem dX12_moves_33 : decode cX12_moves 33 = .ok (.aload_n 0, 1) := by decide +kernel
theorem dX12_moves_34 : decode cX12_moves 34 = .ok (.getfield 28, 3) := by decide +kernel
theorem dX12_moves_37 : decode cX12_moves 37 = .ok (.iload_n 2, 1) := by decide +kernel
theorem dX12_moves_38 : decode cX12_moves 38 = .ok (.iaload, 1) := by decide +kernel
theorem dX12_moves_39 : decode cX12_moves 39 = .ok (.aload_n 0, 1) := by decide +kernel
theorem dX12_moves_40 : decode cX12_moves 40 = .ok (.getfield 31, 3) := by decide +kernel
theorem dX12_moves_43 : decode cX12_moves 43 = .ok (.iload_n 2, 1) := by decide +kernel
theorem dX12_moves_44 : decode cX12_moves 44 = .ok (.iaload, 1) := by decide +kernel
theorem dX12_moves_45 : decode cX12_moves 45 = .ok (.invokestatic 164, 3) := by decide +kernel
theorem dX12_moves_48 : decode cX12_moves 48 = .ok (.istore_n 3, 1) := by decide +kernel
theorem dX12_moves_49 : decode cX12_moves 49 = .ok (.aload_n 0, 1) := by decide +kernel
theorem dX12_moves_50 : decode cX12_moves 50 = .ok (.getfield 16, 3) := by decide +kernel
theorem dX12_moves_53 : decode cX12_moves 53 = .ok (.iload_n 3, 1) := by decide +kernel
theorem dX12_moves_54 : decode cX12_moves 54 = .ok (.aload_n 0, 1) := by decide +kernel
theorem dX12_moves_55 : decode cX12_moves 55 = .ok (.getfield 37, 3) := by decide +kernel
theorem dX12_moves_58 : decode cX12_moves 58 = .ok (.iload_n 2, 1) := by decide +kernel
theorem dX12_moves_59 : decode cX12_moves 59 = .ok (.iaload, 1) := by decide +kernel
theorem dX12_moves_60 : decode cX12_moves 60 = .ok (.iastore, 1) := by decide +kernel
theorem dX12_moves_61 : decode cX12_moves 61 = .ok (.aload_n 0, 1) := by decide +kernel
theorem dX12_moves_62 : decode cX12_moves 62 = .ok (.getfield 19, 3) := by decide +kernel
theorem dX12_moves_65 : decode cX12_moves 65 = .ok (.iload_n 3, 1) := by decide +kernel
theorem dX12_moves_66 : decode cX12_moves 66 = .ok (.aload_n 0, 1) := by decide +kernel
theorem dX12_moves_67 : decode cX12_moves 67 = .ok (.getfield 34, 3) := by decide +kernel
theorem dX12_moves_70 : decode cX12_moves 70 = .ok (.iload_n 2, 1) := by decide +kernel
theorem dX12_moves_71 : decode cX12_moves 71 = .ok (.iaload, 1) := by decide +kernel
theorem dX12_moves_72 : decode cX12_moves 72 = .ok (.iastore, 1) := by decide +kernel
theorem dX12_moves_73 : decode cX12_moves 73 = .ok (.aload_n 0, 1) := by decide +kernel
theorem dX12_moves_74 : decode cX12_moves 74 = .ok (.getfield 22, 3) := by decide +kernel
theorem dX12_moves_77 : decode cX12_moves 77 = .ok (.iload_n 3, 1) := by decide +kernel
theorem dX12_moves_78 : decode cX12_moves 78 = .ok (.aload_n 0, 1) := by decide +kernel
theorem dX12_moves_79 : decode cX12_moves 79 = .ok (.getfield 40, 3) := by decide +kernel
theorem dX12_moves_82 : decode cX12_moves 82 = .ok (.iload_n 2, 1) := by decide +kernel
theorem dX12_moves_83 : decode cX12_moves 83 = .ok (.iaload, 1) := by decide +kernel
theorem dX12_moves_84 : decode cX12_moves 84 = .ok (.iastore, 1) := by decide +kernel
theorem dX12_moves_85 : decode cX12_moves 85 = .ok (.iinc 2 1, 3) := by decide +kernel
theorem dX12_moves_88 : decode cX12_moves 88 = .ok (.goto (-64), 3) := by decide +kernel
theorem dX12_moves_91 : decode cX12_moves 91 = .ok (.aload_n 0, 1) := by decide +kernel
theorem dX12_moves_92 : decode cX12_moves 92 = .ok (.iconst 0, 1) := by decide +kernel
theorem dX12_moves_93 : decode cX12_moves 93 = .ok (.putfield 114, 3) := by decide +kernel
theorem dX12_moves_96 : decode cX12_moves 96 = .ok (.aload_n 0, 1) := by decide +kernel
theorem dX12_moves_97 : decode cX12_moves 97 = .ok (.iload_n 1, 1) := by decide +kernel
theorem dX12_moves_98 : decode cX12_moves 98 = .ok (.invokevirtual 168, 3) := by decide +kernel
theorem dX12_moves_101 : decode cX12_moves 101 = .ok (.ireturn, 1) := by decide +kernel
set_option maxRecDepth 20000 in
theorem ggX12_move_X12_isState : GoodIn wsX12_move wsX12_isState := goodIn_r _ [10, 11, 12, 13, 9, 14, 15, 16, 17, 21, 22, 23, 24, 25, 26, 27, 28, 29, 30, 31, 32, 33, 34, 35, 36, 37, 38, 39, 40, 41, 42, 43, 44, 45, 46, 47, 48, 49, 50, 51, 52, 53, 54, 55, 56, 57, 58, 59, 60, 61, 62, 63] rfl (by decide +kernel)
set_option maxRecDepth 20000 in
theorem gX12_move_X12_isState : GoodIn wsX12_move (wsV RX12 171 RX12 yX12_isState wsX12_isState) := goodIn_app (goodIn_of _ (by decide +kernel)) ggX12_move_X12_isState
set_option maxRecDepth 20000 in
theorem ggX12_move_X12_in : GoodIn wsX12_move wsX12_in := goodIn_r _ [17] rfl (by decide +kernel)
set_option maxRecDepth 20000 in
theorem gX12_move_X12_in : GoodIn wsX12_move (va_wsS RX12 102 yX12_in wsX12_in) := goodIn_app (goodIn_of _ (by decide +kernel)) ggX12_move_X12_in
set_option maxRecDepth 20000 in
theorem ggX12_move_X12_at0 : GoodIn wsX12_move wsX12_at0 := goodIn_r _ [20] rfl (by decide +kernel)
set_option maxRecDepth 20000 in
theorem gX12_move_X12_at0 : GoodIn wsX12_move (va_wsS RX12 164 yX12_at0 wsX12_at0) := goodIn_app (goodIn_of _ (by decide +kernel)) ggX12_move_X12_at0
theorem dX12_move_0 : decode cX12_move 0 = .ok (.aload_n 0, 1) := by decide +kernel
theorem dX12_move_1 : decode cX12_move 1 = .ok (.iload_n 1, 1) := by decide +kernel
theorem dX12_move_2 : decode cX12_move 2 = .ok (.iload_n 2, 1) := by decide +kernel
theorem dX12_move_3 : decode cX12_move 3 = .ok (.invokevirtual 171, 3) := by decide +kernel
theorem dX12_move_6 : decode cX12_move 6 = .ok (.ifCond .eq 15, 3) := by decide +kernel
theorem dX12_move_9 : decode cX12_move 9 = .ok (.iload_n 3, 1) := by decide +kernel
theorem dX12_move_10 : decode cX12_move 10 = .ok (.i2l, 1) := by decide +kernel
theorem dX12_move_11 : decode cX12_move 11 = .ok (.lconst 0, 1) := by decide +kernel
theorem dX12_move_12 : decode cX12_move 12 = .ok (.ldc2_w 174, 3) := by decide +kernel
theorem dX12_move_15 : decode cX12_move 15 = .ok (.invokestatic 102, 3) := by decide +kernel
theorem dX12_move_18 : decode cX12_move 18 = .ok (.ifCond .ne 6, 3) := by decide +kernel
theorem dX12_move_21 : decode cX12_move 21 = .ok (.bipush (-2), 2) := by decide +kernel
theorem dX12_move_23 : decode cX12_move 23 = .ok (.ireturn, 1) := by decide +kernel
theorem dX12_move_24 : decode cX12_move 24 = .ok (.iload 4, 2) := by decide +kernel
theorem dX12_move_26 : decode cX12_move 26 = .ok (.i2l, 1) := by decide +kernel
theorem dX12_move_27 : decode cX12_move 27 = .ok (.lconst 0, 1) := by decide +kernel
theorem dX12_move_28 : decode cX12_move 28 = .ok (.ldc2_w 176, 3) := by decide +kernel
theorem dX12_move_31 : decode cX12_move 31 = .ok (.invokestatic 102, 3) := by decide +kernel
theorem dX12_move_34 : decode cX12_move 34 = .ok (.ifCond .ne 6, 3) := by decide +kernel
theorem dX12_move_37 : decode cX12_move 37 = .ok (.bipush (-3), 2) := by decide +kernel
theorem dX12_move_39 : decode cX12_move 39 = .ok (.ireturn, 1) := by decide +kernel
theorem dX12_move_40 : decode cX12_move 40 = .ok (.iload_n 1, 1) := by decide +kernel
theorem dX12_move_41 : decode cX12_move 41 = .ok (.iload_n 2, 1) := by decide +kernel
theorem dX12_move_42 : decode cX12_move 42 = .ok (.iload_n 3, 1) := by decide +kernel
theorem dX12_move_43 : decode cX12_move 43 = .ok (.invokestatic 164, 3) := by decide +kernel
theorem dX12_move_46 : decode cX12_move 46 = .ok (.istore 5, 2) := by decide +kernel
theorem dX12_move_48 : decode cX12_move 48 = .ok (.aload_n 0, 1) := by decide +kernel
theorem dX12_move_49 : decode cX12_move 49 = .ok (.getfield 16, 3) := by decide +kernel
theorem dX12_move_52 : decode cX12_move 52 = .ok (.iload 5, 2) := by decide +kernel
theorem dX12_move_54 : decode cX12_move 54 = .ok (.iaload, 1) := by decide +kernel
theorem dX12_move_55 : decode cX12_move 55 = .ok (.iconst (-1), 1) := by decide +kernel
theorem dX12_move_56 : decode cX12_move 56 = .ok (.if_icmp .ne 7, 3) := by decide +kernel
theorem dX12_move_59 : decode cX12_move 59 = .ok (.iconst (-1), 1) := by decide +kernel
theorem dX12_move_60 : decode cX12_move 60 = .ok (.goto 41, 3) := by decide +kernel
theorem dX12_move_63 : decode cX12_move 63 = .ok (.iload 4, 2) := by decide +kernel
theorem dX12_move_65 : decode cX12_move 65 = .ok (.ifCond .ne 13, 3) := by decide +kernel
theorem dX12_move_68 : decode cX12_move 68 = .ok (.aload_n 0, 1) := by decide +kernel
theorem dX12_move_69 : decode cX12_move 69 = .ok (.getfield 16, 3) := by decide +kernel
theorem dX12_move_72 : decode cX12_move 72 = .ok (.iload 5, 2) := by decide +kernel
theorem dX12_move_74 : decode cX12_move 74 = .ok (.iaload, 1) := by decide +kernel
theorem dX12_move_75 : decode cX12_move 75 = .ok (.goto 26, 3) := by decide +kernel
theorem dX12_move_78 : decode cX12_move 78 = .ok (.iload 4, 2) := by decide +kernel
theorem dX12_move_80 : decode cX12_move 80 = .ok (.iconst 1, 1) := by decide +kernel
theorem dX12_move_81 : decode cX12_move 81 = .ok (.if_icmp .ne 13, 3) := by decide +kernel
theorem dX12_move_84 : decode cX12_move 84 = .ok (.aload_n 0, 1) := by decide +kernel
theorem dX12_move_85 : decode cX12_move 85 = .ok (.getfield 19, 3) := by decide +kernel
theorem dX12_move_88 : decode cX12_move 88 = .ok (.iload 5, 2) := by decide +kernel
theorem dX12_move_90 : decode cX12_move 90 = .ok (.iaload, 1) := by decide +kernel
theorem dX12_move_91 : decode cX12_move 91 = .ok (.goto 10, 3) := by decide +kernel
theorem dX12_move_94 : decode cX12_move 94 = .ok (.aload_n 0, 1) := by decide +kernel
theorem dX12_move_95 : decode cX12_move 95 = .ok (.getfield 22, 3) := by decide +kernel
theorem dX12_move_98 : decode cX12_move 98 = .ok (.iload 5, 2) := by decide +kernel
theorem dX12_move_100 : decode cX12_move 100 = .ok (.iaload, 1) := by decide +kernel
theorem dX12_move_101 : decode cX12_move 101 = .ok (.ireturn, 1) := by decide +kernel
set_option maxRecDepth 20000 in
theorem ggX12_drop_X12_isState : GoodIn wsX12_drop wsX12_isState := goodIn_r _ [7, 8, 9, 10, 6, 11, 12, 13, 14, 22, 23, 24, 25, 26, 27, 28, 29, 30, 31, 32, 33, 34, 35, 36, 37, 38, 39, 40, 41, 42, 43, 44, 45, 46, 47, 48, 49, 50, 51, 52, 53, 54, 55, 56, 57, 58, 59, 60, 61, 62, 63, 64] rfl (by decide +kernel)
set_option maxRecDepth 20000 in
theorem gX12_drop_X12_isState : GoodIn wsX12_drop (wsV RX12 171 RX12 yX12_isState wsX12_isState) := goodIn_app (goodIn_of _ (by decide +kernel)) ggX12_drop_X12_isState
set_option maxRecDepth 20000 in
theorem ggX12_drop_X12_in : GoodIn wsX12_drop wsX12_in := goodIn_r _ [14] rfl (by decide +kernel)
set_option maxRecDepth 20000 in
theorem gX12_drop_X12_in : GoodIn wsX12_drop (va_wsS RX12 102 yX12_in wsX12_in) := goodIn_app (goodIn_of _ (by decide +kernel)) ggX12_drop_X12_in
set_option maxRecDepth 20000 in
theorem ggX12_drop_X12_at0 : GoodIn wsX12_drop wsX12_at0 := goodIn_r _ [17] rfl (by decide +kernel)
set_option maxRecDepth 20000 in
theorem gX12_drop_X12_at0 : GoodIn wsX12_drop (va_wsS RX12 164 yX12_at0 wsX12_at0) := goodIn_app (goodIn_of _ (by decide +kernel)) ggX12_drop_X12_at0
set_option maxRecDepth 20000 in
theorem ggX12_drop_X12_movesOf : GoodIn wsX12_drop wsX12_movesOf := goodIn_r _ [21, 2, 22, 23, 24, 25, 26, 27, 28, 29, 30, 31, 32, 33, 34, 35, 36, 37, 38, 39, 40, 41, 42, 43, 44, 45, 46, 47, 48, 49, 50, 51, 52, 53, 54, 55, 56, 57, 58, 59, 60, 61, 62, 63, 64] rfl (by decide +kernel)
set_option maxRecDepth 20000 in
theorem gX12_drop_X12_movesOf : GoodIn wsX12_drop (wsV RX12 168 RX12 yX12_movesOf wsX12_movesOf) := goodIn_app (goodIn_of _ (by decide +kernel)) ggX12_drop_X12_movesOf
theorem dX12_drop_0 : decode cX12_drop 0 = .ok (.aload_n 0, 1) := by decide +kernel
theorem dX12_drop_1 : decode cX12_drop 1 = .ok (.iload_n 1, 1) := by decide +kernel
theorem dX12_drop_2 : decode cX12_drop 2 = .ok (.iload_n 2, 1) := by decide +kernel
theorem dX12_drop_3 : decode cX12_drop 3 = .ok (.invokevirtual 171, 3) := by decide +kernel
theorem dX12_drop_6 : decode cX12_drop 6 = .ok (.ifCond .eq 30, 3) := by decide +kernel
theorem dX12_drop_9 : decode cX12_drop 9 = .ok (.iload_n 3, 1) := by decide +kernel
theorem dX12_drop_10 : decode cX12_drop 10 = .ok (.i2l, 1) := by decide +kernel
theorem dX12_drop_11 : decode cX12_drop 11 = .ok (.lconst 0, 1) := by decide +kernel
theorem dX12_drop_12 : decode cX12_drop 12 = .ok (.ldc2_w 174, 3) := by decide +kernel
theorem dX12_drop_15 : decode cX12_drop 15 = .ok (.invokestatic 102, 3) := by decide +kernel
theorem dX12_drop_18 : decode cX12_drop 18 = .ok (.ifCond .eq 18, 3) := by decide +kernel
theorem dX12_drop_21 : decode cX12_drop 21 = .ok (.aload_n 0, 1) := by decide +kernel
theorem dX12_drop_22 : decode cX12_drop 22 = .ok (.getfield 16, 3) := by decide +kernel
theorem dX12_drop_25 : decode cX12_drop 25 = .ok (.iload_n 1, 1) := by decide +kernel
theorem dX12_drop_26 : decode cX12_drop 26 = .ok (.iload_n 2, 1) := by decide +kernel
theorem dX12_drop_27 : decode cX12_drop 27 = .ok (.iload_n 3, 1) := by decide +kernel
theorem dX12_drop_28 : decode cX12_drop 28 = .ok (.invokestatic 164, 3) := by decide +kernel
theorem dX12_drop_31 : decode cX12_drop 31 = .ok (.iaload, 1) := by decide +kernel
theorem dX12_drop_32 : decode cX12_drop 32 = .ok (.iconst (-1), 1) := by decide +kernel
theorem dX12_drop_33 : decode cX12_drop 33 = .ok (.if_icmp .ne 6, 3) := by decide +kernel
theorem dX12_drop_36 : decode cX12_drop 36 = .ok (.bipush (-2), 2) := by decide +kernel
theorem dX12_drop_38 : decode cX12_drop 38 = .ok (.ireturn, 1) := by decide +kernel
theorem dX12_drop_39 : decode cX12_drop 39 = .ok (.aload_n 0, 1) := by decide +kernel
theorem dX12_drop_40 : decode cX12_drop 40 = .ok (.getfield 16, 3) := by decide +kernel
theorem dX12_drop_43 : decode cX12_drop 43 = .ok (.iload_n 1, 1) := by decide +kernel
theorem dX12_drop_44 : decode cX12_drop 44 = .ok (.iload_n 2, 1) := by decide +kernel
theorem dX12_drop_45 : decode cX12_drop 45 = .ok (.iload_n 3, 1) := by decide +kernel
theorem dX12_drop_46 : decode cX12_drop 46 = .ok (.invokestatic 164, 3) := by decide +kernel
theorem dX12_drop_49 : decode cX12_drop 49 = .ok (.iconst (-1), 1) := by decide +kernel
theorem dX12_drop_50 : decode cX12_drop 50 = .ok (.iastore, 1) := by decide +kernel
theorem dX12_drop_51 : decode cX12_drop 51 = .ok (.aload_n 0, 1) := by decide +kernel
theorem dX12_drop_52 : decode cX12_drop 52 = .ok (.iload_n 1, 1) := by decide +kernel
theorem dX12_drop_53 : decode cX12_drop 53 = .ok (.invokevirtual 168, 3) := by decide +kernel
theorem dX12_drop_56 : decode cX12_drop 56 = .ok (.ireturn, 1) := by decide +kernel
set_option maxRecDepth 20000 in
theorem ggX12_letter_X12_in : GoodIn wsX12_letter wsX12_in := goodIn_r _ [7] rfl (by decide +kernel)
set_option maxRecDepth 20000 in
theorem gX12_letter_X12_in : GoodIn wsX12_letter (va_wsS RX12 102 yX12_in wsX12_in) := goodIn_app (goodIn_of _ (by decide +kernel)) ggX12_letter_X12_in
theorem dX12_letter_0 : decode cX12_letter 0 = .ok (.iload_n 1, 1) := by decide +kernel
theorem dX12_letter_1 : decode cX12_letter 1 = .ok (.i2l, 1) := by decide +kernel
theorem dX12_letter_2 : decode cX12_letter 2 = .ok (.lconst 0, 1) := by decide +kernel
theorem dX12_letter_3 : decode cX12_letter 3 = .ok (.ldc2_w 176, 3) := by decide +kernel
theorem dX12_letter_6 : decode cX12_letter 6 = .ok (.invokestatic 102, 3) := by decide +kernel
theorem dX12_letter_9 : decode cX12_letter 9 = .ok (.ifCond .ne 6, 3) := by decide +kernel
theorem dX12_letter_12 : decode cX12_letter 12 = .ok (.bipush (-2), 2) := by decide +kernel
theorem dX12_letter_14 : decode cX12_letter 14 = .ok (.ireturn, 1) := by decide +kernel
theorem dX12_letter_15 : decode cX12_letter 15 = .ok (.aload_n 0, 1) := by decide +kernel
theorem dX12_letter_16 : decode cX12_letter 16 = .ok (.getfield 178, 3) := by decide +kernel
theorem dX12_letter_19 : decode cX12_letter 19 = .ok (.bipush 24, 2) := by decide +kernel
theorem dX12_letter_21 : decode cX12_letter 21 = .ok (.if_icmp .ne 6, 3) := by decide +kernel
theorem dX12_letter_24 : decode cX12_letter 24 = .ok (.bipush (-5), 2) := by decide +kernel
theorem dX12_letter_26 : decode cX12_letter 26 = .ok (.ireturn, 1) := by decide +kernel
theorem dX12_letter_27 : decode cX12_letter 27 = .ok (.aload_n 0, 1) := by decide +kernel
theorem dX12_letter_28 : decode cX12_letter 28 = .ok (.getfield 43, 3) := by decide +kernel
theorem dX12_letter_31 : decode cX12_letter 31 = .ok (.aload_n 0, 1) := by decide +kernel
theorem dX12_letter_32 : decode cX12_letter 32 = .ok (.getfield 178, 3) := by decide +kernel
theorem dX12_letter_35 : decode cX12_letter 35 = .ok (.iload_n 1, 1) := by decide +kernel
theorem dX12_letter_36 : decode cX12_letter 36 = .ok (.iastore, 1) := by decide +kernel
theorem dX12_letter_37 : decode cX12_letter 37 = .ok (.aload_n 0, 1) := by decide +kernel
theorem dX12_letter_38 : decode cX12_letter 38 = .ok (.dup, 1) := by decide +kernel
theorem dX12_letter_39 : decode cX12_letter 39 = .ok (.getfield 178, 3) := by decide +kernel
theorem dX12_letter_42 : decode cX12_letter 42 = .ok (.iconst 1, 1) := by decide +kernel
theorem dX12_letter_43 : decode cX12_letter 43 = .ok (.iadd, 1) := by decide +kernel
theorem dX12_letter_44 : decode cX12_letter 44 = .ok (.putfield 178, 3) := by decide +kernel
theorem dX12_letter_47 : decode cX12_letter 47 = .ok (.aload_n 0, 1) := by decide +kernel
theorem dX12_letter_48 : decode cX12_letter 48 = .ok (.getfield 178, 3) := by decide +kernel
theorem dX12_letter_51 : decode cX12_letter 51 = .ok (.ireturn, 1) := by decide +kernel
set_option maxRecDepth 20000 in
theorem ggX12_row_X12_in : GoodIn wsX12_row wsX12_in := goodIn_r _ [8] rfl (by decide +kernel)
set_option maxRecDepth 20000 in
theorem gX12_row_X12_in : GoodIn wsX12_row (va_wsS RX12 102 yX12_in wsX12_in) := goodIn_app (goodIn_of _ (by decide +kernel)) ggX12_row_X12_in
theorem dX12_row_0 : decode cX12_row 0 = .ok (.iload_n 3, 1) := by decide +kernel
theorem dX12_row_1 : decode cX12_row 1 = .ok (.i2l, 1) := by decide +kernel
theorem dX12_row_2 : decode cX12_row 2 = .ok (.lconst 0, 1) := by decide +kernel
theorem dX12_row_3 : decode cX12_row 3 = .ok (.ldc2_w 181, 3) := by decide +kernel
theorem dX12_row_6 : decode cX12_row 6 = .ok (.invokestatic 102, 3) := by decide +kernel
theorem dX12_row_9 : decode cX12_row 9 = .ok (.ifCond .ne 6, 3) := by decide +kernel
theorem dX12_row_12 : decode cX12_row 12 = .ok (.bipush (-3), 2) := by decide +kernel
theorem dX12_row_14 : decode cX12_row 14 = .ok (.ireturn, 1) := by decide +kernel
theorem dX12_row_15 : decode cX12_row 15 = .ok (.iconst 0, 1) := by decide +kernel
theorem dX12_row_16 : decode cX12_row 16 = .ok (.istore 4, 2) := by decide +kernel
theorem dX12_row_18 : decode cX12_row 18 = .ok (.iload 4, 2) := by decide +kernel
theorem dX12_row_20 : decode cX12_row 20 = .ok (.iload_n 3, 1) := by decide +kernel
theorem dX12_row_21 : decode cX12_row 21 = .ok (.if_icmp .ge 29, 3) := by decide +kernel
theorem dX12_row_24 : decode cX12_row 24 = .ok (.lload_n 1, 1) := by decide +kernel
theorem dX12_row_25 : decode cX12_row 25 = .ok (.iconst 2, 1) := by decide +kernel
theorem dX12_row_26 : decode cX12_row 26 = .ok (.iload 4, 2) := by decide +kernel
theorem dX12_row_28 : decode cX12_row 28 = .ok (.imul, 1) := by decide +kernel
theorem dX12_row_29 : decode cX12_row 29 = .ok (.lshr, 1) := by decide +kernel
theorem dX12_row_30 : decode cX12_row 30 = .ok (.ldc2_w 183, 3) := by decide +kernel
theorem dX12_row_33 : decode cX12_row 33 = .ok (.land, 1) := by decide +kernel
theorem dX12_row_34 : decode cX12_row 34 = .ok (.ldc2_w 183, 3) := by decide +kernel
theorem dX12_row_37 : decode cX12_row 37 = .ok (.lcmp, 1) := by decide +kernel
theorem dX12_row_38 : decode cX12_row 38 = .ok (.ifCond .ne 6, 3) := by decide +kernel
theorem dX12_row_41 : decode cX12_row 41 = .ok (.bipush (-2), 2) := by decide +kernel
theorem dX12_row_43 : decode cX12_row 43 = .ok (.ireturn, 1) := by decide +kernel
theorem dX12_row_44 : decode cX12_row 44 = .ok (.iinc 4 1, 3) := by decide +kernel
theorem dX12_row_47 : decode cX12_row 47 = .ok (.goto (-29), 3) := by decide +kernel
theorem dX12_row_50 : decode cX12_row 50 = .ok (.iconst 0, 1) := by decide +kernel
theorem dX12_row_51 : decode cX12_row 51 = .ok (.istore 4, 2) := by decide +kernel
theorem dX12_row_53 : decode cX12_row 53 = .ok (.iload 4, 2) := by decide +kernel
theorem dX12_row_55 : decode cX12_row 55 = .ok (.iload_n 3, 1) := by decide +kernel
theorem dX12_row_56 : decode cX12_row 56 = .ok (.if_icmp .ge 27, 3) := by decide +kernel
theorem dX12_row_59 : decode cX12_row 59 = .ok (.aload_n 0, 1) := by decide +kernel
theorem dX12_row_60 : decode cX12_row 60 = .ok (.getfield 43, 3) := by decide +kernel
theorem dX12_row_63 : decode cX12_row 63 = .ok (.iload 4, 2) := by decide +kernel
theorem dX12_row_65 : decode cX12_row 65 = .ok (.lload_n 1, 1) := by decide +kernel
theorem dX12_row_66 : decode cX12_row 66 = .ok (.iconst 2, 1) := by decide +kernel
theorem dX12_row_67 : decode cX12_row 67 = .ok (.iload 4, 2) := by decide +kernel
theorem dX12_row_69 : decode cX12_row 69 = .ok (.imul, 1) := by decide +kernel
theorem dX12_row_70 : decode cX12_row 70 = .ok (.lshr, 1) := by decide +kernel
theorem dX12_row_71 : decode cX12_row 71 = .ok (.ldc2_w 183, 3) := by decide +kernel
theorem dX12_row_74 : decode cX12_row 74 = .ok (.land, 1) := by decide +kernel
theorem dX12_row_75 : decode cX12_row 75 = .ok (.l2i, 1) := by decide +kernel
theorem dX12_row_76 : decode cX12_row 76 = .ok (.iastore, 1) := by decide +kernel
theorem dX12_row_77 : decode cX12_row 77 = .ok (.iinc 4 1, 3) := by decide +kernel
theorem dX12_row_80 : decode cX12_row 80 = .ok (.goto (-27), 3) := by decide +kernel
theorem dX12_row_83 : decode cX12_row 83 = .ok (.aload_n 0, 1) := by decide +kernel
theorem dX12_row_84 : decode cX12_row 84 = .ok (.iload_n 3, 1) := by decide +kernel
theorem dX12_row_85 : decode cX12_row 85 = .ok (.putfield 178, 3) := by decide +kernel
theorem dX12_row_88 : decode cX12_row 88 = .ok (.iconst 1, 1) := by decide +kernel
theorem dX12_row_89 : decode cX12_row 89 = .ok (.ireturn, 1) := by decide +kernel
set_option maxRecDepth 20000 in
theorem ggX12_go_X12_at0 : GoodIn wsX12_go wsX12_at0 := goodIn_r _ [17] rfl (by decide +kernel)
set_option maxRecDepth 20000 in
theorem gX12_go_X12_at0 : GoodIn wsX12_go (va_wsS RX12 164 yX12_at0 wsX12_at0) := goodIn_app (goodIn_of _ (by decide +kernel)) ggX12_go_X12_at0
theorem dX12_go_0 : decode cX12_go 0 = .ok (.iconst 0, 1) := by decide +kernel
theorem dX12_go_1 : decode cX12_go 1 = .ok (.istore_n 2, 1) := by decide +kernel
theorem dX12_go_2 : decode cX12_go 2 = .ok (.iload_n 2, 1) := by decide +kernel
theorem dX12_go_3 : decode cX12_go 3 = .ok (.sipush 130, 3) := by decide +kernel
theorem dX12_go_6 : decode cX12_go 6 = .ok (.if_icmp .ge 16, 3) := by decide +kernel
theorem dX12_go_9 : decode cX12_go 9 = .ok (.aload_n 0, 1) := by decide +kernel
theorem dX12_go_10 : decode cX12_go 10 = .ok (.getfield 49, 3) := by decide +kernel
theorem dX12_go_13 : decode cX12_go 13 = .ok (.iload_n 2, 1) := by decide +kernel
theorem dX12_go_14 : decode cX12_go 14 = .ok (.iconst 0, 1) := by decide +kernel
theorem dX12_go_15 : decode cX12_go 15 = .ok (.bastore, 1) := by decide +kernel
theorem dX12_go_16 : decode cX12_go 16 = .ok (.iinc 2 1, 3) := by decide +kernel
theorem dX12_go_19 : decode cX12_go 19 = .ok (.goto (-17), 3) := by decide +kernel
theorem dX12_go_22 : decode cX12_go 22 = .ok (.aload_n 0, 1) := by decide +kernel
theorem dX12_go_23 : decode cX12_go 23 = .ok (.iconst (-1), 1) := by decide +kernel
theorem dX12_go_24 : decode cX12_go 24 = .ok (.putfield 185, 3) := by decide +kernel
theorem dX12_go_27 : decode cX12_go 27 = .ok (.aload_n 0, 1) := by decide +kernel
theorem dX12_go_28 : decode cX12_go 28 = .ok (.iconst 0, 1) := by decide +kernel
theorem dX12_go_29 : decode cX12_go 29 = .ok (.putfield 188, 3) := by decide +kernel
theorem dX12_go_32 : decode cX12_go 32 = .ok (.aload_n 0, 1) := by decide +kernel
theorem dX12_go_33 : decode cX12_go 33 = .ok (.iconst 0, 1) := by decide +kernel
theorem dX12_go_34 : decode cX12_go 34 = .ok (.putfield 191, 3) := by decide +kernel
theorem dX12_go_37 : decode cX12_go 37 = .ok (.aload_n 0, 1) := by decide +kernel
theorem dX12_go_38 : decode cX12_go 38 = .ok (.iconst 0, 1) := by decide +kernel
theorem dX12_go_39 : decode cX12_go 39 = .ok (.putfield 194, 3) := by decide +kernel
theorem dX12_go_42 : decode cX12_go 42 = .ok (.aload_n 0, 1) := by decide +kernel
theorem dX12_go_43 : decode cX12_go 43 = .ok (.iconst 0, 1) := by decide +kernel
theorem dX12_go_44 : decode cX12_go 44 = .ok (.putfield 197, 3) := by decide +kernel
theorem dX12_go_47 : decode cX12_go 47 = .ok (.aload_n 0, 1) := by decide +kernel
theorem dX12_go_48 : decode cX12_go 48 = .ok (.getfield 185, 3) := by decide +kernel
theorem dX12_go_51 : decode cX12_go 51 = .ok (.iconst (-1), 1) := by decide +kernel
theorem dX12_go_52 : decode cX12_go 52 = .ok (.if_icmp .ne 225, 3) := by decide +kernel
theorem dX12_go_55 : decode cX12_go 55 = .ok (.aload_n 0, 1) := by decide +kernel
theorem dX12_go_56 : decode cX12_go 56 = .ok (.getfield 49, 3) := by decide +kernel
theorem dX12_go_59 : decode cX12_go 59 = .ok (.iconst 5, 1) := by decide +kernel
theorem dX12_go_60 : decode cX12_go 60 = .ok (.aload_n 0, 1) := by decide +kernel
theorem dX12_go_61 : decode cX12_go 61 = .ok (.getfield 191, 3) := by decide +kernel
theorem dX12_go_64 : decode cX12_go 64 = .ok (.imul, 1) := by decide +kernel
theorem dX12_go_65 : decode cX12_go 65 = .ok (.aload_n 0, 1) := by decide +kernel
theorem dX12_go_66 : decode cX12_go 66 = .ok (.getfield 194, 3) := by decide +kernel
theorem dX12_go_69 : decode cX12_go 69 = .ok (.iadd, 1) := by decide +kernel
theorem dX12_go_70 : decode cX12_go 70 = .ok (.baload, 1) := by decide +kernel
theorem dX12_go_71 : decode cX12_go 71 = .ok (.ifCond .eq 11, 3) := by decide +kernel
theorem dX12_go_74 : decode cX12_go 74 = .ok (.aload_n 0, 1) := by decide +kernel
theorem dX12_go_75 : decode cX12_go 75 = .ok (.iconst 2, 1) := by decide +kernel
theorem dX12_go_76 : decode cX12_go 76 = .ok (.putfield 185, 3) := by decide +kernel
theorem dX12_go_79 : decode cX12_go 79 = .ok (.goto (-32), 3) := by decide +kernel
theorem dX12_go_82 : decode cX12_go 82 = .ok (.aload_n 0, 1) := by decide +kernel
theorem dX12_go_83 : decode cX12_go 83 = .ok (.getfield 49, 3) := by decide +kernel
theorem dX12_go_86 : decode cX12_go 86 = .ok (.iconst 5, 1) := by decide +kernel
theorem dX12_go_87 : decode cX12_go 87 = .ok (.aload_n 0, 1) := by decide +kernel
theorem dX12_go_88 : decode cX12_go 88 = .ok (.getfield 191, 3) := by decide +kernel
theorem dX12_go_91 : decode cX12_go 91 = .ok (.imul, 1) := by decide +kernel
theorem dX12_go_92 : decode cX12_go 92 = .ok (.aload_n 0, 1) := by decide +kernel
theorem dX12_go_93 : decode cX12_go 93 = .ok (.getfield 194, 3) := by decide +kernel
theorem dX12_go_96 : decode cX12_go 96 = .ok (.iadd, 1) := by decide +kernel
theorem dX12_go_97 : decode cX12_go 97 = .ok (.iconst 1, 1) := by decide +kernel
theorem dX12_go_98 : decode cX12_go 98 = .ok (.bastore, 1) := by decide +kernel
theorem dX12_go_99 : decode cX12_go 99 = .ok (.iload_n 1, 1) := by decide +kernel
theorem dX12_go_100 : decode cX12_go 100 = .ok (.aload_n 0, 1) := by decide +kernel
theorem dX12_go_101 : decode cX12_go 101 = .ok (.getfield 194, 3) := by decide +kernel
theorem dX12_go_104 : decode cX12_go 104 = .ok (.aload_n 0, 1) := by decide +kernel
theorem dX12_go_105 : decode cX12_go 105 = .ok (.getfield 191, 3) := by decide +kernel
theorem dX12_go_108 : decode cX12_go 108 = .ok (.ifCond .ne 7, 3) := by decide +kernel
theorem dX12_go_111 : decode cX12_go 111 = .ok (.iconst 3, 1) := by decide +kernel
theorem dX12_go_112 : decode cX12_go 112 = .ok (.goto 29, 3) := by decide +kernel
theorem dX12_go_115 : decode cX12_go 115 = .ok (.aload_n 0, 1) := by decide +kernel
theorem dX12_go_116 : decode cX12_go 116 = .ok (.getfield 191, 3) := by decide +kernel
theorem dX12_go_119 : decode cX12_go 119 = .ok (.aload_n 0, 1) := by decide +kernel
theorem dX12_go_120 : decode cX12_go 120 = .ok (.getfield 200, 3) := by decide +kernel
theorem dX12_go_123 : decode cX12_go 123 = .ok (.if_icmp .le 7, 3) := by decide +kernel
theorem dX12_go_126 : decode cX12_go 126 = .ok (.iconst 4, 1) := by decide +kernel
theorem dX12_go_127 : decode cX12_go 127 = .ok (.goto 14, 3) := by decide +kernel
theorem dX12_go_130 : decode cX12_go 130 = .ok (.aload_n 0, 1) := by decide +kernel
theorem dX12_go_131 : decode cX12_go 131 = .ok (.getfield 46, 3) := by decide +kernel
theorem dX12_go_134 : decode cX12_go 134 = .ok (.aload_n 0, 1) := by decide +kernel
theorem dX12_go_135 : decode cX12_go 135 = .ok (.getfield 191, 3) := by decide +kernel
theorem dX12_go_138 : decode cX12_go 138 = .ok (.iconst 1, 1) := by decide +kernel
theorem dX12_go_139 : decode cX12_go 139 = .ok (.isub, 1) := by decide +kernel
theorem dX12_go_140 : decode cX12_go 140 = .ok (.iaload, 1) := by decide +kernel
theorem dX12_go_141 : decode cX12_go 141 = .ok (.invokestatic 164, 3) := by decide +kernel
theorem dX12_go_144 : decode cX12_go 144 = .ok (.istore_n 2, 1) := by decide +kernel
theorem dX12_go_145 : decode cX12_go 145 = .ok (.aload_n 0, 1) := by decide +kernel
theorem dX12_go_146 : decode cX12_go 146 = .ok (.getfield 16, 3) := by decide +kernel
theorem dX12_go_149 : decode cX12_go 149 = .ok (.iload_n 2, 1) := by decide +kernel
theorem dX12_go_150 : decode cX12_go 150 = .ok (.iaload, 1) := by decide +kernel
theorem dX12_go_151 : decode cX12_go 151 = .ok (.iconst (-1), 1) := by decide +kernel
theorem dX12_go_152 : decode cX12_go 152 = .ok (.if_icmp .ne 43, 3) := by decide +kernel
theorem dX12_go_155 : decode cX12_go 155 = .ok (.aload_n 0, 1) := by decide +kernel
theorem dX12_go_156 : decode cX12_go 156 = .ok (.aload_n 0, 1) := by decide +kernel
theorem dX12_go_157 : decode cX12_go 157 = .ok (.getfield 191, 3) := by decide +kernel
theorem dX12_go_160 : decode cX12_go 160 = .ok (.aload_n 0, 1) := by decide +kernel
theorem dX12_go_161 : decode cX12_go 161 = .ok (.getfield 200, 3) := by decide +kernel
theorem dX12_go_164 : decode cX12_go 164 = .ok (.if_icmp .le 24, 3) := by decide +kernel
theorem dX12_go_167 : decode cX12_go 167 = .ok (.aload_n 0, 1) := by decide +kernel
theorem dX12_go_168 : decode cX12_go 168 = .ok (.getfield 13, 3) := by decide +kernel
theorem dX12_go_171 : decode cX12_go 171 = .ok (.iload_n 1, 1) := by decide +kernel
theorem dX12_go_172 : decode cX12_go 172 = .ok (.iaload, 1) := by decide +kernel
theorem dX12_go_173 : decode cX12_go 173 = .ok (.aload_n 0, 1) := by decide +kernel
theorem dX12_go_174 : decode cX12_go 174 = .ok (.getfield 194, 3) := by decide +kernel
theorem dX12_go_177 : decode cX12_go 177 = .ok (.ishr, 1) := by decide +kernel
theorem dX12_go_178 : decode cX12_go 178 = .ok (.iconst 1, 1) := by decide +kernel
theorem dX12_go_179 : decode cX12_go 179 = .ok (.iand, 1) := by decide +kernel
theorem dX12_go_180 : decode cX12_go 180 = .ok (.iconst 1, 1) := by decide +kernel
theorem dX12_go_181 : decode cX12_go 181 = .ok (.if_icmp .ne 7, 3) := by decide +kernel
theorem dX12_go_184 : decode cX12_go 184 = .ok (.iconst 1, 1) := by decide +kernel
theorem dX12_go_185 : decode cX12_go 185 = .ok (.goto 4, 3) := by decide +kernel
theorem dX12_go_188 : decode cX12_go 188 = .ok (.iconst 0, 1) := by decide +kernel
theorem dX12_go_189 : decode cX12_go 189 = .ok (.putfield 185, 3) := by decide +kernel
theorem dX12_go_192 : decode cX12_go 192 = .ok (.goto 82, 3) := by decide +kernel
theorem dX12_go_195 : decode cX12_go 195 = .ok (.aload_n 0, 1) := by decide +kernel
theorem dX12_go_196 : decode cX12_go 196 = .ok (.getfield 22, 3) := by decide +kernel
theorem dX12_go_199 : decode cX12_go 199 = .ok (.iload_n 2, 1) := by decide +kernel
theorem dX12_go_200 : decode cX12_go 200 = .ok (.iaload, 1) := by decide +kernel
theorem dX12_go_201 : decode cX12_go 201 = .ok (.iconst (-1), 1) := by decide +kernel
theorem dX12_go_202 : decode cX12_go 202 = .ok (.if_icmp .eq 28, 3) := by decide +kernel
theorem dX12_go_205 : decode cX12_go 205 = .ok (.aload_n 0, 1) := by decide +kernel
theorem dX12_go_206 : decode cX12_go 206 = .ok (.getfield 53, 3) := by decide +kernel
theorem dX12_go_209 : decode cX12_go 209 = .ok (.aload_n 0, 1) := by decide +kernel
theorem dX12_go_210 : decode cX12_go 210 = .ok (.getfield 197, 3) := by decide +kernel
theorem dX12_go_213 : decode cX12_go 213 = .ok (.aload_n 0, 1) := by decide +kernel
theorem dX12_go_214 : decode cX12_go 214 = .ok (.getfield 22, 3) := by decide +kernel
theorem dX12_go_217 : decode cX12_go 217 = .ok (.iload_n 2, 1) := by decide +kernel
theorem dX12_go_218 : decode cX12_go 218 = .ok (.iaload, 1) := by decide +kernel
theorem dX12_go_219 : decode cX12_go 219 = .ok (.iastore, 1) := by decide +kernel
theorem dX12_go_220 : decode cX12_go 220 = .ok (.aload_n 0, 1) := by decide +kernel
theorem dX12_go_221 : decode cX12_go 221 = .ok (.dup, 1) := by decide +kernel
theorem dX12_go_222 : decode cX12_go 222 = .ok (.getfield 197, 3) := by decide +kernel
theorem dX12_go_225 : decode cX12_go 225 = .ok (.iconst 1, 1) := by decide +kernel
theorem dX12_go_226 : decode cX12_go 226 = .ok (.iadd, 1) := by decide +kernel
theorem dX12_go_227 : decode cX12_go 227 = .ok (.putfield 197, 3) := by decide +kernel
theorem dX12_go_230 : decode cX12_go 230 = .ok (.aload_n 0, 1) := by decide +kernel
theorem dX12_go_231 : decode cX12_go 231 = .ok (.aload_n 0, 1) := by decide +kernel
theorem dX12_go_232 : decode cX12_go 232 = .ok (.getfield 16, 3) := by decide +kernel
theorem dX12_go_235 : decode cX12_go 235 = .ok (.iload_n 2, 1) := by decide +kernel
theorem dX12_go_236 : decode cX12_go 236 = .ok (.iaload, 1) := by decide +kernel
theorem dX12_go_237 : decode cX12_go 237 = .ok (.putfield 194, 3) := by decide +kernel
theorem dX12_go_240 : decode cX12_go 240 = .ok (.aload_n 0, 1) := by decide +kernel
theorem dX12_go_241 : decode cX12_go 241 = .ok (.dup, 1) := by decide +kernel
theorem dX12_go_242 : decode cX12_go 242 = .ok (.getfield 191, 3) := by decide +kernel
theorem dX12_go_245 : decode cX12_go 245 = .ok (.aload_n 0, 1) := by decide +kernel
theorem dX12_go_246 : decode cX12_go 246 = .ok (.getfield 19, 3) := by decide +kernel
theorem dX12_go_249 : decode cX12_go 249 = .ok (.iload_n 2, 1) := by decide +kernel
theorem dX12_go_250 : decode cX12_go 250 = .ok (.iaload, 1) := by decide +kernel
theorem dX12_go_251 : decode cX12_go 251 = .ok (.iconst 1, 1) := by decide +kernel
theorem dX12_go_252 : decode cX12_go 252 = .ok (.if_icmp .ne 7, 3) := by decide +kernel
theorem dX12_go_255 : decode cX12_go 255 = .ok (.iconst 1, 1) := by decide +kernel
theorem dX12_go_256 : decode cX12_go 256 = .ok (.goto 4, 3) := by decide +kernel
theorem dX12_go_259 : decode cX12_go 259 = .ok (.iconst (-1), 1) := by decide +kernel
theorem dX12_go_260 : decode cX12_go 260 = .ok (.iadd, 1) := by decide +kernel
theorem dX12_go_261 : decode cX12_go 261 = .ok (.putfield 191, 3) := by decide +kernel
theorem dX12_go_264 : decode cX12_go 264 = .ok (.aload_n 0, 1) := by decide +kernel
theorem dX12_go_265 : decode cX12_go 265 = .ok (.dup, 1) := by decide +kernel
theorem dX12_go_266 : decode cX12_go 266 = .ok (.getfield 188, 3) := by decide +kernel
theorem dX12_go_269 : decode cX12_go 269 = .ok (.iconst 1, 1) := by decide +kernel
theorem dX12_go_270 : decode cX12_go 270 = .ok (.iadd, 1) := by decide +kernel
theorem dX12_go_271 : decode cX12_go 271 = .ok (.putfield 188, 3) := by decide +kernel
theorem dX12_go_274 : decode cX12_go 274 = .ok (.goto (-227), 3) := by decide +kernel
theorem dX12_go_277 : decode cX12_go 277 = .ok (.return_, 1) := by decide +kernel
set_option maxRecDepth 20000 in
theorem ggX12_goRow_X12_go : GoodIn wsX12_goRow wsX12_go := goodIn_r _ [9, 10, 11, 12, 13, 14, 15, 4, 2, 16, 17, 18, 19, 20, 21, 22, 8, 23, 24, 25, 26, 27, 28, 29, 30, 31, 32, 33, 34, 35, 36, 37, 38, 39, 40, 41, 42, 43, 44, 45, 46, 47, 48, 49, 50, 51, 52, 53, 54, 55, 56, 57, 58, 59, 60, 61, 62, 63, 64, 65, 66] rfl (by decide +kernel)
set_option maxRecDepth 20000 in
theorem gX12_goRow_X12_go : GoodIn wsX12_goRow (wsV RX12 203 RX12 yX12_go wsX12_go) := goodIn_app (goodIn_of _ (by decide +kernel)) ggX12_goRow_X12_go
theorem dX12_goRow_0 : decode cX12_goRow 0 = .ok (.iconst 0, 1) := by decide +kernel
theorem dX12_goRow_1 : decode cX12_goRow 1 = .ok (.istore_n 2, 1) := by decide +kernel
theorem dX12_goRow_2 : decode cX12_goRow 2 = .ok (.iload_n 2, 1) := by decide +kernel
theorem dX12_goRow_3 : decode cX12_goRow 3 = .ok (.aload_n 0, 1) := by decide +kernel
theorem dX12_goRow_4 : decode cX12_goRow 4 = .ok (.getfield 178, 3) := by decide +kernel
theorem dX12_goRow_7 : decode cX12_goRow 7 = .ok (.if_icmp .ge 21, 3) := by decide +kernel
theorem dX12_goRow_10 : decode cX12_goRow 10 = .ok (.aload_n 0, 1) := by decide +kernel
theorem dX12_goRow_11 : decode cX12_goRow 11 = .ok (.getfield 46, 3) := by decide +kernel
theorem dX12_goRow_14 : decode cX12_goRow 14 = .ok (.iload_n 2, 1) := by decide +kernel
theorem dX12_goRow_15 : decode cX12_goRow 15 = .ok (.aload_n 0, 1) := by decide +kernel
theorem dX12_goRow_16 : decode cX12_goRow 16 = .ok (.getfield 43, 3) := by decide +kernel
theorem dX12_goRow_19 : decode cX12_goRow 19 = .ok (.iload_n 2, 1) := by decide +kernel
theorem dX12_goRow_20 : decode cX12_goRow 20 = .ok (.iaload, 1) := by decide +kernel
theorem dX12_goRow_21 : decode cX12_goRow 21 = .ok (.iastore, 1) := by decide +kernel
theorem dX12_goRow_22 : decode cX12_goRow 22 = .ok (.iinc 2 1, 3) := by decide +kernel
theorem dX12_goRow_25 : decode cX12_goRow 25 = .ok (.goto (-23), 3) := by decide +kernel
theorem dX12_goRow_28 : decode cX12_goRow 28 = .ok (.aload_n 0, 1) := by decide +kernel
theorem dX12_goRow_29 : decode cX12_goRow 29 = .ok (.aload_n 0, 1) := by decide +kernel
theorem dX12_goRow_30 : decode cX12_goRow 30 = .ok (.getfield 178, 3) := by decide +kernel
theorem dX12_goRow_33 : decode cX12_goRow 33 = .ok (.putfield 200, 3) := by decide +kernel
theorem dX12_goRow_36 : decode cX12_goRow 36 = .ok (.aload_n 0, 1) := by decide +kernel
theorem dX12_goRow_37 : decode cX12_goRow 37 = .ok (.iload_n 1, 1) := by decide +kernel
theorem dX12_goRow_38 : decode cX12_goRow 38 = .ok (.invokevirtual 203, 3) := by decide +kernel
theorem dX12_goRow_41 : decode cX12_goRow 41 = .ok (.return_, 1) := by decide +kernel
set_option maxRecDepth 20000 in
theorem ggX12_run_X12_isReader : GoodIn wsX12_run wsX12_isReader := goodIn_r _ [10, 11, 12, 9, 13] rfl (by decide +kernel)
set_option maxRecDepth 20000 in
theorem gX12_run_X12_isReader : GoodIn wsX12_run (va_wsS RX12 106 yX12_isReader wsX12_isReader) := goodIn_app (goodIn_of _ (by decide +kernel)) ggX12_run_X12_isReader
set_option maxRecDepth 20000 in
theorem ggX12_run_X12_in : GoodIn wsX12_run wsX12_in := goodIn_r _ [13] rfl (by decide +kernel)
set_option maxRecDepth 20000 in
theorem gX12_run_X12_in : GoodIn wsX12_run (va_wsS RX12 102 yX12_in wsX12_in) := goodIn_app (goodIn_of _ (by decide +kernel)) ggX12_run_X12_in
set_option maxRecDepth 20000 in
theorem ggX12_run_X12_goRow : GoodIn wsX12_run wsX12_goRow := goodIn_r _ [17, 18, 19, 20, 21, 22, 23, 24, 9, 25, 26, 2, 3, 4, 5, 6, 27, 28, 29, 30, 31, 32, 33, 34, 35, 36, 37, 38, 39, 40, 41, 42, 43, 44, 45, 46, 47, 48, 49, 50, 51, 52, 53, 54, 55, 56, 57, 58, 59, 60, 61, 62, 63, 64, 65, 66, 67, 68, 69, 70, 71, 72, 73, 74, 75, 76, 77] rfl (by decide +kernel)
set_option maxRecDepth 20000 in
theorem gX12_run_X12_goRow : GoodIn wsX12_run (wsV RX12 207 RX12 yX12_goRow wsX12_goRow) := goodIn_app (goodIn_of _ (by decide +kernel)) ggX12_run_X12_goRow
theorem dX12_run_0 : decode cX12_run 0 = .ok (.iload_n 1, 1) := by decide +kernel
theorem dX12_run_1 : decode cX12_run 1 = .ok (.invokestatic 106, 3) := by decide +kernel
theorem dX12_run_4 : decode cX12_run 4 = .ok (.ifCond .ne 6, 3) := by decide +kernel
theorem dX12_run_7 : decode cX12_run 7 = .ok (.bipush (-2), 2) := by decide +kernel
theorem dX12_run_9 : decode cX12_run 9 = .ok (.ireturn, 1) := by decide +kernel
theorem dX12_run_10 : decode cX12_run 10 = .ok (.iload_n 2, 1) := by decide +kernel
theorem dX12_run_11 : decode cX12_run 11 = .ok (.i2l, 1) := by decide +kernel
theorem dX12_run_12 : decode cX12_run 12 = .ok (.lconst 0, 1) := by decide +kernel
theorem dX12_run_13 : decode cX12_run 13 = .ok (.ldc2_w 174, 3) := by decide +kernel
theorem dX12_run_16 : decode cX12_run 16 = .ok (.invokestatic 102, 3) := by decide +kernel
theorem dX12_run_19 : decode cX12_run 19 = .ok (.ifCond .ne 6, 3) := by decide +kernel
theorem dX12_run_22 : decode cX12_run 22 = .ok (.bipush (-3), 2) := by decide +kernel
theorem dX12_run_24 : decode cX12_run 24 = .ok (.ireturn, 1) := by decide +kernel
theorem dX12_run_25 : decode cX12_run 25 = .ok (.aload_n 0, 1) := by decide +kernel
theorem dX12_run_26 : decode cX12_run 26 = .ok (.iload_n 1, 1) := by decide +kernel
theorem dX12_run_27 : decode cX12_run 27 = .ok (.invokevirtual 207, 3) := by decide +kernel
theorem dX12_run_30 : decode cX12_run 30 = .ok (.iload_n 2, 1) := by decide +kernel
theorem dX12_run_31 : decode cX12_run 31 = .ok (.ifCond .ne 10, 3) := by decide +kernel
theorem dX12_run_34 : decode cX12_run 34 = .ok (.aload_n 0, 1) := by decide +kernel
theorem dX12_run_35 : decode cX12_run 35 = .ok (.getfield 185, 3) := by decide +kernel
theorem dX12_run_38 : decode cX12_run 38 = .ok (.goto 43, 3) := by decide +kernel
theorem dX12_run_41 : decode cX12_run 41 = .ok (.iload_n 2, 1) := by decide +kernel
theorem dX12_run_42 : decode cX12_run 42 = .ok (.iconst 1, 1) := by decide +kernel
theorem dX12_run_43 : decode cX12_run 43 = .ok (.if_icmp .ne 10, 3) := by decide +kernel
theorem dX12_run_46 : decode cX12_run 46 = .ok (.aload_n 0, 1) := by decide +kernel
theorem dX12_run_47 : decode cX12_run 47 = .ok (.getfield 188, 3) := by decide +kernel
theorem dX12_run_50 : decode cX12_run 50 = .ok (.goto 31, 3) := by decide +kernel
theorem dX12_run_53 : decode cX12_run 53 = .ok (.iload_n 2, 1) := by decide +kernel
theorem dX12_run_54 : decode cX12_run 54 = .ok (.iconst 2, 1) := by decide +kernel
theorem dX12_run_55 : decode cX12_run 55 = .ok (.if_icmp .ne 10, 3) := by decide +kernel
theorem dX12_run_58 : decode cX12_run 58 = .ok (.aload_n 0, 1) := by decide +kernel
theorem dX12_run_59 : decode cX12_run 59 = .ok (.getfield 191, 3) := by decide +kernel
theorem dX12_run_62 : decode cX12_run 62 = .ok (.goto 19, 3) := by decide +kernel
theorem dX12_run_65 : decode cX12_run 65 = .ok (.iload_n 2, 1) := by decide +kernel
theorem dX12_run_66 : decode cX12_run 66 = .ok (.iconst 3, 1) := by decide +kernel
theorem dX12_run_67 : decode cX12_run 67 = .ok (.if_icmp .ne 10, 3) := by decide +kernel
theorem dX12_run_70 : decode cX12_run 70 = .ok (.aload_n 0, 1) := by decide +kernel
theorem dX12_run_71 : decode cX12_run 71 = .ok (.getfield 194, 3) := by decide +kernel
theorem dX12_run_74 : decode cX12_run 74 = .ok (.goto 7, 3) := by decide +kernel
theorem dX12_run_77 : decode cX12_run 77 = .ok (.aload_n 0, 1) := by decide +kernel
theorem dX12_run_78 : decode cX12_run 78 = .ok (.getfield 197, 3) := by decide +kernel
theorem dX12_run_81 : decode cX12_run 81 = .ok (.ireturn, 1) := by decide +kernel
set_option maxRecDepth 20000 in
theorem ggX12_said_X12_isReader : GoodIn wsX12_said wsX12_isReader := goodIn_r _ [6, 7, 8, 5, 9] rfl (by decide +kernel)
set_option maxRecDepth 20000 in
theorem gX12_said_X12_isReader : GoodIn wsX12_said (va_wsS RX12 106 yX12_isReader wsX12_isReader) := goodIn_app (goodIn_of _ (by decide +kernel)) ggX12_said_X12_isReader
set_option maxRecDepth 20000 in
theorem ggX12_said_X12_goRow : GoodIn wsX12_said wsX12_goRow := goodIn_r _ [13, 14, 15, 16, 17, 18, 19, 20, 5, 21, 22, 23, 24, 25, 26, 1, 27, 28, 29, 2, 30, 31, 32, 33, 34, 35, 36, 37, 38, 39, 40, 41, 42, 43, 44, 45, 46, 47, 48, 49, 50, 51, 52, 53, 54, 55, 56, 57, 58, 59, 60, 61, 62, 63, 64, 65, 66, 67, 68, 69, 70, 71, 72, 73, 74, 75, 76] rfl (by decide +kernel)
set_option maxRecDepth 20000 in
theorem gX12_said_X12_goRow : GoodIn wsX12_said (wsV RX12 207 RX12 yX12_goRow wsX12_goRow) := goodIn_app (goodIn_of _ (by decide +kernel)) ggX12_said_X12_goRow
theorem dX12_said_0 : decode cX12_said 0 = .ok (.iload_n 1, 1) := by decide +kernel
theorem dX12_said_1 : decode cX12_said 1 = .ok (.invokestatic 106, 3) := by decide +kernel
theorem dX12_said_4 : decode cX12_said 4 = .ok (.ifCond .ne 6, 3) := by decide +kernel
theorem dX12_said_7 : decode cX12_said 7 = .ok (.bipush (-2), 2) := by decide +kernel
theorem dX12_said_9 : decode cX12_said 9 = .ok (.ireturn, 1) := by decide +kernel
theorem dX12_said_10 : decode cX12_said 10 = .ok (.iload_n 2, 1) := by decide +kernel
theorem dX12_said_11 : decode cX12_said 11 = .ok (.ifCond .ge 6, 3) := by decide +kernel
theorem dX12_said_14 : decode cX12_said 14 = .ok (.bipush (-3), 2) := by decide +kernel
theorem dX12_said_16 : decode cX12_said 16 = .ok (.ireturn, 1) := by decide +kernel
theorem dX12_said_17 : decode cX12_said 17 = .ok (.aload_n 0, 1) := by decide +kernel
theorem dX12_said_18 : decode cX12_said 18 = .ok (.iload_n 1, 1) := by decide +kernel
theorem dX12_said_19 : decode cX12_said 19 = .ok (.invokevirtual 207, 3) := by decide +kernel
theorem dX12_said_22 : decode cX12_said 22 = .ok (.iload_n 2, 1) := by decide +kernel
theorem dX12_said_23 : decode cX12_said 23 = .ok (.aload_n 0, 1) := by decide +kernel
theorem dX12_said_24 : decode cX12_said 24 = .ok (.getfield 197, 3) := by decide +kernel
theorem dX12_said_27 : decode cX12_said 27 = .ok (.if_icmp .ge 12, 3) := by decide +kernel
theorem dX12_said_30 : decode cX12_said 30 = .ok (.aload_n 0, 1) := by decide +kernel
theorem dX12_said_31 : decode cX12_said 31 = .ok (.getfield 53, 3) := by decide +kernel
theorem dX12_said_34 : decode cX12_said 34 = .ok (.iload_n 2, 1) := by decide +kernel
theorem dX12_said_35 : decode cX12_said 35 = .ok (.iaload, 1) := by decide +kernel
theorem dX12_said_36 : decode cX12_said 36 = .ok (.goto 4, 3) := by decide +kernel
theorem dX12_said_39 : decode cX12_said 39 = .ok (.iconst (-1), 1) := by decide +kernel
theorem dX12_said_40 : decode cX12_said 40 = .ok (.ireturn, 1) := by decide +kernel
theorem dX12_entry_0 : decode cX12_entry 0 = .ok (.lload_n 0, 1) := by decide +kernel
theorem dX12_entry_1 : decode cX12_entry 1 = .ok (.iconst 4, 1) := by decide +kernel
theorem dX12_entry_2 : decode cX12_entry 2 = .ok (.iconst 5, 1) := by decide +kernel
theorem dX12_entry_3 : decode cX12_entry 3 = .ok (.iload_n 2, 1) := by decide +kernel
theorem dX12_entry_4 : decode cX12_entry 4 = .ok (.imul, 1) := by decide +kernel
theorem dX12_entry_5 : decode cX12_entry 5 = .ok (.iload_n 3, 1) := by decide +kernel
theorem dX12_entry_6 : decode cX12_entry 6 = .ok (.iadd, 1) := by decide +kernel
theorem dX12_entry_7 : decode cX12_entry 7 = .ok (.imul, 1) := by decide +kernel
theorem dX12_entry_8 : decode cX12_entry 8 = .ok (.lshr, 1) := by decide +kernel
theorem dX12_entry_9 : decode cX12_entry 9 = .ok (.ldc2_w 210, 3) := by decide +kernel
theorem dX12_entry_12 : decode cX12_entry 12 = .ok (.land, 1) := by decide +kernel
theorem dX12_entry_13 : decode cX12_entry 13 = .ok (.l2i, 1) := by decide +kernel
theorem dX12_entry_14 : decode cX12_entry 14 = .ok (.ireturn, 1) := by decide +kernel
set_option maxRecDepth 20000 in
theorem ggX12_letterTable_X12_at0 : GoodIn wsX12_letterTable wsX12_at0 := goodIn_r _ [8] rfl (by decide +kernel)
set_option maxRecDepth 20000 in
theorem gX12_letterTable_X12_at0 : GoodIn wsX12_letterTable (va_wsS RX12 164 yX12_at0 wsX12_at0) := goodIn_app (goodIn_of _ (by decide +kernel)) ggX12_letterTable_X12_at0
theorem dX12_letterTable_0 : decode cX12_letterTable 0 = .ok (.lconst 0, 1) := by decide +kernel
theorem dX12_letterTable_1 : decode cX12_letterTable 1 = .ok (.lstore_n 3, 1) := by decide +kernel
theorem dX12_letterTable_2 : decode cX12_letterTable 2 = .ok (.iconst 0, 1) := by decide +kernel
theorem dX12_letterTable_3 : decode cX12_letterTable 3 = .ok (.istore 5, 2) := by decide +kernel
theorem dX12_letterTable_5 : decode cX12_letterTable 5 = .ok (.iload 5, 2) := by decide +kernel
theorem dX12_letterTable_7 : decode cX12_letterTable 7 = .ok (.iconst 2, 1) := by decide +kernel
theorem dX12_letterTable_8 : decode cX12_letterTable 8 = .ok (.if_icmp .ge 90, 3) := by decide +kernel
theorem dX12_letterTable_11 : decode cX12_letterTable 11 = .ok (.iconst 0, 1) := by decide +kernel
theorem dX12_letterTable_12 : decode cX12_letterTable 12 = .ok (.istore 6, 2) := by decide +kernel
theorem dX12_letterTable_14 : decode cX12_letterTable 14 = .ok (.iload 6, 2) := by decide +kernel
theorem dX12_letterTable_16 : decode cX12_letterTable 16 = .ok (.aload_n 0, 1) := by decide +kernel
theorem dX12_letterTable_17 : decode cX12_letterTable 17 = .ok (.getfield 7, 3) := by decide +kernel
theorem dX12_letterTable_20 : decode cX12_letterTable 20 = .ok (.iload_n 1, 1) := by decide +kernel
theorem dX12_letterTable_21 : decode cX12_letterTable 21 = .ok (.iaload, 1) := by decide +kernel
theorem dX12_letterTable_22 : decode cX12_letterTable 22 = .ok (.if_icmp .ge 70, 3) := by decide +kernel
theorem dX12_letterTable_25 : decode cX12_letterTable 25 = .ok (.iload_n 1, 1) := by decide +kernel
theorem dX12_letterTable_26 : decode cX12_letterTable 26 = .ok (.iload 6, 2) := by decide +kernel
theorem dX12_letterTable_28 : decode cX12_letterTable 28 = .ok (.iload_n 2, 1) := by decide +kernel
theorem dX12_letterTable_29 : decode cX12_letterTable 29 = .ok (.invokestatic 164, 3) := by decide +kernel
theorem dX12_letterTable_32 : decode cX12_letterTable 32 = .ok (.istore 7, 2) := by decide +kernel
theorem dX12_letterTable_34 : decode cX12_letterTable 34 = .ok (.aload_n 0, 1) := by decide +kernel
theorem dX12_letterTable_35 : decode cX12_letterTable 35 = .ok (.getfield 16, 3) := by decide +kernel
theorem dX12_letterTable_38 : decode cX12_letterTable 38 = .ok (.iload 7, 2) := by decide +kernel
theorem dX12_letterTable_40 : decode cX12_letterTable 40 = .ok (.iaload, 1) := by decide +kernel
theorem dX12_letterTable_41 : decode cX12_letterTable 41 = .ok (.iconst (-1), 1) := by decide +kernel
theorem dX12_letterTable_42 : decode cX12_letterTable 42 = .ok (.if_icmp .ne 9, 3) := by decide +kernel
theorem dX12_letterTable_45 : decode cX12_letterTable 45 = .ok (.ldc2_w 212, 3) := by decide +kernel
theorem dX12_letterTable_48 : decode cX12_letterTable 48 = .ok (.goto 21, 3) := by decide +kernel
theorem dX12_letterTable_51 : decode cX12_letterTable 51 = .ok (.iconst 2, 1) := by decide +kernel
theorem dX12_letterTable_52 : decode cX12_letterTable 52 = .ok (.aload_n 0, 1) := by decide +kernel
theorem dX12_letterTable_53 : decode cX12_letterTable 53 = .ok (.getfield 16, 3) := by decide +kernel
theorem dX12_letterTable_56 : decode cX12_letterTable 56 = .ok (.iload 7, 2) := by decide +kernel
theorem dX12_letterTable_58 : decode cX12_letterTable 58 = .ok (.iaload, 1) := by decide +kernel
theorem dX12_letterTable_59 : decode cX12_letterTable 59 = .ok (.imul, 1) := by decide +kernel
theorem dX12_letterTable_60 : decode cX12_letterTable 60 = .ok (.aload_n 0, 1) := by decide +kernel
theorem dX12_letterTable_61 : decode cX12_letterTable 61 = .ok (.getfield 19, 3) := by decide +kernel
theorem dX12_letterTable_64 : decode cX12_letterTable 64 = .ok (.iload 7, 2) := by decide +kernel
theorem dX12_letterTable_66 : decode cX12_letterTable 66 = .ok (.iaload, 1) := by decide +kernel
theorem dX12_letterTable_67 : decode cX12_letterTable 67 = .ok (.iadd, 1) := by decide +kernel
theorem dX12_letterTable_68 : decode cX12_letterTable 68 = .ok (.i2l, 1) := by decide +kernel
theorem dX12_letterTable_69 : decode cX12_letterTable 69 = .ok (.lstore 8, 2) := by decide +kernel
theorem dX12_letterTable_71 : decode cX12_letterTable 71 = .ok (.lload_n 3, 1) := by decide +kernel
theorem dX12_letterTable_72 : decode cX12_letterTable 72 = .ok (.lload 8, 2) := by decide +kernel
theorem dX12_letterTable_74 : decode cX12_letterTable 74 = .ok (.iconst 4, 1) := by decide +kernel
theorem dX12_letterTable_75 : decode cX12_letterTable 75 = .ok (.iconst 5, 1) := by decide +kernel
theorem dX12_letterTable_76 : decode cX12_letterTable 76 = .ok (.iload 5, 2) := by decide +kernel
theorem dX12_letterTable_78 : decode cX12_letterTable 78 = .ok (.imul, 1) := by decide +kernel
theorem dX12_letterTable_79 : decode cX12_letterTable 79 = .ok (.iload 6, 2) := by decide +kernel
theorem dX12_letterTable_81 : decode cX12_letterTable 81 = .ok (.iadd, 1) := by decide +kernel
theorem dX12_letterTable_82 : decode cX12_letterTable 82 = .ok (.imul, 1) := by decide +kernel
theorem dX12_letterTable_83 : decode cX12_letterTable 83 = .ok (.lshl, 1) := by decide +kernel
theorem dX12_letterTable_84 : decode cX12_letterTable 84 = .ok (.lor, 1) := by decide +kernel
theorem dX12_letterTable_85 : decode cX12_letterTable 85 = .ok (.lstore_n 3, 1) := by decide +kernel
theorem dX12_letterTable_86 : decode cX12_letterTable 86 = .ok (.iinc 6 1, 3) := by decide +kernel
theorem dX12_letterTable_89 : decode cX12_letterTable 89 = .ok (.goto (-75), 3) := by decide +kernel
theorem dX12_letterTable_92 : decode cX12_letterTable 92 = .ok (.iinc 5 1, 3) := by decide +kernel
theorem dX12_letterTable_95 : decode cX12_letterTable 95 = .ok (.goto (-90), 3) := by decide +kernel
theorem dX12_letterTable_98 : decode cX12_letterTable 98 = .ok (.lload_n 3, 1) := by decide +kernel
theorem dX12_letterTable_99 : decode cX12_letterTable 99 = .ok (.lreturn, 1) := by decide +kernel
set_option maxRecDepth 20000 in
theorem ggX12_through_X12_entry : GoodIn wsX12_through wsX12_entry := goodIn_r _ [4, 5] rfl (by decide +kernel)
set_option maxRecDepth 20000 in
theorem gX12_through_X12_entry : GoodIn wsX12_through (va_wsS RX12 214 yX12_entry wsX12_entry) := goodIn_app (goodIn_of _ (by decide +kernel)) ggX12_through_X12_entry
theorem dX12_through_0 : decode cX12_through 0 = .ok (.iload 5, 2) := by decide +kernel
theorem dX12_through_2 : decode cX12_through 2 = .ok (.istore 7, 2) := by decide +kernel
theorem dX12_through_4 : decode cX12_through 4 = .ok (.iload 5, 2) := by decide +kernel
theorem dX12_through_6 : decode cX12_through 6 = .ok (.istore 8, 2) := by decide +kernel
theorem dX12_through_8 : decode cX12_through 8 = .ok (.iload 6, 2) := by decide +kernel
theorem dX12_through_10 : decode cX12_through 10 = .ok (.istore 9, 2) := by decide +kernel
theorem dX12_through_12 : decode cX12_through 12 = .ok (.iconst 0, 1) := by decide +kernel
theorem dX12_through_13 : decode cX12_through 13 = .ok (.istore 10, 2) := by decide +kernel
theorem dX12_through_15 : decode cX12_through 15 = .ok (.iload 10, 2) := by decide +kernel
theorem dX12_through_17 : decode cX12_through 17 = .ok (.bipush 24, 2) := by decide +kernel
theorem dX12_through_19 : decode cX12_through 19 = .ok (.if_icmp .ge 102, 3) := by decide +kernel
theorem dX12_through_22 : decode cX12_through 22 = .ok (.iload 7, 2) := by decide +kernel
theorem dX12_through_24 : decode cX12_through 24 = .ok (.ifCond .ne 7, 3) := by decide +kernel
theorem dX12_through_27 : decode cX12_through 27 = .ok (.lload_n 1, 1) := by decide +kernel
theorem dX12_through_28 : decode cX12_through 28 = .ok (.goto 4, 3) := by decide +kernel
theorem dX12_through_31 : decode cX12_through 31 = .ok (.lload_n 3, 1) := by decide +kernel
theorem dX12_through_32 : decode cX12_through 32 = .ok (.iload 8, 2) := by decide +kernel
theorem dX12_through_34 : decode cX12_through 34 = .ok (.iload 9, 2) := by decide +kernel
theorem dX12_through_36 : decode cX12_through 36 = .ok (.invokestatic 214, 3) := by decide +kernel
theorem dX12_through_39 : decode cX12_through 39 = .ok (.istore 11, 2) := by decide +kernel
theorem dX12_through_41 : decode cX12_through 41 = .ok (.iload 11, 2) := by decide +kernel
theorem dX12_through_43 : decode cX12_through 43 = .ok (.bipush 9, 2) := by decide +kernel
theorem dX12_through_45 : decode cX12_through 45 = .ok (.if_icmp .le 6, 3) := by decide +kernel
theorem dX12_through_48 : decode cX12_through 48 = .ok (.iload 11, 2) := by decide +kernel
theorem dX12_through_50 : decode cX12_through 50 = .ok (.ireturn, 1) := by decide +kernel
theorem dX12_through_51 : decode cX12_through 51 = .ok (.iload 11, 2) := by decide +kernel
theorem dX12_through_53 : decode cX12_through 53 = .ok (.iconst 1, 1) := by decide +kernel
theorem dX12_through_54 : decode cX12_through 54 = .ok (.iand, 1) := by decide +kernel
theorem dX12_through_55 : decode cX12_through 55 = .ok (.iconst 1, 1) := by decide +kernel
theorem dX12_through_56 : decode cX12_through 56 = .ok (.if_icmp .ne 7, 3) := by decide +kernel
theorem dX12_through_59 : decode cX12_through 59 = .ok (.iconst 1, 1) := by decide +kernel
theorem dX12_through_60 : decode cX12_through 60 = .ok (.goto 4, 3) := by decide +kernel
theorem dX12_through_63 : decode cX12_through 63 = .ok (.iconst 0, 1) := by decide +kernel
theorem dX12_through_64 : decode cX12_through 64 = .ok (.istore 12, 2) := by decide +kernel
theorem dX12_through_66 : decode cX12_through 66 = .ok (.iload 12, 2) := by decide +kernel
theorem dX12_through_68 : decode cX12_through 68 = .ok (.iload 7, 2) := by decide +kernel
theorem dX12_through_70 : decode cX12_through 70 = .ok (.iconst 1, 1) := by decide +kernel
theorem dX12_through_71 : decode cX12_through 71 = .ok (.if_icmp .ne 7, 3) := by decide +kernel
theorem dX12_through_74 : decode cX12_through 74 = .ok (.iconst 1, 1) := by decide +kernel
theorem dX12_through_75 : decode cX12_through 75 = .ok (.goto 4, 3) := by decide +kernel
theorem dX12_through_78 : decode cX12_through 78 = .ok (.iconst 0, 1) := by decide +kernel
theorem dX12_through_79 : decode cX12_through 79 = .ok (.if_icmp .ne 6, 3) := by decide +kernel
theorem dX12_through_82 : decode cX12_through 82 = .ok (.iload 11, 2) := by decide +kernel
theorem dX12_through_84 : decode cX12_through 84 = .ok (.ireturn, 1) := by decide +kernel
theorem dX12_through_85 : decode cX12_through 85 = .ok (.iload 12, 2) := by decide +kernel
theorem dX12_through_87 : decode cX12_through 87 = .ok (.ifCond .eq 7, 3) := by decide +kernel
theorem dX12_through_90 : decode cX12_through 90 = .ok (.iconst 1, 1) := by decide +kernel
theorem dX12_through_91 : decode cX12_through 91 = .ok (.goto 4, 3) := by decide +kernel
theorem dX12_through_94 : decode cX12_through 94 = .ok (.iconst 0, 1) := by decide +kernel
theorem dX12_through_95 : decode cX12_through 95 = .ok (.istore 7, 2) := by decide +kernel
theorem dX12_through_97 : decode cX12_through 97 = .ok (.iload 12, 2) := by decide +kernel
theorem dX12_through_99 : decode cX12_through 99 = .ok (.ifCond .eq 7, 3) := by decide +kernel
theorem dX12_through_102 : decode cX12_through 102 = .ok (.iconst 0, 1) := by decide +kernel
theorem dX12_through_103 : decode cX12_through 103 = .ok (.goto 4, 3) := by decide +kernel
theorem dX12_through_106 : decode cX12_through 106 = .ok (.iconst 1, 1) := by decide +kernel
theorem dX12_through_107 : decode cX12_through 107 = .ok (.istore 8, 2) := by decide +kernel
theorem dX12_through_109 : decode cX12_through 109 = .ok (.iload 11, 2) := by decide +kernel
theorem dX12_through_111 : decode cX12_through 111 = .ok (.iconst 2, 1) := by decide +kernel
theorem dX12_through_112 : decode cX12_through 112 = .ok (.idiv, 1) := by decide +kernel
theorem dX12_through_113 : decode cX12_through 113 = .ok (.istore 9, 2) := by decide +kernel
theorem dX12_through_115 : decode cX12_through 115 = .ok (.iinc 10 1, 3) := by decide +kernel
theorem dX12_through_118 : decode cX12_through 118 = .ok (.goto (-103), 3) := by decide +kernel
theorem dX12_through_121 : decode cX12_through 121 = .ok (.bipush 11, 2) := by decide +kernel
theorem dX12_through_123 : decode cX12_through 123 = .ok (.ireturn, 1) := by decide +kernel
set_option maxRecDepth 20000 in
theorem ggX12_join_X12_through : GoodIn wsX12_join wsX12_through := goodIn_r _ [6, 7, 8, 5, 9, 10] rfl (by decide +kernel)
set_option maxRecDepth 20000 in
theorem gX12_join_X12_through : GoodIn wsX12_join (wsV RX12 218 RX12 yX12_through wsX12_through) := goodIn_app (goodIn_of _ (by decide +kernel)) ggX12_join_X12_through
theorem dX12_join_0 : decode cX12_join 0 = .ok (.lconst 0, 1) := by decide +kernel
theorem dX12_join_1 : decode cX12_join 1 = .ok (.lstore 6, 2) := by decide +kernel
theorem dX12_join_3 : decode cX12_join 3 = .ok (.iconst 0, 1) := by decide +kernel
theorem dX12_join_4 : decode cX12_join 4 = .ok (.istore 8, 2) := by decide +kernel
theorem dX12_join_6 : decode cX12_join 6 = .ok (.iload 8, 2) := by decide +kernel
theorem dX12_join_8 : decode cX12_join 8 = .ok (.iconst 2, 1) := by decide +kernel
theorem dX12_join_9 : decode cX12_join 9 = .ok (.if_icmp .ge 56, 3) := by decide +kernel
theorem dX12_join_12 : decode cX12_join 12 = .ok (.iconst 0, 1) := by decide +kernel
theorem dX12_join_13 : decode cX12_join 13 = .ok (.istore 9, 2) := by decide +kernel
theorem dX12_join_15 : decode cX12_join 15 = .ok (.iload 9, 2) := by decide +kernel
theorem dX12_join_17 : decode cX12_join 17 = .ok (.aload_n 0, 1) := by decide +kernel
theorem dX12_join_18 : decode cX12_join 18 = .ok (.getfield 7, 3) := by decide +kernel
theorem dX12_join_21 : decode cX12_join 21 = .ok (.iload_n 1, 1) := by decide +kernel
theorem dX12_join_22 : decode cX12_join 22 = .ok (.iaload, 1) := by decide +kernel
theorem dX12_join_23 : decode cX12_join 23 = .ok (.if_icmp .ge 36, 3) := by decide +kernel
theorem dX12_join_26 : decode cX12_join 26 = .ok (.lload 6, 2) := by decide +kernel
theorem dX12_join_28 : decode cX12_join 28 = .ok (.aload_n 0, 1) := by decide +kernel
theorem dX12_join_29 : decode cX12_join 29 = .ok (.lload_n 2, 1) := by decide +kernel
theorem dX12_join_30 : decode cX12_join 30 = .ok (.lload 4, 2) := by decide +kernel
theorem dX12_join_32 : decode cX12_join 32 = .ok (.iload 8, 2) := by decide +kernel
theorem dX12_join_34 : decode cX12_join 34 = .ok (.iload 9, 2) := by decide +kernel
theorem dX12_join_36 : decode cX12_join 36 = .ok (.invokevirtual 218, 3) := by decide +kernel
theorem dX12_join_39 : decode cX12_join 39 = .ok (.i2l, 1) := by decide +kernel
theorem dX12_join_40 : decode cX12_join 40 = .ok (.iconst 4, 1) := by decide +kernel
theorem dX12_join_41 : decode cX12_join 41 = .ok (.iconst 5, 1) := by decide +kernel
theorem dX12_join_42 : decode cX12_join 42 = .ok (.iload 8, 2) := by decide +kernel
theorem dX12_join_44 : decode cX12_join 44 = .ok (.imul, 1) := by decide +kernel
theorem dX12_join_45 : decode cX12_join 45 = .ok (.iload 9, 2) := by decide +kernel
theorem dX12_join_47 : decode cX12_join 47 = .ok (.iadd, 1) := by decide +kernel
theorem dX12_join_48 : decode cX12_join 48 = .ok (.imul, 1) := by decide +kernel
theorem dX12_join_49 : decode cX12_join 49 = .ok (.lshl, 1) := by decide +kernel
theorem dX12_join_50 : decode cX12_join 50 = .ok (.lor, 1) := by decide +kernel
theorem dX12_join_51 : decode cX12_join 51 = .ok (.lstore 6, 2) := by decide +kernel
theorem dX12_join_53 : decode cX12_join 53 = .ok (.iinc 9 1, 3) := by decide +kernel
theorem dX12_join_56 : decode cX12_join 56 = .ok (.goto (-41), 3) := by decide +kernel
theorem dX12_join_59 : decode cX12_join 59 = .ok (.iinc 8 1, 3) := by decide +kernel
theorem dX12_join_62 : decode cX12_join 62 = .ok (.goto (-56), 3) := by decide +kernel
theorem dX12_join_65 : decode cX12_join 65 = .ok (.lload 6, 2) := by decide +kernel
theorem dX12_join_67 : decode cX12_join 67 = .ok (.lreturn, 1) := by decide +kernel
set_option maxRecDepth 20000 in
theorem ggX12_rowTable_X12_letterTable : GoodIn wsX12_rowTable wsX12_letterTable := goodIn_r _ [7, 8, 9, 10, 11, 12, 13, 6, 14, 27, 28, 29, 30, 31, 32, 33, 34, 35, 36, 37, 38, 39, 40, 41, 42, 43, 44, 45, 46, 47, 48, 49, 50, 51, 52, 53, 54, 55, 56, 57, 58, 59, 60, 61, 62, 63, 64, 65, 66, 67, 68, 69] rfl (by decide +kernel)
set_option maxRecDepth 20000 in
theorem gX12_rowTable_X12_letterTable : GoodIn wsX12_rowTable (wsV RX12 222 RX12 yX12_letterTable wsX12_letterTable) := goodIn_app (goodIn_of _ (by decide +kernel)) ggX12_rowTable_X12_letterTable
set_option maxRecDepth 20000 in
theorem ggX12_rowTable_X12_join : GoodIn wsX12_rowTable wsX12_join := goodIn_r _ [18, 8, 19, 20, 21, 6, 22, 23, 24, 25, 26, 27, 28, 29, 30, 31, 32, 33, 34, 35, 36, 37, 38, 39, 40, 41, 42, 43, 44, 45, 46, 47, 48, 49, 50, 51, 52, 53, 54, 55, 56, 57, 58, 59, 60, 61, 62, 63, 64, 65, 66, 67, 68, 69] rfl (by decide +kernel)
set_option maxRecDepth 20000 in
theorem gX12_rowTable_X12_join : GoodIn wsX12_rowTable (wsV RX12 226 RX12 yX12_join wsX12_join) := goodIn_app (goodIn_of _ (by decide +kernel)) ggX12_rowTable_X12_join
theorem dX12_rowTable_0 : decode cX12_rowTable 0 = .ok (.aload_n 0, 1) := by decide +kernel
theorem dX12_rowTable_1 : decode cX12_rowTable 1 = .ok (.iload_n 1, 1) := by decide +kernel
theorem dX12_rowTable_2 : decode cX12_rowTable 2 = .ok (.aload_n 0, 1) := by decide +kernel
theorem dX12_rowTable_3 : decode cX12_rowTable 3 = .ok (.getfield 43, 3) := by decide +kernel
theorem dX12_rowTable_6 : decode cX12_rowTable 6 = .ok (.iconst 0, 1) := by decide +kernel
theorem dX12_rowTable_7 : decode cX12_rowTable 7 = .ok (.iaload, 1) := by decide +kernel
theorem dX12_rowTable_8 : decode cX12_rowTable 8 = .ok (.invokevirtual 222, 3) := by decide +kernel
theorem dX12_rowTable_11 : decode cX12_rowTable 11 = .ok (.lstore_n 2, 1) := by decide +kernel
theorem dX12_rowTable_12 : decode cX12_rowTable 12 = .ok (.iconst 1, 1) := by decide +kernel
theorem dX12_rowTable_13 : decode cX12_rowTable 13 = .ok (.istore 4, 2) := by decide +kernel
theorem dX12_rowTable_15 : decode cX12_rowTable 15 = .ok (.iload 4, 2) := by decide +kernel
theorem dX12_rowTable_17 : decode cX12_rowTable 17 = .ok (.aload_n 0, 1) := by decide +kernel
theorem dX12_rowTable_18 : decode cX12_rowTable 18 = .ok (.getfield 178, 3) := by decide +kernel
theorem dX12_rowTable_21 : decode cX12_rowTable 21 = .ok (.if_icmp .ge 28, 3) := by decide +kernel
theorem dX12_rowTable_24 : decode cX12_rowTable 24 = .ok (.aload_n 0, 1) := by decide +kernel
theorem dX12_rowTable_25 : decode cX12_rowTable 25 = .ok (.iload_n 1, 1) := by decide +kernel
theorem dX12_rowTable_26 : decode cX12_rowTable 26 = .ok (.lload_n 2, 1) := by decide +kernel
theorem dX12_rowTable_27 : decode cX12_rowTable 27 = .ok (.aload_n 0, 1) := by decide +kernel
theorem dX12_rowTable_28 : decode cX12_rowTable 28 = .ok (.iload_n 1, 1) := by decide +kernel
theorem dX12_rowTable_29 : decode cX12_rowTable 29 = .ok (.aload_n 0, 1) := by decide +kernel
theorem dX12_rowTable_30 : decode cX12_rowTable 30 = .ok (.getfield 43, 3) := by decide +kernel
theorem dX12_rowTable_33 : decode cX12_rowTable 33 = .ok (.iload 4, 2) := by decide +kernel
theorem dX12_rowTable_35 : decode cX12_rowTable 35 = .ok (.iaload, 1) := by decide +kernel
theorem dX12_rowTable_36 : decode cX12_rowTable 36 = .ok (.invokevirtual 222, 3) := by decide +kernel
theorem dX12_rowTable_39 : decode cX12_rowTable 39 = .ok (.invokevirtual 226, 3) := by decide +kernel
theorem dX12_rowTable_42 : decode cX12_rowTable 42 = .ok (.lstore_n 2, 1) := by decide +kernel
theorem dX12_rowTable_43 : decode cX12_rowTable 43 = .ok (.iinc 4 1, 3) := by decide +kernel
theorem dX12_rowTable_46 : decode cX12_rowTable 46 = .ok (.goto (-31), 3) := by decide +kernel
theorem dX12_rowTable_49 : decode cX12_rowTable 49 = .ok (.lload_n 2, 1) := by decide +kernel
theorem dX12_rowTable_50 : decode cX12_rowTable 50 = .ok (.lreturn, 1) := by decide +kernel
set_option maxRecDepth 20000 in
theorem ggX12_table_X12_isState : GoodIn wsX12_table wsX12_isState := goodIn_r _ [6, 7, 8, 9, 5, 10, 11, 12, 13, 41, 42, 43, 44, 45, 46, 47, 48, 49, 50, 51, 52, 53, 54, 55, 56, 57, 58, 59, 60, 61, 62, 63, 64, 65, 66, 67, 68, 69, 70, 71, 72, 73, 74, 75, 76, 77, 78, 79, 80, 81, 82, 83] rfl (by decide +kernel)
set_option maxRecDepth 20000 in
theorem gX12_table_X12_isState : GoodIn wsX12_table (wsV RX12 171 RX12 yX12_isState wsX12_isState) := goodIn_app (goodIn_of _ (by decide +kernel)) ggX12_table_X12_isState
set_option maxRecDepth 20000 in
theorem ggX12_table_X12_in : GoodIn wsX12_table wsX12_in := goodIn_r _ [13] rfl (by decide +kernel)
set_option maxRecDepth 20000 in
theorem gX12_table_X12_in : GoodIn wsX12_table (va_wsS RX12 102 yX12_in wsX12_in) := goodIn_app (goodIn_of _ (by decide +kernel)) ggX12_table_X12_in
set_option maxRecDepth 20000 in
theorem ggX12_table_X12_rowTable : GoodIn wsX12_table wsX12_rowTable := goodIn_r _ [17, 18, 1, 19, 20, 21, 5, 22, 7, 23, 24, 25, 26, 27, 28, 29, 30, 31, 32, 33, 34, 35, 36, 37, 38, 39, 40, 41, 42, 43, 44, 45, 46, 47, 48, 49, 50, 51, 52, 53, 54, 55, 56, 57, 58, 59, 60, 61, 62, 63, 64, 65, 66, 67, 68, 69, 70, 71, 72, 73, 74, 75, 76, 77, 78, 79, 80, 81, 82, 83] rfl (by decide +kernel)
set_option maxRecDepth 20000 in
theorem gX12_table_X12_rowTable : GoodIn wsX12_table (wsV RX12 230 RX12 yX12_rowTable wsX12_rowTable) := goodIn_app (goodIn_of _ (by decide +kernel)) ggX12_table_X12_rowTable
set_option maxRecDepth 20000 in
theorem ggX12_table_X12_entry : GoodIn wsX12_table wsX12_entry := goodIn_r _ [39, 40] rfl (by decide +kernel)
set_option maxRecDepth 20000 in
theorem gX12_table_X12_entry : GoodIn wsX12_table (va_wsS RX12 214 yX12_entry wsX12_entry) := goodIn_app (goodIn_of _ (by decide +kernel)) ggX12_table_X12_entry
theorem dX12_table_0 : decode cX12_table 0 = .ok (.aload_n 0, 1) := by decide +kernel
theorem dX12_table_1 : decode cX12_table 1 = .ok (.iload_n 1, 1) := by decide +kernel
theorem dX12_table_2 : decode cX12_table 2 = .ok (.iload_n 3, 1) := by decide +kernel
theorem dX12_table_3 : decode cX12_table 3 = .ok (.invokevirtual 171, 3) := by decide +kernel
theorem dX12_table_6 : decode cX12_table 6 = .ok (.ifCond .ne 6, 3) := by decide +kernel
theorem dX12_table_9 : decode cX12_table 9 = .ok (.bipush (-2), 2) := by decide +kernel
theorem dX12_table_11 : decode cX12_table 11 = .ok (.ireturn, 1) := by decide +kernel
theorem dX12_table_12 : decode cX12_table 12 = .ok (.iload_n 2, 1) := by decide +kernel
theorem dX12_table_13 : decode cX12_table 13 = .ok (.i2l, 1) := by decide +kernel
theorem dX12_table_14 : decode cX12_table 14 = .ok (.lconst 0, 1) := by decide +kernel
theorem dX12_table_15 : decode cX12_table 15 = .ok (.lconst 1, 1) := by decide +kernel
theorem dX12_table_16 : decode cX12_table 16 = .ok (.invokestatic 102, 3) := by decide +kernel
theorem dX12_table_19 : decode cX12_table 19 = .ok (.ifCond .ne 6, 3) := by decide +kernel
theorem dX12_table_22 : decode cX12_table 22 = .ok (.bipush (-3), 2) := by decide +kernel
theorem dX12_table_24 : decode cX12_table 24 = .ok (.ireturn, 1) := by decide +kernel
theorem dX12_table_25 : decode cX12_table 25 = .ok (.aload_n 0, 1) := by decide +kernel
theorem dX12_table_26 : decode cX12_table 26 = .ok (.getfield 178, 3) := by decide +kernel
theorem dX12_table_29 : decode cX12_table 29 = .ok (.ifCond .ne 8, 3) := by decide +kernel
theorem dX12_table_32 : decode cX12_table 32 = .ok (.bipush (-4), 2) := by decide +kernel
theorem dX12_table_34 : decode cX12_table 34 = .ok (.goto 13, 3) := by decide +kernel
theorem dX12_table_37 : decode cX12_table 37 = .ok (.aload_n 0, 1) := by decide +kernel
theorem dX12_table_38 : decode cX12_table 38 = .ok (.iload_n 1, 1) := by decide +kernel
theorem dX12_table_39 : decode cX12_table 39 = .ok (.invokevirtual 230, 3) := by decide +kernel
theorem dX12_table_42 : decode cX12_table 42 = .ok (.iload_n 2, 1) := by decide +kernel
theorem dX12_table_43 : decode cX12_table 43 = .ok (.iload_n 3, 1) := by decide +kernel
theorem dX12_table_44 : decode cX12_table 44 = .ok (.invokestatic 214, 3) := by decide +kernel
theorem dX12_table_47 : decode cX12_table 47 = .ok (.ireturn, 1) := by decide +kernel
theorem dX12_kindOf_0 : decode cX12_kindOf 0 = .ok (.iconst 0, 1) := by decide +kernel
theorem dX12_kindOf_1 : decode cX12_kindOf 1 = .ok (.istore_n 3, 1) := by decide +kernel
theorem dX12_kindOf_2 : decode cX12_kindOf 2 = .ok (.iload_n 3, 1) := by decide +kernel
theorem dX12_kindOf_3 : decode cX12_kindOf 3 = .ok (.aload_n 0, 1) := by decide +kernel
theorem dX12_kindOf_4 : decode cX12_kindOf 4 = .ok (.getfield 234, 3) := by decide +kernel
theorem dX12_kindOf_7 : decode cX12_kindOf 7 = .ok (.if_icmp .ge 22, 3) := by decide +kernel
theorem dX12_kindOf_10 : decode cX12_kindOf 10 = .ok (.aload_n 0, 1) := by decide +kernel
theorem dX12_kindOf_11 : decode cX12_kindOf 11 = .ok (.getfield 56, 3) := by decide +kernel
theorem dX12_kindOf_14 : decode cX12_kindOf 14 = .ok (.iload_n 3, 1) := by decide +kernel
theorem dX12_kindOf_15 : decode cX12_kindOf 15 = .ok (.laload, 1) := by decide +kernel
theorem dX12_kindOf_16 : decode cX12_kindOf 16 = .ok (.lload_n 1, 1) := by decide +kernel
theorem dX12_kindOf_17 : decode cX12_kindOf 17 = .ok (.lcmp, 1) := by decide +kernel
theorem dX12_kindOf_18 : decode cX12_kindOf 18 = .ok (.ifCond .ne 5, 3) := by decide +kernel
theorem dX12_kindOf_21 : decode cX12_kindOf 21 = .ok (.iload_n 3, 1) := by decide +kernel
theorem dX12_kindOf_22 : decode cX12_kindOf 22 = .ok (.ireturn, 1) := by decide +kernel

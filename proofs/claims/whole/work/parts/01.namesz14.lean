theorem dX7_deliver_391 : decode cX7_deliver 391 = .ok (.lstore 9, 2) := by decide +kernel
theorem dX7_deliver_393 : decode cX7_deliver 393 = .ok (.aload_n 0, 1) := by decide +kernel
theorem dX7_deliver_394 : decode cX7_deliver 394 = .ok (.getfield 33, 3) := by decide +kernel
theorem dX7_deliver_397 : decode cX7_deliver 397 = .ok (.bipush 64, 2) := by decide +kernel
theorem dX7_deliver_399 : decode cX7_deliver 399 = .ok (.iload 4, 2) := by decide +kernel
theorem dX7_deliver_401 : decode cX7_deliver 401 = .ok (.imul, 1) := by decide +kernel
theorem dX7_deliver_402 : decode cX7_deliver 402 = .ok (.lload 9, 2) := by decide +kernel
theorem dX7_deliver_404 : decode cX7_deliver 404 = .ok (.l2i, 1) := by decide +kernel
theorem dX7_deliver_405 : decode cX7_deliver 405 = .ok (.iadd, 1) := by decide +kernel
theorem dX7_deliver_406 : decode cX7_deliver 406 = .ok (.iconst 1, 1) := by decide +kernel
theorem dX7_deliver_407 : decode cX7_deliver 407 = .ok (.bastore, 1) := by decide +kernel
theorem dX7_deliver_408 : decode cX7_deliver 408 = .ok (.iconst 0, 1) := by decide +kernel
theorem dX7_deliver_409 : decode cX7_deliver 409 = .ok (.istore 11, 2) := by decide +kernel
theorem dX7_deliver_411 : decode cX7_deliver 411 = .ok (.iload 11, 2) := by decide +kernel
theorem dX7_deliver_413 : decode cX7_deliver 413 = .ok (.iload 5, 2) := by decide +kernel
theorem dX7_deliver_415 : decode cX7_deliver 415 = .ok (.if_icmp .ge 38, 3) := by decide +kernel
theorem dX7_deliver_418 : decode cX7_deliver 418 = .ok (.aload_n 0, 1) := by decide +kernel
theorem dX7_deliver_419 : decode cX7_deliver 419 = .ok (.getfield 45, 3) := by decide +kernel
theorem dX7_deliver_422 : decode cX7_deliver 422 = .ok (.iload 11, 2) := by decide +kernel
theorem dX7_deliver_424 : decode cX7_deliver 424 = .ok (.aload_n 0, 1) := by decide +kernel
theorem dX7_deliver_425 : decode cX7_deliver 425 = .ok (.getfield 36, 3) := by decide +kernel
theorem dX7_deliver_428 : decode cX7_deliver 428 = .ok (.iload_n 3, 1) := by decide +kernel
theorem dX7_deliver_429 : decode cX7_deliver 429 = .ok (.bipush 15, 2) := by decide +kernel
theorem dX7_deliver_431 : decode cX7_deliver 431 = .ok (.iadd, 1) := by decide +kernel
theorem dX7_deliver_432 : decode cX7_deliver 432 = .ok (.iload 11, 2) := by decide +kernel
theorem dX7_deliver_434 : decode cX7_deliver 434 = .ok (.iadd, 1) := by decide +kernel
theorem dX7_deliver_435 : decode cX7_deliver 435 = .ok (.iaload, 1) := by decide +kernel
theorem dX7_deliver_436 : decode cX7_deliver 436 = .ok (.aload_n 0, 1) := by decide +kernel
theorem dX7_deliver_437 : decode cX7_deliver 437 = .ok (.iload 4, 2) := by decide +kernel
theorem dX7_deliver_439 : decode cX7_deliver 439 = .ok (.iload_n 1, 1) := by decide +kernel
theorem dX7_deliver_440 : decode cX7_deliver 440 = .ok (.iload 11, 2) := by decide +kernel
theorem dX7_deliver_442 : decode cX7_deliver 442 = .ok (.invokevirtual 206, 3) := by decide +kernel
theorem dX7_deliver_445 : decode cX7_deliver 445 = .ok (.ixor, 1) := by decide +kernel
theorem dX7_deliver_446 : decode cX7_deliver 446 = .ok (.iastore, 1) := by decide +kernel
theorem dX7_deliver_447 : decode cX7_deliver 447 = .ok (.iinc 11 1, 3) := by decide +kernel
theorem dX7_deliver_450 : decode cX7_deliver 450 = .ok (.goto (-39), 3) := by decide +kernel
theorem dX7_deliver_453 : decode cX7_deliver 453 = .ok (.aload_n 0, 1) := by decide +kernel
theorem dX7_deliver_454 : decode cX7_deliver 454 = .ok (.iload 5, 2) := by decide +kernel
theorem dX7_deliver_456 : decode cX7_deliver 456 = .ok (.putfield 153, 3) := by decide +kernel
theorem dX7_deliver_459 : decode cX7_deliver 459 = .ok (.iconst 0, 1) := by decide +kernel
theorem dX7_deliver_460 : decode cX7_deliver 460 = .ok (.ireturn, 1) := by decide +kernel
theorem dX7_got_0 : decode cX7_got 0 = .ok (.iload_n 1, 1) := by decide +kernel
theorem dX7_got_1 : decode cX7_got 1 = .ok (.ifCond .lt 20, 3) := by decide +kernel
theorem dX7_got_4 : decode cX7_got 4 = .ok (.iload_n 1, 1) := by decide +kernel
theorem dX7_got_5 : decode cX7_got 5 = .ok (.aload_n 0, 1) := by decide +kernel
theorem dX7_got_6 : decode cX7_got 6 = .ok (.getfield 153, 3) := by decide +kernel
theorem dX7_got_9 : decode cX7_got 9 = .ok (.if_icmp .ge 12, 3) := by decide +kernel
theorem dX7_got_12 : decode cX7_got 12 = .ok (.aload_n 0, 1) := by decide +kernel
theorem dX7_got_13 : decode cX7_got 13 = .ok (.getfield 45, 3) := by decide +kernel
theorem dX7_got_16 : decode cX7_got 16 = .ok (.iload_n 1, 1) := by decide +kernel
theorem dX7_got_17 : decode cX7_got 17 = .ok (.iaload, 1) := by decide +kernel
theorem dX7_got_18 : decode cX7_got 18 = .ok (.goto 4, 3) := by decide +kernel
theorem dX7_got_21 : decode cX7_got 21 = .ok (.iconst (-1), 1) := by decide +kernel
theorem dX7_got_22 : decode cX7_got 22 = .ok (.ireturn, 1) := by decide +kernel
theorem dX7_gotLen_0 : decode cX7_gotLen 0 = .ok (.aload_n 0, 1) := by decide +kernel
theorem dX7_gotLen_1 : decode cX7_gotLen 1 = .ok (.getfield 153, 3) := by decide +kernel
theorem dX7_gotLen_4 : decode cX7_gotLen 4 = .ok (.ireturn, 1) := by decide +kernel
set_option maxRecDepth 20000 in
theorem ggX7_corrupt_X7_isSlot : GoodIn wsX7_corrupt wsX7_isSlot := goodIn_r _ [7, 1, 8, 9, 10, 11, 12, 13, 14, 15, 16, 17, 18, 19, 20, 21, 22, 23, 24, 25, 26, 27, 28, 29, 30, 31, 32] (by decide +kernel) (by decide +kernel)
set_option maxRecDepth 20000 in
theorem gX7_corrupt_X7_isSlot : GoodIn wsX7_corrupt (wsV RX7 215 RX7 yX7_isSlot wsX7_isSlot) := goodIn_app (goodIn_of _ (by decide +kernel)) ggX7_corrupt_X7_isSlot
theorem dX7_corrupt_0 : decode cX7_corrupt 0 = .ok (.aload_n 0, 1) := by decide +kernel
theorem dX7_corrupt_1 : decode cX7_corrupt 1 = .ok (.iload_n 1, 1) := by decide +kernel
theorem dX7_corrupt_2 : decode cX7_corrupt 2 = .ok (.invokevirtual 215, 3) := by decide +kernel
theorem dX7_corrupt_5 : decode cX7_corrupt 5 = .ok (.ifCond .eq 32, 3) := by decide +kernel
theorem dX7_corrupt_8 : decode cX7_corrupt 8 = .ok (.iload_n 2, 1) := by decide +kernel
theorem dX7_corrupt_9 : decode cX7_corrupt 9 = .ok (.ifCond .lt 28, 3) := by decide +kernel
theorem dX7_corrupt_12 : decode cX7_corrupt 12 = .ok (.iload_n 2, 1) := by decide +kernel
theorem dX7_corrupt_13 : decode cX7_corrupt 13 = .ok (.aload_n 0, 1) := by decide +kernel
theorem dX7_corrupt_14 : decode cX7_corrupt 14 = .ok (.getfield 39, 3) := by decide +kernel
theorem dX7_corrupt_17 : decode cX7_corrupt 17 = .ok (.iload_n 1, 1) := by decide +kernel
theorem dX7_corrupt_18 : decode cX7_corrupt 18 = .ok (.iaload, 1) := by decide +kernel
theorem dX7_corrupt_19 : decode cX7_corrupt 19 = .ok (.if_icmp .ge 18, 3) := by decide +kernel
theorem dX7_corrupt_22 : decode cX7_corrupt 22 = .ok (.iload_n 3, 1) := by decide +kernel
theorem dX7_corrupt_23 : decode cX7_corrupt 23 = .ok (.ifCond .lt 14, 3) := by decide +kernel
theorem dX7_corrupt_26 : decode cX7_corrupt 26 = .ok (.iload_n 3, 1) := by decide +kernel
theorem dX7_corrupt_27 : decode cX7_corrupt 27 = .ok (.sipush 256, 3) := by decide +kernel
theorem dX7_corrupt_30 : decode cX7_corrupt 30 = .ok (.if_icmp .ge 7, 3) := by decide +kernel
theorem dX7_corrupt_33 : decode cX7_corrupt 33 = .ok (.iconst 1, 1) := by decide +kernel
theorem dX7_corrupt_34 : decode cX7_corrupt 34 = .ok (.goto 4, 3) := by decide +kernel
theorem dX7_corrupt_37 : decode cX7_corrupt 37 = .ok (.iconst 0, 1) := by decide +kernel
theorem dX7_corrupt_38 : decode cX7_corrupt 38 = .ok (.istore 4, 2) := by decide +kernel
theorem dX7_corrupt_40 : decode cX7_corrupt 40 = .ok (.iload 4, 2) := by decide +kernel
theorem dX7_corrupt_42 : decode cX7_corrupt 42 = .ok (.ifCond .eq 16, 3) := by decide +kernel
theorem dX7_corrupt_45 : decode cX7_corrupt 45 = .ok (.aload_n 0, 1) := by decide +kernel
theorem dX7_corrupt_46 : decode cX7_corrupt 46 = .ok (.getfield 36, 3) := by decide +kernel
theorem dX7_corrupt_49 : decode cX7_corrupt 49 = .ok (.sipush 128, 3) := by decide +kernel
theorem dX7_corrupt_52 : decode cX7_corrupt 52 = .ok (.iload_n 1, 1) := by decide +kernel
theorem dX7_corrupt_53 : decode cX7_corrupt 53 = .ok (.imul, 1) := by decide +kernel
theorem dX7_corrupt_54 : decode cX7_corrupt 54 = .ok (.iload_n 2, 1) := by decide +kernel
theorem dX7_corrupt_55 : decode cX7_corrupt 55 = .ok (.iadd, 1) := by decide +kernel
theorem dX7_corrupt_56 : decode cX7_corrupt 56 = .ok (.iload_n 3, 1) := by decide +kernel
theorem dX7_corrupt_57 : decode cX7_corrupt 57 = .ok (.iastore, 1) := by decide +kernel
theorem dX7_corrupt_58 : decode cX7_corrupt 58 = .ok (.iload 4, 2) := by decide +kernel
theorem dX7_corrupt_60 : decode cX7_corrupt 60 = .ok (.ireturn, 1) := by decide +kernel
set_option maxRecDepth 20000 in
theorem ggX7_drop_X7_isSlot : GoodIn wsX7_drop wsX7_isSlot := goodIn_r _ [6, 1, 7, 8, 9, 10, 11, 12, 13, 14, 15, 16, 17, 18, 19, 20, 21, 22, 23, 24, 25, 26, 27, 28, 29, 30, 31] (by decide +kernel) (by decide +kernel)
set_option maxRecDepth 20000 in
theorem gX7_drop_X7_isSlot : GoodIn wsX7_drop (wsV RX7 215 RX7 yX7_isSlot wsX7_isSlot) := goodIn_app (goodIn_of _ (by decide +kernel)) ggX7_drop_X7_isSlot
theorem dX7_drop_0 : decode cX7_drop 0 = .ok (.aload_n 0, 1) := by decide +kernel
theorem dX7_drop_1 : decode cX7_drop 1 = .ok (.iload_n 1, 1) := by decide +kernel
theorem dX7_drop_2 : decode cX7_drop 2 = .ok (.invokevirtual 215, 3) := by decide +kernel
theorem dX7_drop_5 : decode cX7_drop 5 = .ok (.istore_n 2, 1) := by decide +kernel
theorem dX7_drop_6 : decode cX7_drop 6 = .ok (.iload_n 2, 1) := by decide +kernel
theorem dX7_drop_7 : decode cX7_drop 7 = .ok (.ifCond .eq 10, 3) := by decide +kernel
theorem dX7_drop_10 : decode cX7_drop 10 = .ok (.aload_n 0, 1) := by decide +kernel
theorem dX7_drop_11 : decode cX7_drop 11 = .ok (.getfield 39, 3) := by decide +kernel
theorem dX7_drop_14 : decode cX7_drop 14 = .ok (.iload_n 1, 1) := by decide +kernel
theorem dX7_drop_15 : decode cX7_drop 15 = .ok (.iconst 0, 1) := by decide +kernel
theorem dX7_drop_16 : decode cX7_drop 16 = .ok (.iastore, 1) := by decide +kernel
theorem dX7_drop_17 : decode cX7_drop 17 = .ok (.iload_n 2, 1) := by decide +kernel
theorem dX7_drop_18 : decode cX7_drop 18 = .ok (.ireturn, 1) := by decide +kernel

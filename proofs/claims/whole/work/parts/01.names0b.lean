theorem dX0_init_0 : decode cX0_init 0 = .ok (.aload_n 0, 1) := by decide +kernel
theorem dX0_init_1 : decode cX0_init 1 = .ok (.invokespecial 3, 3) := by decide +kernel
theorem dX0_init_4 : decode cX0_init 4 = .ok (.aload_n 0, 1) := by decide +kernel
theorem dX0_init_5 : decode cX0_init 5 = .ok (.bipush 127, 2) := by decide +kernel
theorem dX0_init_7 : decode cX0_init 7 = .ok (.newarray .int, 2) := by decide +kernel
theorem dX0_init_9 : decode cX0_init 9 = .ok (.putfield 9, 3) := by decide +kernel
theorem dX0_init_12 : decode cX0_init 12 = .ok (.return_, 1) := by decide +kernel
theorem dX0_clear_0 : decode cX0_clear 0 = .ok (.aload_n 0, 1) := by decide +kernel
theorem dX0_clear_1 : decode cX0_clear 1 = .ok (.iconst 0, 1) := by decide +kernel
theorem dX0_clear_2 : decode cX0_clear 2 = .ok (.putfield 15, 3) := by decide +kernel
theorem dX0_clear_5 : decode cX0_clear 5 = .ok (.return_, 1) := by decide +kernel
theorem dX0_size_0 : decode cX0_size 0 = .ok (.aload_n 0, 1) := by decide +kernel
theorem dX0_size_1 : decode cX0_size 1 = .ok (.getfield 15, 3) := by decide +kernel
theorem dX0_size_4 : decode cX0_size 4 = .ok (.ireturn, 1) := by decide +kernel
theorem dX0_isEmpty_0 : decode cX0_isEmpty 0 = .ok (.aload_n 0, 1) := by decide +kernel
theorem dX0_isEmpty_1 : decode cX0_isEmpty 1 = .ok (.getfield 15, 3) := by decide +kernel
theorem dX0_isEmpty_4 : decode cX0_isEmpty 4 = .ok (.ifCond .ne 7, 3) := by decide +kernel
theorem dX0_isEmpty_7 : decode cX0_isEmpty 7 = .ok (.iconst 1, 1) := by decide +kernel
theorem dX0_isEmpty_8 : decode cX0_isEmpty 8 = .ok (.goto 4, 3) := by decide +kernel
theorem dX0_isEmpty_11 : decode cX0_isEmpty 11 = .ok (.iconst 0, 1) := by decide +kernel
theorem dX0_isEmpty_12 : decode cX0_isEmpty 12 = .ok (.ireturn, 1) := by decide +kernel
theorem dX0_at_0 : decode cX0_at 0 = .ok (.iload_n 1, 1) := by decide +kernel
theorem dX0_at_1 : decode cX0_at 1 = .ok (.ifCond .lt 20, 3) := by decide +kernel
theorem dX0_at_4 : decode cX0_at 4 = .ok (.iload_n 1, 1) := by decide +kernel
theorem dX0_at_5 : decode cX0_at 5 = .ok (.aload_n 0, 1) := by decide +kernel
theorem dX0_at_6 : decode cX0_at 6 = .ok (.getfield 15, 3) := by decide +kernel
theorem dX0_at_9 : decode cX0_at 9 = .ok (.if_icmp .ge 12, 3) := by decide +kernel
theorem dX0_at_12 : decode cX0_at 12 = .ok (.aload_n 0, 1) := by decide +kernel
theorem dX0_at_13 : decode cX0_at 13 = .ok (.getfield 9, 3) := by decide +kernel
theorem dX0_at_16 : decode cX0_at 16 = .ok (.iload_n 1, 1) := by decide +kernel
theorem dX0_at_17 : decode cX0_at 17 = .ok (.iaload, 1) := by decide +kernel
theorem dX0_at_18 : decode cX0_at 18 = .ok (.goto 4, 3) := by decide +kernel
theorem dX0_at_21 : decode cX0_at 21 = .ok (.iconst (-1), 1) := by decide +kernel
theorem dX0_at_22 : decode cX0_at 22 = .ok (.ireturn, 1) := by decide +kernel
theorem dX0_change_0 : decode cX0_change 0 = .ok (.iload_n 1, 1) := by decide +kernel
theorem dX0_change_1 : decode cX0_change 1 = .ok (.ifCond .lt 11, 3) := by decide +kernel
theorem dX0_change_4 : decode cX0_change 4 = .ok (.iload_n 1, 1) := by decide +kernel
theorem dX0_change_5 : decode cX0_change 5 = .ok (.aload_n 0, 1) := by decide +kernel
theorem dX0_change_6 : decode cX0_change 6 = .ok (.getfield 15, 3) := by decide +kernel
theorem dX0_change_9 : decode cX0_change 9 = .ok (.if_icmp .lt 5, 3) := by decide +kernel
theorem dX0_change_12 : decode cX0_change 12 = .ok (.iconst 0, 1) := by decide +kernel
theorem dX0_change_13 : decode cX0_change 13 = .ok (.ireturn, 1) := by decide +kernel
theorem dX0_change_14 : decode cX0_change 14 = .ok (.aload_n 0, 1) := by decide +kernel
theorem dX0_change_15 : decode cX0_change 15 = .ok (.getfield 9, 3) := by decide +kernel
theorem dX0_change_18 : decode cX0_change 18 = .ok (.iload_n 1, 1) := by decide +kernel
theorem dX0_change_19 : decode cX0_change 19 = .ok (.iload_n 2, 1) := by decide +kernel
theorem dX0_change_20 : decode cX0_change 20 = .ok (.iastore, 1) := by decide +kernel
theorem dX0_change_21 : decode cX0_change 21 = .ok (.iconst 1, 1) := by decide +kernel
theorem dX0_change_22 : decode cX0_change 22 = .ok (.ireturn, 1) := by decide +kernel
theorem dX0_append_0 : decode cX0_append 0 = .ok (.aload_n 0, 1) := by decide +kernel
theorem dX0_append_1 : decode cX0_append 1 = .ok (.getfield 15, 3) := by decide +kernel
theorem dX0_append_4 : decode cX0_append 4 = .ok (.bipush 127, 2) := by decide +kernel
theorem dX0_append_6 : decode cX0_append 6 = .ok (.if_icmp .ge 23, 3) := by decide +kernel
theorem dX0_append_9 : decode cX0_append 9 = .ok (.aload_n 0, 1) := by decide +kernel
theorem dX0_append_10 : decode cX0_append 10 = .ok (.getfield 9, 3) := by decide +kernel
theorem dX0_append_13 : decode cX0_append 13 = .ok (.aload_n 0, 1) := by decide +kernel
theorem dX0_append_14 : decode cX0_append 14 = .ok (.getfield 15, 3) := by decide +kernel
theorem dX0_append_17 : decode cX0_append 17 = .ok (.iload_n 1, 1) := by decide +kernel
theorem dX0_append_18 : decode cX0_append 18 = .ok (.iastore, 1) := by decide +kernel
theorem dX0_append_19 : decode cX0_append 19 = .ok (.aload_n 0, 1) := by decide +kernel
theorem dX0_append_20 : decode cX0_append 20 = .ok (.dup, 1) := by decide +kernel
theorem dX0_append_21 : decode cX0_append 21 = .ok (.getfield 15, 3) := by decide +kernel
theorem dX0_append_24 : decode cX0_append 24 = .ok (.iconst 1, 1) := by decide +kernel
theorem dX0_append_25 : decode cX0_append 25 = .ok (.iadd, 1) := by decide +kernel
theorem dX0_append_26 : decode cX0_append 26 = .ok (.putfield 15, 3) := by decide +kernel
theorem dX0_append_29 : decode cX0_append 29 = .ok (.return_, 1) := by decide +kernel
set_option maxRecDepth 20000 in
theorem ggX0_appendNumber_X0_append : GoodIn wsX0_appendNumber wsX0_append := goodIn_r _ [5, 6, 7, 8, 9] (by decide +kernel) (by decide +kernel)
set_option maxRecDepth 20000 in
theorem gX0_appendNumber_X0_append : GoodIn wsX0_appendNumber (wsV RX0 19 RX0 yX0_append wsX0_append) := goodIn_app (goodIn_of _ (by decide +kernel)) ggX0_appendNumber_X0_append
theorem dX0_appendNumber_0 : decode cX0_appendNumber 0 = .ok (.iload_n 3, 1) := by decide +kernel
theorem dX0_appendNumber_1 : decode cX0_appendNumber 1 = .ok (.iconst 1, 1) := by decide +kernel
theorem dX0_appendNumber_2 : decode cX0_appendNumber 2 = .ok (.isub, 1) := by decide +kernel
theorem dX0_appendNumber_3 : decode cX0_appendNumber 3 = .ok (.istore 4, 2) := by decide +kernel
theorem dX0_appendNumber_5 : decode cX0_appendNumber 5 = .ok (.iload 4, 2) := by decide +kernel
theorem dX0_appendNumber_7 : decode cX0_appendNumber 7 = .ok (.ifCond .lt 25, 3) := by decide +kernel
theorem dX0_appendNumber_10 : decode cX0_appendNumber 10 = .ok (.aload_n 0, 1) := by decide +kernel
theorem dX0_appendNumber_11 : decode cX0_appendNumber 11 = .ok (.lload_n 1, 1) := by decide +kernel
theorem dX0_appendNumber_12 : decode cX0_appendNumber 12 = .ok (.bipush 8, 2) := by decide +kernel
theorem dX0_appendNumber_14 : decode cX0_appendNumber 14 = .ok (.iload 4, 2) := by decide +kernel
theorem dX0_appendNumber_16 : decode cX0_appendNumber 16 = .ok (.imul, 1) := by decide +kernel
theorem dX0_appendNumber_17 : decode cX0_appendNumber 17 = .ok (.lushr, 1) := by decide +kernel
theorem dX0_appendNumber_18 : decode cX0_appendNumber 18 = .ok (.l2i, 1) := by decide +kernel
theorem dX0_appendNumber_19 : decode cX0_appendNumber 19 = .ok (.sipush 255, 3) := by decide +kernel
theorem dX0_appendNumber_22 : decode cX0_appendNumber 22 = .ok (.iand, 1) := by decide +kernel
theorem dX0_appendNumber_23 : decode cX0_appendNumber 23 = .ok (.invokevirtual 19, 3) := by decide +kernel
theorem dX0_appendNumber_26 : decode cX0_appendNumber 26 = .ok (.iinc 4 (-1), 3) := by decide +kernel
theorem dX0_appendNumber_29 : decode cX0_appendNumber 29 = .ok (.goto (-24), 3) := by decide +kernel
theorem dX0_appendNumber_32 : decode cX0_appendNumber 32 = .ok (.return_, 1) := by decide +kernel
set_option maxRecDepth 20000 in
theorem ggX0_numberAt_X0_at : GoodIn wsX0_numberAt wsX0_at := goodIn_r _ [5, 6, 7, 8, 9] (by decide +kernel) (by decide +kernel)
set_option maxRecDepth 20000 in
theorem gX0_numberAt_X0_at : GoodIn wsX0_numberAt (wsV RX0 23 RX0 yX0_at wsX0_at) := goodIn_app (goodIn_of _ (by decide +kernel)) ggX0_numberAt_X0_at
theorem dX0_numberAt_0 : decode cX0_numberAt 0 = .ok (.lconst 0, 1) := by decide +kernel
theorem dX0_numberAt_1 : decode cX0_numberAt 1 = .ok (.lstore_n 3, 1) := by decide +kernel
theorem dX0_numberAt_2 : decode cX0_numberAt 2 = .ok (.iconst 0, 1) := by decide +kernel
theorem dX0_numberAt_3 : decode cX0_numberAt 3 = .ok (.istore 5, 2) := by decide +kernel
theorem dX0_numberAt_5 : decode cX0_numberAt 5 = .ok (.iload 5, 2) := by decide +kernel
theorem dX0_numberAt_7 : decode cX0_numberAt 7 = .ok (.iload_n 2, 1) := by decide +kernel
theorem dX0_numberAt_8 : decode cX0_numberAt 8 = .ok (.if_icmp .ge 28, 3) := by decide +kernel
theorem dX0_numberAt_11 : decode cX0_numberAt 11 = .ok (.lload_n 3, 1) := by decide +kernel
theorem dX0_numberAt_12 : decode cX0_numberAt 12 = .ok (.bipush 8, 2) := by decide +kernel
theorem dX0_numberAt_14 : decode cX0_numberAt 14 = .ok (.lshl, 1) := by decide +kernel
theorem dX0_numberAt_15 : decode cX0_numberAt 15 = .ok (.aload_n 0, 1) := by decide +kernel
theorem dX0_numberAt_16 : decode cX0_numberAt 16 = .ok (.iload_n 1, 1) := by decide +kernel
theorem dX0_numberAt_17 : decode cX0_numberAt 17 = .ok (.iload 5, 2) := by decide +kernel
theorem dX0_numberAt_19 : decode cX0_numberAt 19 = .ok (.iadd, 1) := by decide +kernel
theorem dX0_numberAt_20 : decode cX0_numberAt 20 = .ok (.invokevirtual 23, 3) := by decide +kernel
theorem dX0_numberAt_23 : decode cX0_numberAt 23 = .ok (.sipush 255, 3) := by decide +kernel
theorem dX0_numberAt_26 : decode cX0_numberAt 26 = .ok (.iand, 1) := by decide +kernel
theorem dX0_numberAt_27 : decode cX0_numberAt 27 = .ok (.i2l, 1) := by decide +kernel
theorem dX0_numberAt_28 : decode cX0_numberAt 28 = .ok (.lor, 1) := by decide +kernel
theorem dX0_numberAt_29 : decode cX0_numberAt 29 = .ok (.lstore_n 3, 1) := by decide +kernel
theorem dX0_numberAt_30 : decode cX0_numberAt 30 = .ok (.iinc 5 1, 3) := by decide +kernel
theorem dX0_numberAt_33 : decode cX0_numberAt 33 = .ok (.goto (-28), 3) := by decide +kernel
theorem dX0_numberAt_36 : decode cX0_numberAt 36 = .ok (.lload_n 3, 1) := by decide +kernel
theorem dX0_numberAt_37 : decode cX0_numberAt 37 = .ok (.lreturn, 1) := by decide +kernel
set_option maxRecDepth 20000 in
theorem ggX1_init_X2_init : GoodIn wsX1_init wsX2_init := goodIn_r _ [22, 23, 2, 3, 24, 25, 26, 27, 12, 28, 29, 30, 31, 32, 33, 34, 35, 61, 62, 63, 64, 44, 45, 46] (by decide +kernel) (by decide +kernel)
set_option maxRecDepth 20000 in
theorem gX1_init_X2_init_n11 : GoodIn wsX1_init (wsX2_init) := ggX1_init_X2_init
set_option maxRecDepth 20000 in
theorem ggX1_init_X3_init : GoodIn wsX1_init wsX3_init := goodIn_r _ [37, 38, 2, 3, 12, 39, 40, 56, 57, 58] (by decide +kernel) (by decide +kernel)
set_option maxRecDepth 20000 in
theorem gX1_init_X3_init_n20 : GoodIn wsX1_init (wsX3_init) := ggX1_init_X3_init
set_option maxRecDepth 20000 in
theorem ggX1_init_X5_init : GoodIn wsX1_init wsX5_init := goodIn_r _ [42, 43, 2, 3] (by decide +kernel) (by decide +kernel)
set_option maxRecDepth 20000 in
theorem gX1_init_X5_init_n39 : GoodIn wsX1_init (wsX5_init) := ggX1_init_X5_init
theorem dX1_init_0 : decode cX1_init 0 = .ok (.aload_n 0, 1) := by decide +kernel
theorem dX1_init_1 : decode cX1_init 1 = .ok (.invokespecial 3, 3) := by decide +kernel
theorem dX1_init_4 : decode cX1_init 4 = .ok (.aload_n 0, 1) := by decide +kernel
theorem dX1_init_5 : decode cX1_init 5 = .ok (.new 9, 3) := by decide +kernel
theorem dX1_init_8 : decode cX1_init 8 = .ok (.dup, 1) := by decide +kernel
theorem dX1_init_9 : decode cX1_init 9 = .ok (.invokespecial 11, 3) := by decide +kernel
theorem dX1_init_12 : decode cX1_init 12 = .ok (.putfield 12, 3) := by decide +kernel
theorem dX1_init_15 : decode cX1_init 15 = .ok (.aload_n 0, 1) := by decide +kernel
theorem dX1_init_16 : decode cX1_init 16 = .ok (.new 18, 3) := by decide +kernel
theorem dX1_init_19 : decode cX1_init 19 = .ok (.dup, 1) := by decide +kernel
theorem dX1_init_20 : decode cX1_init 20 = .ok (.invokespecial 20, 3) := by decide +kernel
theorem dX1_init_23 : decode cX1_init 23 = .ok (.putfield 21, 3) := by decide +kernel
theorem dX1_init_26 : decode cX1_init 26 = .ok (.aload_n 0, 1) := by decide +kernel
theorem dX1_init_27 : decode cX1_init 27 = .ok (.bipush 32, 2) := by decide +kernel
theorem dX1_init_29 : decode cX1_init 29 = .ok (.newarray .int, 2) := by decide +kernel
theorem dX1_init_31 : decode cX1_init 31 = .ok (.putfield 25, 3) := by decide +kernel
theorem dX1_init_34 : decode cX1_init 34 = .ok (.aload_n 0, 1) := by decide +kernel
theorem dX1_init_35 : decode cX1_init 35 = .ok (.bipush 32, 2) := by decide +kernel
theorem dX1_init_37 : decode cX1_init 37 = .ok (.newarray .int, 2) := by decide +kernel
theorem dX1_init_39 : decode cX1_init 39 = .ok (.putfield 29, 3) := by decide +kernel
theorem dX1_init_42 : decode cX1_init 42 = .ok (.aload_n 0, 1) := by decide +kernel
theorem dX1_init_43 : decode cX1_init 43 = .ok (.bipush 32, 2) := by decide +kernel
theorem dX1_init_45 : decode cX1_init 45 = .ok (.newarray .int, 2) := by decide +kernel
theorem dX1_init_47 : decode cX1_init 47 = .ok (.putfield 34, 3) := by decide +kernel
theorem dX1_init_50 : decode cX1_init 50 = .ok (.aload_n 0, 1) := by decide +kernel
theorem dX1_init_51 : decode cX1_init 51 = .ok (.new 37, 3) := by decide +kernel
theorem dX1_init_54 : decode cX1_init 54 = .ok (.dup, 1) := by decide +kernel
theorem dX1_init_55 : decode cX1_init 55 = .ok (.invokespecial 39, 3) := by decide +kernel
theorem dX1_init_58 : decode cX1_init 58 = .ok (.putfield 40, 3) := by decide +kernel
theorem dX1_init_61 : decode cX1_init 61 = .ok (.aload_n 0, 1) := by decide +kernel
theorem dX1_init_62 : decode cX1_init 62 = .ok (.iload_n 1, 1) := by decide +kernel
theorem dX1_init_63 : decode cX1_init 63 = .ok (.putfield 44, 3) := by decide +kernel
theorem dX1_init_66 : decode cX1_init 66 = .ok (.return_, 1) := by decide +kernel
theorem dX1_epoch_0 : decode cX1_epoch 0 = .ok (.aload_n 0, 1) := by decide +kernel
theorem dX1_epoch_1 : decode cX1_epoch 1 = .ok (.getfield 48, 3) := by decide +kernel
theorem dX1_epoch_4 : decode cX1_epoch 4 = .ok (.ireturn, 1) := by decide +kernel
set_option maxRecDepth 20000 in
theorem ggX1_seenInWindow_X5_seenCount : GoodIn wsX1_seenInWindow wsX5_seenCount := goodIn_r _ [6, 7, 8, 9, 10, 11, 12, 13, 14, 24, 25] (by decide +kernel) (by decide +kernel)
set_option maxRecDepth 20000 in
theorem gX1_seenInWindow_X5_seenCount : GoodIn wsX1_seenInWindow (wsV RX1 51 RX5 yX5_seenCount wsX5_seenCount) := goodIn_app (goodIn_of _ (by decide +kernel)) ggX1_seenInWindow_X5_seenCount
theorem dX1_seenInWindow_0 : decode cX1_seenInWindow 0 = .ok (.aload_n 0, 1) := by decide +kernel
theorem dX1_seenInWindow_1 : decode cX1_seenInWindow 1 = .ok (.getfield 40, 3) := by decide +kernel
theorem dX1_seenInWindow_4 : decode cX1_seenInWindow 4 = .ok (.invokevirtual 51, 3) := by decide +kernel
theorem dX1_seenInWindow_7 : decode cX1_seenInWindow 7 = .ok (.ireturn, 1) := by decide +kernel
set_option maxRecDepth 20000 in
theorem ggX1_forget_X5_forget : GoodIn wsX1_forget wsX5_forget := goodIn_r _ [8, 9, 10, 20, 21] (by decide +kernel) (by decide +kernel)
set_option maxRecDepth 20000 in
theorem gX1_forget_X5_forget : GoodIn wsX1_forget (wsV RX1 59 RX5 yX5_forget wsX5_forget) := goodIn_app (goodIn_of _ (by decide +kernel)) ggX1_forget_X5_forget
theorem dX1_forget_0 : decode cX1_forget 0 = .ok (.aload_n 0, 1) := by decide +kernel
theorem dX1_forget_1 : decode cX1_forget 1 = .ok (.iconst 0, 1) := by decide +kernel
theorem dX1_forget_2 : decode cX1_forget 2 = .ok (.putfield 48, 3) := by decide +kernel
theorem dX1_forget_5 : decode cX1_forget 5 = .ok (.aload_n 0, 1) := by decide +kernel
theorem dX1_forget_6 : decode cX1_forget 6 = .ok (.lconst 0, 1) := by decide +kernel
theorem dX1_forget_7 : decode cX1_forget 7 = .ok (.putfield 55, 3) := by decide +kernel
theorem dX1_forget_10 : decode cX1_forget 10 = .ok (.aload_n 0, 1) := by decide +kernel
theorem dX1_forget_11 : decode cX1_forget 11 = .ok (.getfield 40, 3) := by decide +kernel
theorem dX1_forget_14 : decode cX1_forget 14 = .ok (.invokevirtual 59, 3) := by decide +kernel
theorem dX1_forget_17 : decode cX1_forget 17 = .ok (.return_, 1) := by decide +kernel
set_option maxRecDepth 20000 in
theorem ggX1_makeNextRoot_X2_begin : GoodIn wsX1_makeNextRoot wsX2_begin := goodIn_r _ [8, 9, 10, 11, 12, 7, 13, 14, 15, 16, 17, 18, 19, 20, 21, 22, 23, 24, 25, 70, 71, 72, 73, 74, 75, 76] (by decide +kernel) (by decide +kernel)
set_option maxRecDepth 20000 in
theorem gX1_makeNextRoot_X2_begin : GoodIn wsX1_makeNextRoot (wsV RX1 62 RX2 yX2_begin wsX2_begin) := goodIn_app (goodIn_of _ (by decide +kernel)) ggX1_makeNextRoot_X2_begin
set_option maxRecDepth 20000 in
theorem ggX1_makeNextRoot_X2_appendAll : GoodIn wsX1_makeNextRoot wsX2_appendAll := goodIn_r _ [29, 14, 21, 22, 23, 18, 24, 20, 25, 70, 71, 72, 73, 74, 75, 76] (by decide +kernel) (by decide +kernel)
set_option maxRecDepth 20000 in
theorem gX1_makeNextRoot_X2_appendAll : GoodIn wsX1_makeNextRoot (wsV RX1 66 RX2 yX2_appendAll wsX2_appendAll) := goodIn_app (goodIn_of _ (by decide +kernel)) ggX1_makeNextRoot_X2_appendAll
set_option maxRecDepth 20000 in
theorem ggX1_makeNextRoot_X2_finish : GoodIn wsX1_makeNextRoot wsX2_finish := goodIn_r _ [33, 14, 34, 35, 36, 37, 18, 38, 39, 40, 20, 41, 42, 43, 44, 45, 46, 22, 23, 24, 25, 47, 48, 49, 50, 51, 52, 53, 54, 55, 56, 57, 58, 59, 10, 11, 12, 7, 13, 9, 15, 16, 17, 19, 21, 60, 27, 28, 29, 70, 71, 72, 73, 74, 75, 76] (by decide +kernel) (by decide +kernel)
set_option maxRecDepth 20000 in
theorem gX1_makeNextRoot_X2_finish : GoodIn wsX1_makeNextRoot (wsV RX1 69 RX2 yX2_finish wsX2_finish) := goodIn_app (goodIn_of _ (by decide +kernel)) ggX1_makeNextRoot_X2_finish
theorem dX1_makeNextRoot_0 : decode cX1_makeNextRoot 0 = .ok (.aload_n 0, 1) := by decide +kernel
theorem dX1_makeNextRoot_1 : decode cX1_makeNextRoot 1 = .ok (.getfield 12, 3) := by decide +kernel
theorem dX1_makeNextRoot_4 : decode cX1_makeNextRoot 4 = .ok (.aload_n 0, 1) := by decide +kernel
theorem dX1_makeNextRoot_5 : decode cX1_makeNextRoot 5 = .ok (.getfield 29, 3) := by decide +kernel
theorem dX1_makeNextRoot_8 : decode cX1_makeNextRoot 8 = .ok (.invokevirtual 62, 3) := by decide +kernel
theorem dX1_makeNextRoot_11 : decode cX1_makeNextRoot 11 = .ok (.aload_n 0, 1) := by decide +kernel
theorem dX1_makeNextRoot_12 : decode cX1_makeNextRoot 12 = .ok (.getfield 12, 3) := by decide +kernel
theorem dX1_makeNextRoot_15 : decode cX1_makeNextRoot 15 = .ok (.aload_n 0, 1) := by decide +kernel
theorem dX1_makeNextRoot_16 : decode cX1_makeNextRoot 16 = .ok (.getfield 25, 3) := by decide +kernel
theorem dX1_makeNextRoot_19 : decode cX1_makeNextRoot 19 = .ok (.invokevirtual 66, 3) := by decide +kernel
theorem dX1_makeNextRoot_22 : decode cX1_makeNextRoot 22 = .ok (.aload_n 0, 1) := by decide +kernel
theorem dX1_makeNextRoot_23 : decode cX1_makeNextRoot 23 = .ok (.getfield 12, 3) := by decide +kernel
theorem dX1_makeNextRoot_26 : decode cX1_makeNextRoot 26 = .ok (.aload_n 1, 1) := by decide +kernel
theorem dX1_makeNextRoot_27 : decode cX1_makeNextRoot 27 = .ok (.invokevirtual 69, 3) := by decide +kernel
theorem dX1_makeNextRoot_30 : decode cX1_makeNextRoot 30 = .ok (.return_, 1) := by decide +kernel
set_option maxRecDepth 20000 in
theorem ggX1_startEpoch_X1_makeKey : GoodIn wsX1_startEpoch wsX1_makeKey := goodIn_r _ [8, 9, 10, 11, 12, 13, 14, 15, 16, 17, 18, 19, 20, 21, 22, 23, 24, 25, 26, 27, 28, 29, 30, 31, 32, 33, 34, 35, 36, 37, 38, 39, 40, 41, 42, 43, 44, 45, 46, 47, 48, 49, 50, 51, 52, 53, 54, 55, 56, 57, 58, 59, 60, 61, 62, 63, 64, 65, 66, 67, 68, 69, 70, 84, 85, 86, 87, 88, 89, 90, 91, 92, 93, 94, 95, 96, 97, 98, 99] (by decide +kernel) (by decide +kernel)
set_option maxRecDepth 20000 in
theorem gX1_startEpoch_X1_makeKey : GoodIn wsX1_startEpoch (wsV RX1 72 RX1 yX1_makeKey wsX1_makeKey) := goodIn_app (goodIn_of _ (by decide +kernel)) ggX1_startEpoch_X1_makeKey
set_option maxRecDepth 20000 in
theorem ggX1_startEpoch_X1_forget : GoodIn wsX1_startEpoch wsX1_forget := goodIn_r _ [74, 3, 75, 76, 77, 78, 79, 80, 81, 82, 83, 84, 85, 86, 87, 88, 89, 90, 91, 92, 100, 101] (by decide +kernel) (by decide +kernel)
set_option maxRecDepth 20000 in
theorem gX1_startEpoch_X1_forget : GoodIn wsX1_startEpoch (wsV RX1 76 RX1 yX1_forget wsX1_forget) := goodIn_app (goodIn_of _ (by decide +kernel)) ggX1_startEpoch_X1_forget
theorem dX1_startEpoch_0 : decode cX1_startEpoch 0 = .ok (.aload_n 0, 1) := by decide +kernel
theorem dX1_startEpoch_1 : decode cX1_startEpoch 1 = .ok (.aload_n 2, 1) := by decide +kernel
theorem dX1_startEpoch_2 : decode cX1_startEpoch 2 = .ok (.iconst 0, 1) := by decide +kernel
theorem dX1_startEpoch_3 : decode cX1_startEpoch 3 = .ok (.aload_n 0, 1) := by decide +kernel
theorem dX1_startEpoch_4 : decode cX1_startEpoch 4 = .ok (.getfield 25, 3) := by decide +kernel
theorem dX1_startEpoch_7 : decode cX1_startEpoch 7 = .ok (.invokevirtual 72, 3) := by decide +kernel
theorem dX1_startEpoch_10 : decode cX1_startEpoch 10 = .ok (.aload_n 0, 1) := by decide +kernel
theorem dX1_startEpoch_11 : decode cX1_startEpoch 11 = .ok (.aload_n 2, 1) := by decide +kernel
theorem dX1_startEpoch_12 : decode cX1_startEpoch 12 = .ok (.iconst 1, 1) := by decide +kernel
theorem dX1_startEpoch_13 : decode cX1_startEpoch 13 = .ok (.aload_n 0, 1) := by decide +kernel
theorem dX1_startEpoch_14 : decode cX1_startEpoch 14 = .ok (.getfield 29, 3) := by decide +kernel
theorem dX1_startEpoch_17 : decode cX1_startEpoch 17 = .ok (.invokevirtual 72, 3) := by decide +kernel
theorem dX1_startEpoch_20 : decode cX1_startEpoch 20 = .ok (.aload_n 0, 1) := by decide +kernel
theorem dX1_startEpoch_21 : decode cX1_startEpoch 21 = .ok (.invokevirtual 76, 3) := by decide +kernel
theorem dX1_startEpoch_24 : decode cX1_startEpoch 24 = .ok (.aload_n 0, 1) := by decide +kernel
theorem dX1_startEpoch_25 : decode cX1_startEpoch 25 = .ok (.iload_n 1, 1) := by decide +kernel
theorem dX1_startEpoch_26 : decode cX1_startEpoch 26 = .ok (.putfield 48, 3) := by decide +kernel
theorem dX1_startEpoch_29 : decode cX1_startEpoch 29 = .ok (.return_, 1) := by decide +kernel
set_option maxRecDepth 20000 in
theorem ggX1_write_X0_size : GoodIn wsX1_write wsX0_size := goodIn_r _ [11, 12, 149, 150] (by decide +kernel) (by decide +kernel)
set_option maxRecDepth 20000 in
theorem gX1_write_X0_size : GoodIn wsX1_write (wsV RX1 77 RX0 yX0_size wsX0_size) := goodIn_app (goodIn_of _ (by decide +kernel)) ggX1_write_X0_size
set_option maxRecDepth 20000 in
theorem ggX1_write_X0_clear : GoodIn wsX1_write wsX0_clear := goodIn_r _ [16, 12, 149, 150] (by decide +kernel) (by decide +kernel)
set_option maxRecDepth 20000 in
theorem gX1_write_X0_clear : GoodIn wsX1_write (wsV RX1 82 RX0 yX0_clear wsX0_clear) := goodIn_app (goodIn_of _ (by decide +kernel)) ggX1_write_X0_clear
set_option maxRecDepth 20000 in
theorem ggX1_write_X0_append : GoodIn wsX1_write wsX0_append := goodIn_r _ [20, 12, 21, 149, 150] (by decide +kernel) (by decide +kernel)
set_option maxRecDepth 20000 in
theorem gX1_write_X0_append : GoodIn wsX1_write (wsV RX1 85 RX0 yX0_append wsX0_append) := goodIn_app (goodIn_of _ (by decide +kernel)) ggX1_write_X0_append
set_option maxRecDepth 20000 in
theorem ggX1_write_X0_appendNumber : GoodIn wsX1_write wsX0_appendNumber := goodIn_r _ [25, 26, 18, 19, 10, 20, 12, 21, 149, 150] (by decide +kernel) (by decide +kernel)
set_option maxRecDepth 20000 in
theorem gX1_write_X0_appendNumber : GoodIn wsX1_write (wsV RX1 89 RX0 yX0_appendNumber wsX0_appendNumber) := goodIn_app (goodIn_of _ (by decide +kernel)) ggX1_write_X0_appendNumber
set_option maxRecDepth 20000 in
theorem ggX1_write_X3_begin : GoodIn wsX1_write wsX3_begin := goodIn_r _ [31, 32, 33, 34, 35, 36, 30, 37, 38, 39, 40, 41, 42, 43, 44, 45, 46, 10, 47, 12, 21, 151, 152, 153, 149, 150] (by decide +kernel) (by decide +kernel)
set_option maxRecDepth 20000 in
theorem gX1_write_X3_begin : GoodIn wsX1_write (wsV RX1 93 RX3 yX3_begin wsX3_begin) := goodIn_app (goodIn_of _ (by decide +kernel)) ggX1_write_X3_begin
set_option maxRecDepth 20000 in
theorem ggX1_write_X0_at : GoodIn wsX1_write wsX0_at := goodIn_r _ [47, 12, 21, 149, 150] (by decide +kernel) (by decide +kernel)
set_option maxRecDepth 20000 in
theorem gX1_write_X0_at : GoodIn wsX1_write (wsV RX1 96 RX0 yX0_at wsX0_at) := goodIn_app (goodIn_of _ (by decide +kernel)) ggX1_write_X0_at
set_option maxRecDepth 20000 in
theorem ggX1_write_X3_next : GoodIn wsX1_write wsX3_next := goodIn_r _ [52, 34, 32, 53, 54, 55, 56, 30, 57, 58, 59, 60, 61, 62, 63, 64, 65, 66, 67, 68, 69, 70, 71, 72, 151, 152, 153] (by decide +kernel) (by decide +kernel)
set_option maxRecDepth 20000 in
theorem gX1_write_X3_next : GoodIn wsX1_write (wsV RX1 100 RX3 yX3_next wsX3_next) := goodIn_app (goodIn_of _ (by decide +kernel)) ggX1_write_X3_next
set_option maxRecDepth 20000 in
theorem ggX1_write_X1_makeTag : GoodIn wsX1_write wsX1_makeTag := goodIn_r _ [77, 78, 79, 6, 80, 81, 82, 83, 84, 85, 86, 87, 88, 89, 90, 91, 92, 93, 94, 95, 96, 97, 98, 99, 100, 101, 48, 45, 46, 10, 47, 12, 21, 102, 103, 104, 105, 106, 107, 108, 109, 110, 111, 112, 113, 114, 115, 116, 117, 118, 119, 120, 121, 122, 123, 124, 125, 126, 127, 128, 129, 130, 131, 132, 133, 134, 135, 136, 137, 138, 139, 140, 141, 142, 143, 144, 145, 146, 147, 148, 154, 155, 156, 157, 158, 159, 160, 149, 150] (by decide +kernel) (by decide +kernel)
set_option maxRecDepth 20000 in
theorem gX1_write_X1_makeTag : GoodIn wsX1_write (wsV RX1 103 RX1 yX1_makeTag wsX1_makeTag) := goodIn_app (goodIn_of _ (by decide +kernel)) ggX1_write_X1_makeTag
theorem dX1_write_0 : decode cX1_write 0 = .ok (.aload_n 1, 1) := by decide +kernel
theorem dX1_write_1 : decode cX1_write 1 = .ok (.invokevirtual 77, 3) := by decide +kernel
theorem dX1_write_4 : decode cX1_write 4 = .ok (.istore_n 3, 1) := by decide +kernel
theorem dX1_write_5 : decode cX1_write 5 = .ok (.aload_n 2, 1) := by decide +kernel
theorem dX1_write_6 : decode cX1_write 6 = .ok (.invokevirtual 82, 3) := by decide +kernel
theorem dX1_write_9 : decode cX1_write 9 = .ok (.aload_n 2, 1) := by decide +kernel
theorem dX1_write_10 : decode cX1_write 10 = .ok (.aload_n 0, 1) := by decide +kernel
theorem dX1_write_11 : decode cX1_write 11 = .ok (.getfield 44, 3) := by decide +kernel
theorem dX1_write_14 : decode cX1_write 14 = .ok (.invokevirtual 85, 3) := by decide +kernel
theorem dX1_write_17 : decode cX1_write 17 = .ok (.aload_n 2, 1) := by decide +kernel
theorem dX1_write_18 : decode cX1_write 18 = .ok (.aload_n 0, 1) := by decide +kernel
theorem dX1_write_19 : decode cX1_write 19 = .ok (.getfield 48, 3) := by decide +kernel
theorem dX1_write_22 : decode cX1_write 22 = .ok (.i2l, 1) := by decide +kernel
theorem dX1_write_23 : decode cX1_write 23 = .ok (.iconst 4, 1) := by decide +kernel
theorem dX1_write_24 : decode cX1_write 24 = .ok (.invokevirtual 89, 3) := by decide +kernel
theorem dX1_write_27 : decode cX1_write 27 = .ok (.aload_n 2, 1) := by decide +kernel
theorem dX1_write_28 : decode cX1_write 28 = .ok (.aload_n 0, 1) := by decide +kernel
theorem dX1_write_29 : decode cX1_write 29 = .ok (.getfield 55, 3) := by decide +kernel
theorem dX1_write_32 : decode cX1_write 32 = .ok (.bipush 8, 2) := by decide +kernel
theorem dX1_write_34 : decode cX1_write 34 = .ok (.invokevirtual 89, 3) := by decide +kernel
theorem dX1_write_37 : decode cX1_write 37 = .ok (.aload_n 2, 1) := by decide +kernel
theorem dX1_write_38 : decode cX1_write 38 = .ok (.iload_n 3, 1) := by decide +kernel
theorem dX1_write_39 : decode cX1_write 39 = .ok (.i2l, 1) := by decide +kernel
theorem dX1_write_40 : decode cX1_write 40 = .ok (.iconst 2, 1) := by decide +kernel
theorem dX1_write_41 : decode cX1_write 41 = .ok (.invokevirtual 89, 3) := by decide +kernel
theorem dX1_write_44 : decode cX1_write 44 = .ok (.aload_n 0, 1) := by decide +kernel
theorem dX1_write_45 : decode cX1_write 45 = .ok (.getfield 21, 3) := by decide +kernel
theorem dX1_write_48 : decode cX1_write 48 = .ok (.aload_n 0, 1) := by decide +kernel
theorem dX1_write_49 : decode cX1_write 49 = .ok (.getfield 25, 3) := by decide +kernel
theorem dX1_write_52 : decode cX1_write 52 = .ok (.aload_n 2, 1) := by decide +kernel
theorem dX1_write_53 : decode cX1_write 53 = .ok (.invokevirtual 93, 3) := by decide +kernel
theorem dX1_write_56 : decode cX1_write 56 = .ok (.iconst 0, 1) := by decide +kernel
theorem dX1_write_57 : decode cX1_write 57 = .ok (.istore 4, 2) := by decide +kernel
theorem dX1_write_59 : decode cX1_write 59 = .ok (.iload 4, 2) := by decide +kernel
theorem dX1_write_61 : decode cX1_write 61 = .ok (.iload_n 3, 1) := by decide +kernel
theorem dX1_write_62 : decode cX1_write 62 = .ok (.if_icmp .ge 27, 3) := by decide +kernel
theorem dX1_write_65 : decode cX1_write 65 = .ok (.aload_n 2, 1) := by decide +kernel
theorem dX1_write_66 : decode cX1_write 66 = .ok (.aload_n 1, 1) := by decide +kernel
theorem dX1_write_67 : decode cX1_write 67 = .ok (.iload 4, 2) := by decide +kernel
theorem dX1_write_69 : decode cX1_write 69 = .ok (.invokevirtual 96, 3) := by decide +kernel
theorem dX1_write_72 : decode cX1_write 72 = .ok (.aload_n 0, 1) := by decide +kernel
theorem dX1_write_73 : decode cX1_write 73 = .ok (.getfield 21, 3) := by decide +kernel
theorem dX1_write_76 : decode cX1_write 76 = .ok (.invokevirtual 100, 3) := by decide +kernel
theorem dX1_write_79 : decode cX1_write 79 = .ok (.ixor, 1) := by decide +kernel
theorem dX1_write_80 : decode cX1_write 80 = .ok (.invokevirtual 85, 3) := by decide +kernel
theorem dX1_write_83 : decode cX1_write 83 = .ok (.iinc 4 1, 3) := by decide +kernel
theorem dX1_write_86 : decode cX1_write 86 = .ok (.goto (-27), 3) := by decide +kernel
theorem dX1_write_89 : decode cX1_write 89 = .ok (.aload_n 0, 1) := by decide +kernel
theorem dX1_write_90 : decode cX1_write 90 = .ok (.aload_n 2, 1) := by decide +kernel
theorem dX1_write_91 : decode cX1_write 91 = .ok (.aload_n 2, 1) := by decide +kernel
theorem dX1_write_92 : decode cX1_write 92 = .ok (.invokevirtual 77, 3) := by decide +kernel
theorem dX1_write_95 : decode cX1_write 95 = .ok (.invokevirtual 103, 3) := by decide +kernel
theorem dX1_write_98 : decode cX1_write 98 = .ok (.iconst 0, 1) := by decide +kernel
theorem dX1_write_99 : decode cX1_write 99 = .ok (.istore 4, 2) := by decide +kernel
theorem dX1_write_101 : decode cX1_write 101 = .ok (.iload 4, 2) := by decide +kernel
theorem dX1_write_103 : decode cX1_write 103 = .ok (.bipush 16, 2) := by decide +kernel
theorem dX1_write_105 : decode cX1_write 105 = .ok (.if_icmp .ge 20, 3) := by decide +kernel
theorem dX1_write_108 : decode cX1_write 108 = .ok (.aload_n 2, 1) := by decide +kernel
theorem dX1_write_109 : decode cX1_write 109 = .ok (.aload_n 0, 1) := by decide +kernel
theorem dX1_write_110 : decode cX1_write 110 = .ok (.getfield 34, 3) := by decide +kernel
theorem dX1_write_113 : decode cX1_write 113 = .ok (.iload 4, 2) := by decide +kernel
theorem dX1_write_115 : decode cX1_write 115 = .ok (.iaload, 1) := by decide +kernel
theorem dX1_write_116 : decode cX1_write 116 = .ok (.invokevirtual 85, 3) := by decide +kernel
theorem dX1_write_119 : decode cX1_write 119 = .ok (.iinc 4 1, 3) := by decide +kernel
theorem dX1_write_122 : decode cX1_write 122 = .ok (.goto (-21), 3) := by decide +kernel
theorem dX1_write_125 : decode cX1_write 125 = .ok (.aload_n 0, 1) := by decide +kernel
theorem dX1_write_126 : decode cX1_write 126 = .ok (.dup, 1) := by decide +kernel
theorem dX1_write_127 : decode cX1_write 127 = .ok (.getfield 55, 3) := by decide +kernel
theorem dX1_write_130 : decode cX1_write 130 = .ok (.lconst 1, 1) := by decide +kernel
theorem dX1_write_131 : decode cX1_write 131 = .ok (.ladd, 1) := by decide +kernel
theorem dX1_write_132 : decode cX1_write 132 = .ok (.putfield 55, 3) := by decide +kernel
theorem dX1_write_135 : decode cX1_write 135 = .ok (.return_, 1) := by decide +kernel
set_option maxRecDepth 20000 in
theorem ggX1_judge_X1_hasRightShape : GoodIn wsX1_judge wsX1_hasRightShape := goodIn_r _ [7, 8, 9, 10, 11, 12, 13, 14, 15, 16, 17, 18, 19, 20, 21, 22, 23, 24, 115, 116, 117, 118, 119, 120, 121, 122, 123, 124, 125] (by decide +kernel) (by decide +kernel)
set_option maxRecDepth 20000 in
theorem gX1_judge_X1_hasRightShape : GoodIn wsX1_judge (wsV RX1 107 RX1 yX1_hasRightShape wsX1_hasRightShape) := goodIn_app (goodIn_of _ (by decide +kernel)) ggX1_judge_X1_hasRightShape
set_option maxRecDepth 20000 in
theorem ggX1_judge_X0_numberAt : GoodIn wsX1_judge wsX0_numberAt := goodIn_r _ [13, 14, 15, 16, 12, 17, 18, 19, 124, 125] (by decide +kernel) (by decide +kernel)
set_option maxRecDepth 20000 in
theorem gX1_judge_X0_numberAt : GoodIn wsX1_judge (wsV RX1 111 RX0 yX0_numberAt wsX0_numberAt) := goodIn_app (goodIn_of _ (by decide +kernel)) ggX1_judge_X0_numberAt
set_option maxRecDepth 20000 in
theorem ggX1_judge_X0_size : GoodIn wsX1_judge wsX0_size := goodIn_r _ [24, 18, 124, 125] (by decide +kernel) (by decide +kernel)
set_option maxRecDepth 20000 in
theorem gX1_judge_X0_size : GoodIn wsX1_judge (wsV RX1 77 RX0 yX0_size wsX0_size) := goodIn_app (goodIn_of _ (by decide +kernel)) ggX1_judge_X0_size
set_option maxRecDepth 20000 in
theorem ggX1_judge_X1_makeTag : GoodIn wsX1_judge wsX1_makeTag := goodIn_r _ [28, 29, 30, 31, 32, 33, 34, 35, 36, 37, 38, 39, 40, 41, 42, 43, 44, 45, 46, 47, 48, 49, 50, 51, 52, 53, 20, 15, 16, 12, 17, 18, 19, 54, 55, 56, 57, 58, 59, 60, 61, 62, 63, 64, 65, 66, 67, 68, 69, 70, 71, 72, 73, 74, 75, 76, 77, 78, 79, 80, 81, 82, 83, 84, 85, 86, 87, 88, 89, 90, 91, 115, 116, 117, 118, 119, 120, 121, 122, 123, 126, 127, 128, 129, 130, 131, 132, 124, 125] (by decide +kernel) (by decide +kernel)
set_option maxRecDepth 20000 in
theorem gX1_judge_X1_makeTag : GoodIn wsX1_judge (wsV RX1 103 RX1 yX1_makeTag wsX1_makeTag) := goodIn_app (goodIn_of _ (by decide +kernel)) ggX1_judge_X1_makeTag
set_option maxRecDepth 20000 in
theorem ggX1_judge_X1_tagStandsAt : GoodIn wsX1_judge wsX1_tagStandsAt := goodIn_r _ [95, 31, 20, 15, 16, 12, 17, 18, 19, 115, 116, 117, 118, 119, 120, 121, 122, 123, 124, 125] (by decide +kernel) (by decide +kernel)
set_option maxRecDepth 20000 in
theorem gX1_judge_X1_tagStandsAt : GoodIn wsX1_judge (wsV RX1 115 RX1 yX1_tagStandsAt wsX1_tagStandsAt) := goodIn_app (goodIn_of _ (by decide +kernel)) ggX1_judge_X1_tagStandsAt
set_option maxRecDepth 20000 in
theorem ggX1_judge_X5_isTooOld : GoodIn wsX1_judge wsX5_isTooOld := goodIn_r _ [100, 101, 102, 103, 104, 99, 105, 106, 107, 108, 109, 110, 133, 134] (by decide +kernel) (by decide +kernel)
set_option maxRecDepth 20000 in
theorem gX1_judge_X5_isTooOld : GoodIn wsX1_judge (wsV RX1 119 RX5 yX5_isTooOld wsX5_isTooOld) := goodIn_app (goodIn_of _ (by decide +kernel)) ggX1_judge_X5_isTooOld
set_option maxRecDepth 20000 in
theorem ggX1_judge_X5_wasSeen : GoodIn wsX1_judge wsX5_wasSeen := goodIn_r _ [114, 102, 101, 103, 104, 99, 105, 106, 107, 108, 109, 110, 133, 134] (by decide +kernel) (by decide +kernel)
set_option maxRecDepth 20000 in
theorem gX1_judge_X5_wasSeen : GoodIn wsX1_judge (wsV RX1 123 RX5 yX5_wasSeen wsX5_wasSeen) := goodIn_app (goodIn_of _ (by decide +kernel)) ggX1_judge_X5_wasSeen

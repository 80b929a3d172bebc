theorem dX1_judge_0 : decode cX1_judge 0 = .ok (.aload_n 0, 1) := by decide +kernel
theorem dX1_judge_1 : decode cX1_judge 1 = .ok (.aload_n 1, 1) := by decide +kernel
theorem dX1_judge_2 : decode cX1_judge 2 = .ok (.invokevirtual 107, 3) := by decide +kernel
theorem dX1_judge_5 : decode cX1_judge 5 = .ok (.ifCond .ne 5, 3) := by decide +kernel
theorem dX1_judge_8 : decode cX1_judge 8 = .ok (.iconst 2, 1) := by decide +kernel
theorem dX1_judge_9 : decode cX1_judge 9 = .ok (.ireturn, 1) := by decide +kernel
theorem dX1_judge_10 : decode cX1_judge 10 = .ok (.aload_n 1, 1) := by decide +kernel
theorem dX1_judge_11 : decode cX1_judge 11 = .ok (.iconst 1, 1) := by decide +kernel
theorem dX1_judge_12 : decode cX1_judge 12 = .ok (.iconst 4, 1) := by decide +kernel
theorem dX1_judge_13 : decode cX1_judge 13 = .ok (.invokevirtual 111, 3) := by decide +kernel
theorem dX1_judge_16 : decode cX1_judge 16 = .ok (.l2i, 1) := by decide +kernel
theorem dX1_judge_17 : decode cX1_judge 17 = .ok (.aload_n 0, 1) := by decide +kernel
theorem dX1_judge_18 : decode cX1_judge 18 = .ok (.getfield 48, 3) := by decide +kernel
theorem dX1_judge_21 : decode cX1_judge 21 = .ok (.if_icmp .eq 5, 3) := by decide +kernel
theorem dX1_judge_24 : decode cX1_judge 24 = .ok (.iconst 3, 1) := by decide +kernel
theorem dX1_judge_25 : decode cX1_judge 25 = .ok (.ireturn, 1) := by decide +kernel
theorem dX1_judge_26 : decode cX1_judge 26 = .ok (.aload_n 1, 1) := by decide +kernel
theorem dX1_judge_27 : decode cX1_judge 27 = .ok (.invokevirtual 77, 3) := by decide +kernel
theorem dX1_judge_30 : decode cX1_judge 30 = .ok (.bipush 16, 2) := by decide +kernel
theorem dX1_judge_32 : decode cX1_judge 32 = .ok (.isub, 1) := by decide +kernel
theorem dX1_judge_33 : decode cX1_judge 33 = .ok (.istore_n 2, 1) := by decide +kernel
theorem dX1_judge_34 : decode cX1_judge 34 = .ok (.aload_n 0, 1) := by decide +kernel
theorem dX1_judge_35 : decode cX1_judge 35 = .ok (.aload_n 1, 1) := by decide +kernel
theorem dX1_judge_36 : decode cX1_judge 36 = .ok (.iload_n 2, 1) := by decide +kernel
theorem dX1_judge_37 : decode cX1_judge 37 = .ok (.invokevirtual 103, 3) := by decide +kernel
theorem dX1_judge_40 : decode cX1_judge 40 = .ok (.aload_n 0, 1) := by decide +kernel
theorem dX1_judge_41 : decode cX1_judge 41 = .ok (.iload_n 2, 1) := by decide +kernel
theorem dX1_judge_42 : decode cX1_judge 42 = .ok (.aload_n 1, 1) := by decide +kernel
theorem dX1_judge_43 : decode cX1_judge 43 = .ok (.invokevirtual 115, 3) := by decide +kernel
theorem dX1_judge_46 : decode cX1_judge 46 = .ok (.ifCond .ne 5, 3) := by decide +kernel
theorem dX1_judge_49 : decode cX1_judge 49 = .ok (.iconst 4, 1) := by decide +kernel
theorem dX1_judge_50 : decode cX1_judge 50 = .ok (.ireturn, 1) := by decide +kernel
theorem dX1_judge_51 : decode cX1_judge 51 = .ok (.aload_n 1, 1) := by decide +kernel
theorem dX1_judge_52 : decode cX1_judge 52 = .ok (.iconst 5, 1) := by decide +kernel
theorem dX1_judge_53 : decode cX1_judge 53 = .ok (.bipush 8, 2) := by decide +kernel
theorem dX1_judge_55 : decode cX1_judge 55 = .ok (.invokevirtual 111, 3) := by decide +kernel
theorem dX1_judge_58 : decode cX1_judge 58 = .ok (.lstore_n 3, 1) := by decide +kernel
theorem dX1_judge_59 : decode cX1_judge 59 = .ok (.aload_n 0, 1) := by decide +kernel
theorem dX1_judge_60 : decode cX1_judge 60 = .ok (.getfield 40, 3) := by decide +kernel
theorem dX1_judge_63 : decode cX1_judge 63 = .ok (.lload_n 3, 1) := by decide +kernel
theorem dX1_judge_64 : decode cX1_judge 64 = .ok (.invokevirtual 119, 3) := by decide +kernel
theorem dX1_judge_67 : decode cX1_judge 67 = .ok (.ifCond .eq 5, 3) := by decide +kernel
theorem dX1_judge_70 : decode cX1_judge 70 = .ok (.iconst 5, 1) := by decide +kernel
theorem dX1_judge_71 : decode cX1_judge 71 = .ok (.ireturn, 1) := by decide +kernel
theorem dX1_judge_72 : decode cX1_judge 72 = .ok (.aload_n 0, 1) := by decide +kernel
theorem dX1_judge_73 : decode cX1_judge 73 = .ok (.getfield 40, 3) := by decide +kernel
theorem dX1_judge_76 : decode cX1_judge 76 = .ok (.lload_n 3, 1) := by decide +kernel
theorem dX1_judge_77 : decode cX1_judge 77 = .ok (.invokevirtual 123, 3) := by decide +kernel
theorem dX1_judge_80 : decode cX1_judge 80 = .ok (.ifCond .eq 8, 3) := by decide +kernel
theorem dX1_judge_83 : decode cX1_judge 83 = .ok (.bipush 6, 2) := by decide +kernel
theorem dX1_judge_85 : decode cX1_judge 85 = .ok (.goto 4, 3) := by decide +kernel
theorem dX1_judge_88 : decode cX1_judge 88 = .ok (.iconst 0, 1) := by decide +kernel
theorem dX1_judge_89 : decode cX1_judge 89 = .ok (.ireturn, 1) := by decide +kernel
set_option maxRecDepth 20000 in
theorem ggX1_read_X0_numberAt : GoodIn wsX1_read wsX0_numberAt := goodIn_r _ [8, 9, 10, 11, 7, 12, 13, 14, 90, 91] (by decide +kernel) (by decide +kernel)
set_option maxRecDepth 20000 in
theorem gX1_read_X0_numberAt : GoodIn wsX1_read (wsV RX1 111 RX0 yX0_numberAt wsX0_numberAt) := goodIn_app (goodIn_of _ (by decide +kernel)) ggX1_read_X0_numberAt
set_option maxRecDepth 20000 in
theorem ggX1_read_X0_clear : GoodIn wsX1_read wsX0_clear := goodIn_r _ [18, 13, 90, 91] (by decide +kernel) (by decide +kernel)
set_option maxRecDepth 20000 in
theorem gX1_read_X0_clear : GoodIn wsX1_read (wsV RX1 82 RX0 yX0_clear wsX0_clear) := goodIn_app (goodIn_of _ (by decide +kernel)) ggX1_read_X0_clear
set_option maxRecDepth 20000 in
theorem ggX1_read_X3_begin : GoodIn wsX1_read wsX3_begin := goodIn_r _ [23, 24, 25, 26, 27, 28, 22, 29, 30, 31, 32, 33, 34, 35, 36, 10, 11, 7, 12, 13, 14, 92, 93, 94, 90, 91] (by decide +kernel) (by decide +kernel)
set_option maxRecDepth 20000 in
theorem gX1_read_X3_begin : GoodIn wsX1_read (wsV RX1 93 RX3 yX3_begin wsX3_begin) := goodIn_app (goodIn_of _ (by decide +kernel)) ggX1_read_X3_begin
set_option maxRecDepth 20000 in
theorem ggX1_read_X0_at : GoodIn wsX1_read wsX0_at := goodIn_r _ [12, 13, 14, 90, 91] (by decide +kernel) (by decide +kernel)
set_option maxRecDepth 20000 in
theorem gX1_read_X0_at : GoodIn wsX1_read (wsV RX1 96 RX0 yX0_at wsX0_at) := goodIn_app (goodIn_of _ (by decide +kernel)) ggX1_read_X0_at
set_option maxRecDepth 20000 in
theorem ggX1_read_X3_next : GoodIn wsX1_read wsX3_next := goodIn_r _ [41, 26, 24, 42, 43, 44, 45, 22, 46, 47, 48, 49, 50, 51, 52, 53, 54, 55, 56, 57, 58, 59, 60, 61, 92, 93, 94] (by decide +kernel) (by decide +kernel)
set_option maxRecDepth 20000 in
theorem gX1_read_X3_next : GoodIn wsX1_read (wsV RX1 100 RX3 yX3_next wsX3_next) := goodIn_app (goodIn_of _ (by decide +kernel)) ggX1_read_X3_next
set_option maxRecDepth 20000 in
theorem ggX1_read_X0_append : GoodIn wsX1_read wsX0_append := goodIn_r _ [65, 13, 14, 90, 91] (by decide +kernel) (by decide +kernel)
set_option maxRecDepth 20000 in
theorem gX1_read_X0_append : GoodIn wsX1_read (wsV RX1 85 RX0 yX0_append wsX0_append) := goodIn_app (goodIn_of _ (by decide +kernel)) ggX1_read_X0_append
set_option maxRecDepth 20000 in
theorem ggX1_read_X5_mark : GoodIn wsX1_read wsX5_mark := goodIn_r _ [70, 71, 72, 73, 74, 69, 75, 76, 77, 78, 79, 80, 95, 96] (by decide +kernel) (by decide +kernel)
set_option maxRecDepth 20000 in
theorem gX1_read_X5_mark : GoodIn wsX1_read (wsV RX1 126 RX5 yX5_mark wsX5_mark) := goodIn_app (goodIn_of _ (by decide +kernel)) ggX1_read_X5_mark
theorem dX1_read_0 : decode cX1_read 0 = .ok (.aload_n 1, 1) := by decide +kernel
theorem dX1_read_1 : decode cX1_read 1 = .ok (.bipush 13, 2) := by decide +kernel
theorem dX1_read_3 : decode cX1_read 3 = .ok (.iconst 2, 1) := by decide +kernel
theorem dX1_read_4 : decode cX1_read 4 = .ok (.invokevirtual 111, 3) := by decide +kernel
theorem dX1_read_7 : decode cX1_read 7 = .ok (.l2i, 1) := by decide +kernel
theorem dX1_read_8 : decode cX1_read 8 = .ok (.istore_n 3, 1) := by decide +kernel
theorem dX1_read_9 : decode cX1_read 9 = .ok (.aload_n 2, 1) := by decide +kernel
theorem dX1_read_10 : decode cX1_read 10 = .ok (.invokevirtual 82, 3) := by decide +kernel
theorem dX1_read_13 : decode cX1_read 13 = .ok (.aload_n 0, 1) := by decide +kernel
theorem dX1_read_14 : decode cX1_read 14 = .ok (.getfield 21, 3) := by decide +kernel
theorem dX1_read_17 : decode cX1_read 17 = .ok (.aload_n 0, 1) := by decide +kernel
theorem dX1_read_18 : decode cX1_read 18 = .ok (.getfield 25, 3) := by decide +kernel
theorem dX1_read_21 : decode cX1_read 21 = .ok (.aload_n 1, 1) := by decide +kernel
theorem dX1_read_22 : decode cX1_read 22 = .ok (.invokevirtual 93, 3) := by decide +kernel
theorem dX1_read_25 : decode cX1_read 25 = .ok (.iconst 0, 1) := by decide +kernel
theorem dX1_read_26 : decode cX1_read 26 = .ok (.istore 4, 2) := by decide +kernel
theorem dX1_read_28 : decode cX1_read 28 = .ok (.iload 4, 2) := by decide +kernel
theorem dX1_read_30 : decode cX1_read 30 = .ok (.iload_n 3, 1) := by decide +kernel
theorem dX1_read_31 : decode cX1_read 31 = .ok (.if_icmp .ge 30, 3) := by decide +kernel
theorem dX1_read_34 : decode cX1_read 34 = .ok (.aload_n 2, 1) := by decide +kernel
theorem dX1_read_35 : decode cX1_read 35 = .ok (.aload_n 1, 1) := by decide +kernel
theorem dX1_read_36 : decode cX1_read 36 = .ok (.bipush 15, 2) := by decide +kernel
theorem dX1_read_38 : decode cX1_read 38 = .ok (.iload 4, 2) := by decide +kernel
theorem dX1_read_40 : decode cX1_read 40 = .ok (.iadd, 1) := by decide +kernel
theorem dX1_read_41 : decode cX1_read 41 = .ok (.invokevirtual 96, 3) := by decide +kernel
theorem dX1_read_44 : decode cX1_read 44 = .ok (.aload_n 0, 1) := by decide +kernel
theorem dX1_read_45 : decode cX1_read 45 = .ok (.getfield 21, 3) := by decide +kernel
theorem dX1_read_48 : decode cX1_read 48 = .ok (.invokevirtual 100, 3) := by decide +kernel
theorem dX1_read_51 : decode cX1_read 51 = .ok (.ixor, 1) := by decide +kernel
theorem dX1_read_52 : decode cX1_read 52 = .ok (.invokevirtual 85, 3) := by decide +kernel
theorem dX1_read_55 : decode cX1_read 55 = .ok (.iinc 4 1, 3) := by decide +kernel
theorem dX1_read_58 : decode cX1_read 58 = .ok (.goto (-30), 3) := by decide +kernel
theorem dX1_read_61 : decode cX1_read 61 = .ok (.aload_n 0, 1) := by decide +kernel
theorem dX1_read_62 : decode cX1_read 62 = .ok (.getfield 40, 3) := by decide +kernel
theorem dX1_read_65 : decode cX1_read 65 = .ok (.aload_n 1, 1) := by decide +kernel
theorem dX1_read_66 : decode cX1_read 66 = .ok (.iconst 5, 1) := by decide +kernel
theorem dX1_read_67 : decode cX1_read 67 = .ok (.bipush 8, 2) := by decide +kernel
theorem dX1_read_69 : decode cX1_read 69 = .ok (.invokevirtual 111, 3) := by decide +kernel
theorem dX1_read_72 : decode cX1_read 72 = .ok (.invokevirtual 126, 3) := by decide +kernel
theorem dX1_read_75 : decode cX1_read 75 = .ok (.return_, 1) := by decide +kernel
set_option maxRecDepth 20000 in
theorem ggX1_hasRightShape_X0_numberAt : GoodIn wsX1_hasRightShape wsX0_numberAt := goodIn_r _ [6, 7, 8, 9, 5, 10, 11, 12, 27, 28] (by decide +kernel) (by decide +kernel)
set_option maxRecDepth 20000 in
theorem gX1_hasRightShape_X0_numberAt : GoodIn wsX1_hasRightShape (wsV RX1 111 RX0 yX0_numberAt wsX0_numberAt) := goodIn_app (goodIn_of _ (by decide +kernel)) ggX1_hasRightShape_X0_numberAt
set_option maxRecDepth 20000 in
theorem ggX1_hasRightShape_X0_at : GoodIn wsX1_hasRightShape wsX0_at := goodIn_r _ [10, 11, 12, 27, 28] (by decide +kernel) (by decide +kernel)
set_option maxRecDepth 20000 in
theorem gX1_hasRightShape_X0_at : GoodIn wsX1_hasRightShape (wsV RX1 96 RX0 yX0_at wsX0_at) := goodIn_app (goodIn_of _ (by decide +kernel)) ggX1_hasRightShape_X0_at
set_option maxRecDepth 20000 in
theorem ggX1_hasRightShape_X0_size : GoodIn wsX1_hasRightShape wsX0_size := goodIn_r _ [17, 11, 27, 28] (by decide +kernel) (by decide +kernel)
set_option maxRecDepth 20000 in
theorem gX1_hasRightShape_X0_size : GoodIn wsX1_hasRightShape (wsV RX1 77 RX0 yX0_size wsX0_size) := goodIn_app (goodIn_of _ (by decide +kernel)) ggX1_hasRightShape_X0_size
theorem dX1_hasRightShape_0 : decode cX1_hasRightShape 0 = .ok (.aload_n 1, 1) := by decide +kernel
theorem dX1_hasRightShape_1 : decode cX1_hasRightShape 1 = .ok (.bipush 13, 2) := by decide +kernel
theorem dX1_hasRightShape_3 : decode cX1_hasRightShape 3 = .ok (.iconst 2, 1) := by decide +kernel
theorem dX1_hasRightShape_4 : decode cX1_hasRightShape 4 = .ok (.invokevirtual 111, 3) := by decide +kernel
theorem dX1_hasRightShape_7 : decode cX1_hasRightShape 7 = .ok (.l2i, 1) := by decide +kernel
theorem dX1_hasRightShape_8 : decode cX1_hasRightShape 8 = .ok (.istore_n 2, 1) := by decide +kernel
theorem dX1_hasRightShape_9 : decode cX1_hasRightShape 9 = .ok (.aload_n 1, 1) := by decide +kernel
theorem dX1_hasRightShape_10 : decode cX1_hasRightShape 10 = .ok (.iconst 0, 1) := by decide +kernel
theorem dX1_hasRightShape_11 : decode cX1_hasRightShape 11 = .ok (.invokevirtual 96, 3) := by decide +kernel
theorem dX1_hasRightShape_14 : decode cX1_hasRightShape 14 = .ok (.aload_n 0, 1) := by decide +kernel
theorem dX1_hasRightShape_15 : decode cX1_hasRightShape 15 = .ok (.getfield 44, 3) := by decide +kernel
theorem dX1_hasRightShape_18 : decode cX1_hasRightShape 18 = .ok (.if_icmp .ne 27, 3) := by decide +kernel
theorem dX1_hasRightShape_21 : decode cX1_hasRightShape 21 = .ok (.iload_n 2, 1) := by decide +kernel
theorem dX1_hasRightShape_22 : decode cX1_hasRightShape 22 = .ok (.bipush 96, 2) := by decide +kernel
theorem dX1_hasRightShape_24 : decode cX1_hasRightShape 24 = .ok (.if_icmp .gt 21, 3) := by decide +kernel
theorem dX1_hasRightShape_27 : decode cX1_hasRightShape 27 = .ok (.bipush 15, 2) := by decide +kernel
theorem dX1_hasRightShape_29 : decode cX1_hasRightShape 29 = .ok (.iload_n 2, 1) := by decide +kernel
theorem dX1_hasRightShape_30 : decode cX1_hasRightShape 30 = .ok (.iadd, 1) := by decide +kernel
theorem dX1_hasRightShape_31 : decode cX1_hasRightShape 31 = .ok (.bipush 16, 2) := by decide +kernel
theorem dX1_hasRightShape_33 : decode cX1_hasRightShape 33 = .ok (.iadd, 1) := by decide +kernel
theorem dX1_hasRightShape_34 : decode cX1_hasRightShape 34 = .ok (.aload_n 1, 1) := by decide +kernel
theorem dX1_hasRightShape_35 : decode cX1_hasRightShape 35 = .ok (.invokevirtual 77, 3) := by decide +kernel
theorem dX1_hasRightShape_38 : decode cX1_hasRightShape 38 = .ok (.if_icmp .ne 7, 3) := by decide +kernel
theorem dX1_hasRightShape_41 : decode cX1_hasRightShape 41 = .ok (.iconst 1, 1) := by decide +kernel
theorem dX1_hasRightShape_42 : decode cX1_hasRightShape 42 = .ok (.goto 4, 3) := by decide +kernel
theorem dX1_hasRightShape_45 : decode cX1_hasRightShape 45 = .ok (.iconst 0, 1) := by decide +kernel
theorem dX1_hasRightShape_46 : decode cX1_hasRightShape 46 = .ok (.ireturn, 1) := by decide +kernel
set_option maxRecDepth 20000 in
theorem ggX1_tagStandsAt_X0_at : GoodIn wsX1_tagStandsAt wsX0_at := goodIn_r _ [6, 7, 8, 18, 19] (by decide +kernel) (by decide +kernel)
set_option maxRecDepth 20000 in
theorem gX1_tagStandsAt_X0_at : GoodIn wsX1_tagStandsAt (wsV RX1 96 RX0 yX0_at wsX0_at) := goodIn_app (goodIn_of _ (by decide +kernel)) ggX1_tagStandsAt_X0_at
theorem dX1_tagStandsAt_0 : decode cX1_tagStandsAt 0 = .ok (.iconst 0, 1) := by decide +kernel
theorem dX1_tagStandsAt_1 : decode cX1_tagStandsAt 1 = .ok (.istore_n 3, 1) := by decide +kernel
theorem dX1_tagStandsAt_2 : decode cX1_tagStandsAt 2 = .ok (.iload_n 3, 1) := by decide +kernel
theorem dX1_tagStandsAt_3 : decode cX1_tagStandsAt 3 = .ok (.bipush 16, 2) := by decide +kernel
theorem dX1_tagStandsAt_5 : decode cX1_tagStandsAt 5 = .ok (.if_icmp .ge 27, 3) := by decide +kernel
theorem dX1_tagStandsAt_8 : decode cX1_tagStandsAt 8 = .ok (.aload_n 2, 1) := by decide +kernel
theorem dX1_tagStandsAt_9 : decode cX1_tagStandsAt 9 = .ok (.iload_n 1, 1) := by decide +kernel
theorem dX1_tagStandsAt_10 : decode cX1_tagStandsAt 10 = .ok (.iload_n 3, 1) := by decide +kernel
theorem dX1_tagStandsAt_11 : decode cX1_tagStandsAt 11 = .ok (.iadd, 1) := by decide +kernel
theorem dX1_tagStandsAt_12 : decode cX1_tagStandsAt 12 = .ok (.invokevirtual 96, 3) := by decide +kernel
theorem dX1_tagStandsAt_15 : decode cX1_tagStandsAt 15 = .ok (.aload_n 0, 1) := by decide +kernel
theorem dX1_tagStandsAt_16 : decode cX1_tagStandsAt 16 = .ok (.getfield 34, 3) := by decide +kernel
theorem dX1_tagStandsAt_19 : decode cX1_tagStandsAt 19 = .ok (.iload_n 3, 1) := by decide +kernel
theorem dX1_tagStandsAt_20 : decode cX1_tagStandsAt 20 = .ok (.iaload, 1) := by decide +kernel
theorem dX1_tagStandsAt_21 : decode cX1_tagStandsAt 21 = .ok (.if_icmp .eq 5, 3) := by decide +kernel
theorem dX1_tagStandsAt_24 : decode cX1_tagStandsAt 24 = .ok (.iconst 0, 1) := by decide +kernel
theorem dX1_tagStandsAt_25 : decode cX1_tagStandsAt 25 = .ok (.ireturn, 1) := by decide +kernel
theorem dX1_tagStandsAt_26 : decode cX1_tagStandsAt 26 = .ok (.iinc 3 1, 3) := by decide +kernel
theorem dX1_tagStandsAt_29 : decode cX1_tagStandsAt 29 = .ok (.goto (-27), 3) := by decide +kernel
theorem dX1_tagStandsAt_32 : decode cX1_tagStandsAt 32 = .ok (.iconst 1, 1) := by decide +kernel
theorem dX1_tagStandsAt_33 : decode cX1_tagStandsAt 33 = .ok (.ireturn, 1) := by decide +kernel
set_option maxRecDepth 20000 in
theorem ggX1_makeTag_X2_begin : GoodIn wsX1_makeTag wsX2_begin := goodIn_r _ [8, 9, 10, 11, 12, 7, 13, 14, 15, 16, 17, 18, 19, 20, 21, 22, 23, 24, 25, 80, 81, 82, 83, 84, 85, 86] (by decide +kernel) (by decide +kernel)
set_option maxRecDepth 20000 in
theorem gX1_makeTag_X2_begin : GoodIn wsX1_makeTag (wsV RX1 62 RX2 yX2_begin wsX2_begin) := goodIn_app (goodIn_of _ (by decide +kernel)) ggX1_makeTag_X2_begin
set_option maxRecDepth 20000 in
theorem ggX1_makeTag_X0_at : GoodIn wsX1_makeTag wsX0_at := goodIn_r _ [30, 31, 32, 87, 88] (by decide +kernel) (by decide +kernel)
set_option maxRecDepth 20000 in
theorem gX1_makeTag_X0_at : GoodIn wsX1_makeTag (wsV RX1 96 RX0 yX0_at wsX0_at) := goodIn_app (goodIn_of _ (by decide +kernel)) ggX1_makeTag_X0_at
set_option maxRecDepth 20000 in
theorem ggX1_makeTag_X2_append : GoodIn wsX1_makeTag wsX2_append := goodIn_r _ [36, 14, 21, 22, 23, 18, 24, 20, 25, 80, 81, 82, 83, 84, 85, 86] (by decide +kernel) (by decide +kernel)
set_option maxRecDepth 20000 in
theorem gX1_makeTag_X2_append : GoodIn wsX1_makeTag (wsV RX1 130 RX2 yX2_append wsX2_append) := goodIn_app (goodIn_of _ (by decide +kernel)) ggX1_makeTag_X2_append
set_option maxRecDepth 20000 in
theorem ggX1_makeTag_X2_finish : GoodIn wsX1_makeTag wsX2_finish := goodIn_r _ [40, 14, 41, 42, 43, 44, 18, 45, 46, 47, 20, 48, 49, 50, 51, 52, 53, 22, 23, 24, 25, 54, 55, 56, 57, 58, 59, 60, 61, 62, 63, 64, 65, 66, 10, 11, 12, 7, 13, 9, 15, 16, 17, 19, 21, 67, 68, 69, 70, 80, 81, 82, 83, 84, 85, 86] (by decide +kernel) (by decide +kernel)
set_option maxRecDepth 20000 in
theorem gX1_makeTag_X2_finish : GoodIn wsX1_makeTag (wsV RX1 69 RX2 yX2_finish wsX2_finish) := goodIn_app (goodIn_of _ (by decide +kernel)) ggX1_makeTag_X2_finish
theorem dX1_makeTag_0 : decode cX1_makeTag 0 = .ok (.aload_n 0, 1) := by decide +kernel
theorem dX1_makeTag_1 : decode cX1_makeTag 1 = .ok (.getfield 12, 3) := by decide +kernel
theorem dX1_makeTag_4 : decode cX1_makeTag 4 = .ok (.aload_n 0, 1) := by decide +kernel
theorem dX1_makeTag_5 : decode cX1_makeTag 5 = .ok (.getfield 29, 3) := by decide +kernel
theorem dX1_makeTag_8 : decode cX1_makeTag 8 = .ok (.invokevirtual 62, 3) := by decide +kernel
theorem dX1_makeTag_11 : decode cX1_makeTag 11 = .ok (.iconst 0, 1) := by decide +kernel
theorem dX1_makeTag_12 : decode cX1_makeTag 12 = .ok (.istore_n 3, 1) := by decide +kernel
theorem dX1_makeTag_13 : decode cX1_makeTag 13 = .ok (.iload_n 3, 1) := by decide +kernel
theorem dX1_makeTag_14 : decode cX1_makeTag 14 = .ok (.iload_n 2, 1) := by decide +kernel
theorem dX1_makeTag_15 : decode cX1_makeTag 15 = .ok (.if_icmp .ge 21, 3) := by decide +kernel
theorem dX1_makeTag_18 : decode cX1_makeTag 18 = .ok (.aload_n 0, 1) := by decide +kernel
theorem dX1_makeTag_19 : decode cX1_makeTag 19 = .ok (.getfield 12, 3) := by decide +kernel
theorem dX1_makeTag_22 : decode cX1_makeTag 22 = .ok (.aload_n 1, 1) := by decide +kernel
theorem dX1_makeTag_23 : decode cX1_makeTag 23 = .ok (.iload_n 3, 1) := by decide +kernel
theorem dX1_makeTag_24 : decode cX1_makeTag 24 = .ok (.invokevirtual 96, 3) := by decide +kernel
theorem dX1_makeTag_27 : decode cX1_makeTag 27 = .ok (.invokevirtual 130, 3) := by decide +kernel
theorem dX1_makeTag_30 : decode cX1_makeTag 30 = .ok (.iinc 3 1, 3) := by decide +kernel
theorem dX1_makeTag_33 : decode cX1_makeTag 33 = .ok (.goto (-20), 3) := by decide +kernel
theorem dX1_makeTag_36 : decode cX1_makeTag 36 = .ok (.aload_n 0, 1) := by decide +kernel
theorem dX1_makeTag_37 : decode cX1_makeTag 37 = .ok (.getfield 12, 3) := by decide +kernel
theorem dX1_makeTag_40 : decode cX1_makeTag 40 = .ok (.aload_n 0, 1) := by decide +kernel
theorem dX1_makeTag_41 : decode cX1_makeTag 41 = .ok (.getfield 34, 3) := by decide +kernel
theorem dX1_makeTag_44 : decode cX1_makeTag 44 = .ok (.invokevirtual 69, 3) := by decide +kernel
theorem dX1_makeTag_47 : decode cX1_makeTag 47 = .ok (.return_, 1) := by decide +kernel
set_option maxRecDepth 20000 in
theorem ggX1_makeKey_X2_begin : GoodIn wsX1_makeKey wsX2_begin := goodIn_r _ [7, 8, 9, 10, 11, 6, 12, 13, 14, 15, 16, 17, 18, 19, 20, 21, 22, 23, 24, 72, 73, 74, 75, 76, 77, 78] (by decide +kernel) (by decide +kernel)
set_option maxRecDepth 20000 in
theorem gX1_makeKey_X2_begin : GoodIn wsX1_makeKey (wsV RX1 62 RX2 yX2_begin wsX2_begin) := goodIn_app (goodIn_of _ (by decide +kernel)) ggX1_makeKey_X2_begin
set_option maxRecDepth 20000 in
theorem ggX1_makeKey_X2_append : GoodIn wsX1_makeKey wsX2_append := goodIn_r _ [28, 13, 20, 21, 22, 17, 23, 19, 24, 72, 73, 74, 75, 76, 77, 78] (by decide +kernel) (by decide +kernel)
set_option maxRecDepth 20000 in
theorem gX1_makeKey_X2_append : GoodIn wsX1_makeKey (wsV RX1 130 RX2 yX2_append wsX2_append) := goodIn_app (goodIn_of _ (by decide +kernel)) ggX1_makeKey_X2_append
set_option maxRecDepth 20000 in
theorem ggX1_makeKey_X2_finish : GoodIn wsX1_makeKey wsX2_finish := goodIn_r _ [32, 13, 33, 34, 35, 36, 17, 37, 38, 39, 19, 40, 41, 42, 43, 44, 45, 21, 22, 23, 24, 46, 47, 48, 49, 50, 51, 52, 53, 54, 55, 56, 57, 58, 9, 10, 11, 6, 12, 8, 14, 15, 16, 18, 20, 59, 60, 61, 62, 72, 73, 74, 75, 76, 77, 78] (by decide +kernel) (by decide +kernel)
set_option maxRecDepth 20000 in
theorem gX1_makeKey_X2_finish : GoodIn wsX1_makeKey (wsV RX1 69 RX2 yX2_finish wsX2_finish) := goodIn_app (goodIn_of _ (by decide +kernel)) ggX1_makeKey_X2_finish
theorem dX1_makeKey_0 : decode cX1_makeKey 0 = .ok (.aload_n 0, 1) := by decide +kernel
theorem dX1_makeKey_1 : decode cX1_makeKey 1 = .ok (.getfield 12, 3) := by decide +kernel
theorem dX1_makeKey_4 : decode cX1_makeKey 4 = .ok (.aload_n 1, 1) := by decide +kernel
theorem dX1_makeKey_5 : decode cX1_makeKey 5 = .ok (.invokevirtual 62, 3) := by decide +kernel
theorem dX1_makeKey_8 : decode cX1_makeKey 8 = .ok (.aload_n 0, 1) := by decide +kernel
theorem dX1_makeKey_9 : decode cX1_makeKey 9 = .ok (.getfield 12, 3) := by decide +kernel
theorem dX1_makeKey_12 : decode cX1_makeKey 12 = .ok (.aload_n 0, 1) := by decide +kernel
theorem dX1_makeKey_13 : decode cX1_makeKey 13 = .ok (.getfield 44, 3) := by decide +kernel
theorem dX1_makeKey_16 : decode cX1_makeKey 16 = .ok (.invokevirtual 130, 3) := by decide +kernel
theorem dX1_makeKey_19 : decode cX1_makeKey 19 = .ok (.aload_n 0, 1) := by decide +kernel
theorem dX1_makeKey_20 : decode cX1_makeKey 20 = .ok (.getfield 12, 3) := by decide +kernel
theorem dX1_makeKey_23 : decode cX1_makeKey 23 = .ok (.iload_n 2, 1) := by decide +kernel
theorem dX1_makeKey_24 : decode cX1_makeKey 24 = .ok (.invokevirtual 130, 3) := by decide +kernel
theorem dX1_makeKey_27 : decode cX1_makeKey 27 = .ok (.aload_n 0, 1) := by decide +kernel
theorem dX1_makeKey_28 : decode cX1_makeKey 28 = .ok (.getfield 12, 3) := by decide +kernel
theorem dX1_makeKey_31 : decode cX1_makeKey 31 = .ok (.iconst 1, 1) := by decide +kernel
theorem dX1_makeKey_32 : decode cX1_makeKey 32 = .ok (.invokevirtual 130, 3) := by decide +kernel
theorem dX1_makeKey_35 : decode cX1_makeKey 35 = .ok (.aload_n 0, 1) := by decide +kernel
theorem dX1_makeKey_36 : decode cX1_makeKey 36 = .ok (.getfield 12, 3) := by decide +kernel
theorem dX1_makeKey_39 : decode cX1_makeKey 39 = .ok (.aload_n 3, 1) := by decide +kernel
theorem dX1_makeKey_40 : decode cX1_makeKey 40 = .ok (.invokevirtual 69, 3) := by decide +kernel
theorem dX1_makeKey_43 : decode cX1_makeKey 43 = .ok (.return_, 1) := by decide +kernel
set_option maxRecDepth 20000 in
theorem ggX2_init_X4_init : GoodIn wsX2_init wsX4_init := goodIn_r _ [12, 13, 2, 3, 8, 14, 15, 16, 17, 18, 19, 20] (by decide +kernel) (by decide +kernel)
set_option maxRecDepth 20000 in
theorem gX2_init_X4_init_n9 : GoodIn wsX2_init (wsX4_init) := ggX2_init_X4_init
theorem dX2_init_0 : decode cX2_init 0 = .ok (.aload_n 0, 1) := by decide +kernel
theorem dX2_init_1 : decode cX2_init 1 = .ok (.invokespecial 1, 3) := by decide +kernel
theorem dX2_init_4 : decode cX2_init 4 = .ok (.aload_n 0, 1) := by decide +kernel
theorem dX2_init_5 : decode cX2_init 5 = .ok (.new 7, 3) := by decide +kernel
theorem dX2_init_8 : decode cX2_init 8 = .ok (.dup, 1) := by decide +kernel
theorem dX2_init_9 : decode cX2_init 9 = .ok (.invokespecial 9, 3) := by decide +kernel
theorem dX2_init_12 : decode cX2_init 12 = .ok (.putfield 10, 3) := by decide +kernel
theorem dX2_init_15 : decode cX2_init 15 = .ok (.aload_n 0, 1) := by decide +kernel
theorem dX2_init_16 : decode cX2_init 16 = .ok (.bipush 64, 2) := by decide +kernel
theorem dX2_init_18 : decode cX2_init 18 = .ok (.newarray .int, 2) := by decide +kernel
theorem dX2_init_20 : decode cX2_init 20 = .ok (.putfield 16, 3) := by decide +kernel
theorem dX2_init_23 : decode cX2_init 23 = .ok (.aload_n 0, 1) := by decide +kernel
theorem dX2_init_24 : decode cX2_init 24 = .ok (.bipush 32, 2) := by decide +kernel
theorem dX2_init_26 : decode cX2_init 26 = .ok (.newarray .int, 2) := by decide +kernel
theorem dX2_init_28 : decode cX2_init 28 = .ok (.putfield 20, 3) := by decide +kernel
theorem dX2_init_31 : decode cX2_init 31 = .ok (.return_, 1) := by decide +kernel
set_option maxRecDepth 20000 in
theorem ggX2_begin_X2_beginWithPad : GoodIn wsX2_begin wsX2_beginWithPad := goodIn_r _ [6, 7, 1, 8, 9, 10, 11, 12, 13, 14, 15, 16, 17, 18, 19, 20, 21, 22, 23, 24, 25] (by decide +kernel) (by decide +kernel)
set_option maxRecDepth 20000 in
theorem gX2_begin_X2_beginWithPad : GoodIn wsX2_begin (wsV RX2 23 RX2 yX2_beginWithPad wsX2_beginWithPad) := goodIn_app (goodIn_of _ (by decide +kernel)) ggX2_begin_X2_beginWithPad
theorem dX2_begin_0 : decode cX2_begin 0 = .ok (.iconst 0, 1) := by decide +kernel
theorem dX2_begin_1 : decode cX2_begin 1 = .ok (.istore_n 2, 1) := by decide +kernel
theorem dX2_begin_2 : decode cX2_begin 2 = .ok (.iload_n 2, 1) := by decide +kernel
theorem dX2_begin_3 : decode cX2_begin 3 = .ok (.bipush 64, 2) := by decide +kernel
theorem dX2_begin_5 : decode cX2_begin 5 = .ok (.if_icmp .ge 28, 3) := by decide +kernel
theorem dX2_begin_8 : decode cX2_begin 8 = .ok (.aload_n 0, 1) := by decide +kernel
theorem dX2_begin_9 : decode cX2_begin 9 = .ok (.getfield 16, 3) := by decide +kernel
theorem dX2_begin_12 : decode cX2_begin 12 = .ok (.iload_n 2, 1) := by decide +kernel
theorem dX2_begin_13 : decode cX2_begin 13 = .ok (.iload_n 2, 1) := by decide +kernel
theorem dX2_begin_14 : decode cX2_begin 14 = .ok (.aload_n 1, 1) := by decide +kernel
theorem dX2_begin_15 : decode cX2_begin 15 = .ok (.arraylength, 1) := by decide +kernel
theorem dX2_begin_16 : decode cX2_begin 16 = .ok (.if_icmp .ge 9, 3) := by decide +kernel
theorem dX2_begin_19 : decode cX2_begin 19 = .ok (.aload_n 1, 1) := by decide +kernel
theorem dX2_begin_20 : decode cX2_begin 20 = .ok (.iload_n 2, 1) := by decide +kernel
theorem dX2_begin_21 : decode cX2_begin 21 = .ok (.iaload, 1) := by decide +kernel
theorem dX2_begin_22 : decode cX2_begin 22 = .ok (.goto 4, 3) := by decide +kernel
theorem dX2_begin_25 : decode cX2_begin 25 = .ok (.iconst 0, 1) := by decide +kernel
theorem dX2_begin_26 : decode cX2_begin 26 = .ok (.iastore, 1) := by decide +kernel
theorem dX2_begin_27 : decode cX2_begin 27 = .ok (.iinc 2 1, 3) := by decide +kernel
theorem dX2_begin_30 : decode cX2_begin 30 = .ok (.goto (-28), 3) := by decide +kernel
theorem dX2_begin_33 : decode cX2_begin 33 = .ok (.aload_n 0, 1) := by decide +kernel
theorem dX2_begin_34 : decode cX2_begin 34 = .ok (.bipush 54, 2) := by decide +kernel
theorem dX2_begin_36 : decode cX2_begin 36 = .ok (.invokevirtual 23, 3) := by decide +kernel
theorem dX2_begin_39 : decode cX2_begin 39 = .ok (.return_, 1) := by decide +kernel
set_option maxRecDepth 20000 in
theorem ggX2_append_X4_append : GoodIn wsX2_append wsX4_append := goodIn_r _ [6, 7, 8, 12, 13, 14, 15] (by decide +kernel) (by decide +kernel)
set_option maxRecDepth 20000 in
theorem gX2_append_X4_append : GoodIn wsX2_append (wsV RX2 27 RX4 yX4_append wsX4_append) := goodIn_app (goodIn_of _ (by decide +kernel)) ggX2_append_X4_append
theorem dX2_append_0 : decode cX2_append 0 = .ok (.aload_n 0, 1) := by decide +kernel
theorem dX2_append_1 : decode cX2_append 1 = .ok (.getfield 10, 3) := by decide +kernel
theorem dX2_append_4 : decode cX2_append 4 = .ok (.iload_n 1, 1) := by decide +kernel
theorem dX2_append_5 : decode cX2_append 5 = .ok (.invokevirtual 27, 3) := by decide +kernel
theorem dX2_append_8 : decode cX2_append 8 = .ok (.return_, 1) := by decide +kernel
set_option maxRecDepth 20000 in
theorem ggX2_appendAll_X4_append : GoodIn wsX2_appendAll wsX4_append := goodIn_r _ [6, 7, 8, 12, 13, 14, 15] (by decide +kernel) (by decide +kernel)
set_option maxRecDepth 20000 in
theorem gX2_appendAll_X4_append : GoodIn wsX2_appendAll (wsV RX2 27 RX4 yX4_append wsX4_append) := goodIn_app (goodIn_of _ (by decide +kernel)) ggX2_appendAll_X4_append
theorem dX2_appendAll_0 : decode cX2_appendAll 0 = .ok (.iconst 0, 1) := by decide +kernel
theorem dX2_appendAll_1 : decode cX2_appendAll 1 = .ok (.istore_n 2, 1) := by decide +kernel
theorem dX2_appendAll_2 : decode cX2_appendAll 2 = .ok (.iload_n 2, 1) := by decide +kernel
theorem dX2_appendAll_3 : decode cX2_appendAll 3 = .ok (.aload_n 1, 1) := by decide +kernel
theorem dX2_appendAll_4 : decode cX2_appendAll 4 = .ok (.arraylength, 1) := by decide +kernel
theorem dX2_appendAll_5 : decode cX2_appendAll 5 = .ok (.if_icmp .ge 19, 3) := by decide +kernel
theorem dX2_appendAll_8 : decode cX2_appendAll 8 = .ok (.aload_n 0, 1) := by decide +kernel
theorem dX2_appendAll_9 : decode cX2_appendAll 9 = .ok (.getfield 10, 3) := by decide +kernel
theorem dX2_appendAll_12 : decode cX2_appendAll 12 = .ok (.aload_n 1, 1) := by decide +kernel
theorem dX2_appendAll_13 : decode cX2_appendAll 13 = .ok (.iload_n 2, 1) := by decide +kernel
theorem dX2_appendAll_14 : decode cX2_appendAll 14 = .ok (.iaload, 1) := by decide +kernel
theorem dX2_appendAll_15 : decode cX2_appendAll 15 = .ok (.invokevirtual 27, 3) := by decide +kernel
theorem dX2_appendAll_18 : decode cX2_appendAll 18 = .ok (.iinc 2 1, 3) := by decide +kernel
theorem dX2_appendAll_21 : decode cX2_appendAll 21 = .ok (.goto (-19), 3) := by decide +kernel
theorem dX2_appendAll_24 : decode cX2_appendAll 24 = .ok (.return_, 1) := by decide +kernel
set_option maxRecDepth 20000 in
theorem ggX2_finish_X4_finish : GoodIn wsX2_finish wsX4_finish := goodIn_r _ [7, 8, 9, 10, 11, 12, 13, 6, 14, 15, 16, 17, 18, 19, 20, 21, 22, 23, 24, 25, 26, 27, 28, 29, 30, 31, 32, 33, 52, 53, 54, 55] (by decide +kernel) (by decide +kernel)
set_option maxRecDepth 20000 in
theorem gX2_finish_X4_finish : GoodIn wsX2_finish (wsV RX2 30 RX4 yX4_finish wsX4_finish) := goodIn_app (goodIn_of _ (by decide +kernel)) ggX2_finish_X4_finish
set_option maxRecDepth 20000 in
theorem ggX2_finish_X2_beginWithPad : GoodIn wsX2_finish wsX2_beginWithPad := goodIn_r _ [38, 1, 39, 40, 41, 42, 6, 43, 10, 44, 17, 18, 19, 20, 49, 50, 51, 52, 53, 54, 55] (by decide +kernel) (by decide +kernel)
set_option maxRecDepth 20000 in
theorem gX2_finish_X2_beginWithPad : GoodIn wsX2_finish (wsV RX2 23 RX2 yX2_beginWithPad wsX2_beginWithPad) := goodIn_app (goodIn_of _ (by decide +kernel)) ggX2_finish_X2_beginWithPad
set_option maxRecDepth 20000 in
theorem ggX2_finish_X2_appendAll : GoodIn wsX2_finish wsX2_appendAll := goodIn_r _ [48, 1, 44, 17, 18, 6, 19, 10, 20, 49, 50, 51, 52, 53, 54, 55] (by decide +kernel) (by decide +kernel)
set_option maxRecDepth 20000 in
theorem gX2_finish_X2_appendAll : GoodIn wsX2_finish (wsV RX2 34 RX2 yX2_appendAll wsX2_appendAll) := goodIn_app (goodIn_of _ (by decide +kernel)) ggX2_finish_X2_appendAll
theorem dX2_finish_0 : decode cX2_finish 0 = .ok (.aload_n 0, 1) := by decide +kernel
theorem dX2_finish_1 : decode cX2_finish 1 = .ok (.getfield 10, 3) := by decide +kernel
theorem dX2_finish_4 : decode cX2_finish 4 = .ok (.aload_n 0, 1) := by decide +kernel
theorem dX2_finish_5 : decode cX2_finish 5 = .ok (.getfield 20, 3) := by decide +kernel
theorem dX2_finish_8 : decode cX2_finish 8 = .ok (.invokevirtual 30, 3) := by decide +kernel
theorem dX2_finish_11 : decode cX2_finish 11 = .ok (.aload_n 0, 1) := by decide +kernel
theorem dX2_finish_12 : decode cX2_finish 12 = .ok (.bipush 92, 2) := by decide +kernel
theorem dX2_finish_14 : decode cX2_finish 14 = .ok (.invokevirtual 23, 3) := by decide +kernel
theorem dX2_finish_17 : decode cX2_finish 17 = .ok (.aload_n 0, 1) := by decide +kernel
theorem dX2_finish_18 : decode cX2_finish 18 = .ok (.aload_n 0, 1) := by decide +kernel
theorem dX2_finish_19 : decode cX2_finish 19 = .ok (.getfield 20, 3) := by decide +kernel
theorem dX2_finish_22 : decode cX2_finish 22 = .ok (.invokevirtual 34, 3) := by decide +kernel
theorem dX2_finish_25 : decode cX2_finish 25 = .ok (.aload_n 0, 1) := by decide +kernel
theorem dX2_finish_26 : decode cX2_finish 26 = .ok (.getfield 10, 3) := by decide +kernel
theorem dX2_finish_29 : decode cX2_finish 29 = .ok (.aload_n 1, 1) := by decide +kernel
theorem dX2_finish_30 : decode cX2_finish 30 = .ok (.invokevirtual 30, 3) := by decide +kernel
theorem dX2_finish_33 : decode cX2_finish 33 = .ok (.return_, 1) := by decide +kernel
set_option maxRecDepth 20000 in
theorem ggX2_beginWithPad_X4_begin : GoodIn wsX2_beginWithPad wsX4_begin := goodIn_r _ [7, 8, 17, 18, 19, 20] (by decide +kernel) (by decide +kernel)
set_option maxRecDepth 20000 in
theorem gX2_beginWithPad_X4_begin : GoodIn wsX2_beginWithPad (wsV RX2 37 RX4 yX4_begin wsX4_begin) := goodIn_app (goodIn_of _ (by decide +kernel)) ggX2_beginWithPad_X4_begin
set_option maxRecDepth 20000 in
theorem ggX2_beginWithPad_X4_append : GoodIn wsX2_beginWithPad wsX4_append := goodIn_r _ [12, 8, 13, 17, 18, 19, 20] (by decide +kernel) (by decide +kernel)
set_option maxRecDepth 20000 in
theorem gX2_beginWithPad_X4_append : GoodIn wsX2_beginWithPad (wsV RX2 27 RX4 yX4_append wsX4_append) := goodIn_app (goodIn_of _ (by decide +kernel)) ggX2_beginWithPad_X4_append
theorem dX2_beginWithPad_0 : decode cX2_beginWithPad 0 = .ok (.aload_n 0, 1) := by decide +kernel
theorem dX2_beginWithPad_1 : decode cX2_beginWithPad 1 = .ok (.getfield 10, 3) := by decide +kernel
theorem dX2_beginWithPad_4 : decode cX2_beginWithPad 4 = .ok (.invokevirtual 37, 3) := by decide +kernel
theorem dX2_beginWithPad_7 : decode cX2_beginWithPad 7 = .ok (.iconst 0, 1) := by decide +kernel
theorem dX2_beginWithPad_8 : decode cX2_beginWithPad 8 = .ok (.istore_n 2, 1) := by decide +kernel
theorem dX2_beginWithPad_9 : decode cX2_beginWithPad 9 = .ok (.iload_n 2, 1) := by decide +kernel
theorem dX2_beginWithPad_10 : decode cX2_beginWithPad 10 = .ok (.bipush 64, 2) := by decide +kernel
theorem dX2_beginWithPad_12 : decode cX2_beginWithPad 12 = .ok (.if_icmp .ge 24, 3) := by decide +kernel
theorem dX2_beginWithPad_15 : decode cX2_beginWithPad 15 = .ok (.aload_n 0, 1) := by decide +kernel
theorem dX2_beginWithPad_16 : decode cX2_beginWithPad 16 = .ok (.getfield 10, 3) := by decide +kernel
theorem dX2_beginWithPad_19 : decode cX2_beginWithPad 19 = .ok (.aload_n 0, 1) := by decide +kernel
theorem dX2_beginWithPad_20 : decode cX2_beginWithPad 20 = .ok (.getfield 16, 3) := by decide +kernel
theorem dX2_beginWithPad_23 : decode cX2_beginWithPad 23 = .ok (.iload_n 2, 1) := by decide +kernel
theorem dX2_beginWithPad_24 : decode cX2_beginWithPad 24 = .ok (.iaload, 1) := by decide +kernel
theorem dX2_beginWithPad_25 : decode cX2_beginWithPad 25 = .ok (.iload_n 1, 1) := by decide +kernel
theorem dX2_beginWithPad_26 : decode cX2_beginWithPad 26 = .ok (.ixor, 1) := by decide +kernel
theorem dX2_beginWithPad_27 : decode cX2_beginWithPad 27 = .ok (.invokevirtual 27, 3) := by decide +kernel
theorem dX2_beginWithPad_30 : decode cX2_beginWithPad 30 = .ok (.iinc 2 1, 3) := by decide +kernel
theorem dX2_beginWithPad_33 : decode cX2_beginWithPad 33 = .ok (.goto (-24), 3) := by decide +kernel
theorem dX2_beginWithPad_36 : decode cX2_beginWithPad 36 = .ok (.return_, 1) := by decide +kernel
theorem dX3_init_0 : decode cX3_init 0 = .ok (.aload_n 0, 1) := by decide +kernel
theorem dX3_init_1 : decode cX3_init 1 = .ok (.invokespecial 3, 3) := by decide +kernel
theorem dX3_init_4 : decode cX3_init 4 = .ok (.aload_n 0, 1) := by decide +kernel
theorem dX3_init_5 : decode cX3_init 5 = .ok (.bipush 16, 2) := by decide +kernel
theorem dX3_init_7 : decode cX3_init 7 = .ok (.newarray .int, 2) := by decide +kernel
theorem dX3_init_9 : decode cX3_init 9 = .ok (.putfield 11, 3) := by decide +kernel
theorem dX3_init_12 : decode cX3_init 12 = .ok (.aload_n 0, 1) := by decide +kernel
theorem dX3_init_13 : decode cX3_init 13 = .ok (.bipush 16, 2) := by decide +kernel
theorem dX3_init_15 : decode cX3_init 15 = .ok (.newarray .int, 2) := by decide +kernel
theorem dX3_init_17 : decode cX3_init 17 = .ok (.putfield 15, 3) := by decide +kernel
theorem dX3_init_20 : decode cX3_init 20 = .ok (.return_, 1) := by decide +kernel
set_option maxRecDepth 20000 in
theorem ggX3_begin_X3_keyWord : GoodIn wsX3_begin wsX3_keyWord := goodIn_r _ [7, 8, 9, 6, 10] (by decide +kernel) (by decide +kernel)
set_option maxRecDepth 20000 in
theorem gX3_begin_X3_keyWord : GoodIn wsX3_begin (va_wsS RX3 21 yX3_keyWord wsX3_keyWord) := goodIn_app (goodIn_of _ (by decide +kernel)) ggX3_begin_X3_keyWord
set_option maxRecDepth 20000 in
theorem ggX3_begin_X3_headWord : GoodIn wsX3_begin wsX3_headWord := goodIn_r _ [13, 14, 15, 16, 17, 18, 19, 20, 8, 9, 6, 10, 24, 25] (by decide +kernel) (by decide +kernel)
set_option maxRecDepth 20000 in
theorem gX3_begin_X3_headWord : GoodIn wsX3_begin (va_wsS RX3 25 yX3_headWord wsX3_headWord) := goodIn_app (goodIn_of _ (by decide +kernel)) ggX3_begin_X3_headWord
theorem dX3_begin_0 : decode cX3_begin 0 = .ok (.iconst 0, 1) := by decide +kernel
theorem dX3_begin_1 : decode cX3_begin 1 = .ok (.istore_n 3, 1) := by decide +kernel
theorem dX3_begin_2 : decode cX3_begin 2 = .ok (.iload_n 3, 1) := by decide +kernel
theorem dX3_begin_3 : decode cX3_begin 3 = .ok (.iconst 4, 1) := by decide +kernel
theorem dX3_begin_4 : decode cX3_begin 4 = .ok (.if_icmp .ge 56, 3) := by decide +kernel
theorem dX3_begin_7 : decode cX3_begin 7 = .ok (.aload_n 0, 1) := by decide +kernel
theorem dX3_begin_8 : decode cX3_begin 8 = .ok (.getfield 11, 3) := by decide +kernel
theorem dX3_begin_11 : decode cX3_begin 11 = .ok (.iconst 5, 1) := by decide +kernel
theorem dX3_begin_12 : decode cX3_begin 12 = .ok (.iload_n 3, 1) := by decide +kernel
theorem dX3_begin_13 : decode cX3_begin 13 = .ok (.imul, 1) := by decide +kernel
theorem dX3_begin_14 : decode cX3_begin 14 = .ok (.getstatic 18, 3) := by decide +kernel
theorem dX3_begin_17 : decode cX3_begin 17 = .ok (.iload_n 3, 1) := by decide +kernel
theorem dX3_begin_18 : decode cX3_begin 18 = .ok (.iaload, 1) := by decide +kernel
theorem dX3_begin_19 : decode cX3_begin 19 = .ok (.iastore, 1) := by decide +kernel
theorem dX3_begin_20 : decode cX3_begin 20 = .ok (.aload_n 0, 1) := by decide +kernel
theorem dX3_begin_21 : decode cX3_begin 21 = .ok (.getfield 11, 3) := by decide +kernel
theorem dX3_begin_24 : decode cX3_begin 24 = .ok (.iconst 1, 1) := by decide +kernel
theorem dX3_begin_25 : decode cX3_begin 25 = .ok (.iload_n 3, 1) := by decide +kernel
theorem dX3_begin_26 : decode cX3_begin 26 = .ok (.iadd, 1) := by decide +kernel
theorem dX3_begin_27 : decode cX3_begin 27 = .ok (.aload_n 1, 1) := by decide +kernel
theorem dX3_begin_28 : decode cX3_begin 28 = .ok (.iconst 4, 1) := by decide +kernel
theorem dX3_begin_29 : decode cX3_begin 29 = .ok (.iload_n 3, 1) := by decide +kernel
theorem dX3_begin_30 : decode cX3_begin 30 = .ok (.imul, 1) := by decide +kernel
theorem dX3_begin_31 : decode cX3_begin 31 = .ok (.invokestatic 21, 3) := by decide +kernel
theorem dX3_begin_34 : decode cX3_begin 34 = .ok (.iastore, 1) := by decide +kernel
theorem dX3_begin_35 : decode cX3_begin 35 = .ok (.aload_n 0, 1) := by decide +kernel
theorem dX3_begin_36 : decode cX3_begin 36 = .ok (.getfield 11, 3) := by decide +kernel
theorem dX3_begin_39 : decode cX3_begin 39 = .ok (.bipush 11, 2) := by decide +kernel
theorem dX3_begin_41 : decode cX3_begin 41 = .ok (.iload_n 3, 1) := by decide +kernel
theorem dX3_begin_42 : decode cX3_begin 42 = .ok (.iadd, 1) := by decide +kernel
theorem dX3_begin_43 : decode cX3_begin 43 = .ok (.aload_n 1, 1) := by decide +kernel
theorem dX3_begin_44 : decode cX3_begin 44 = .ok (.bipush 16, 2) := by decide +kernel
theorem dX3_begin_46 : decode cX3_begin 46 = .ok (.iconst 4, 1) := by decide +kernel
theorem dX3_begin_47 : decode cX3_begin 47 = .ok (.iload_n 3, 1) := by decide +kernel
theorem dX3_begin_48 : decode cX3_begin 48 = .ok (.imul, 1) := by decide +kernel
theorem dX3_begin_49 : decode cX3_begin 49 = .ok (.iadd, 1) := by decide +kernel
theorem dX3_begin_50 : decode cX3_begin 50 = .ok (.invokestatic 21, 3) := by decide +kernel
theorem dX3_begin_53 : decode cX3_begin 53 = .ok (.iastore, 1) := by decide +kernel
theorem dX3_begin_54 : decode cX3_begin 54 = .ok (.iinc 3 1, 3) := by decide +kernel
theorem dX3_begin_57 : decode cX3_begin 57 = .ok (.goto (-55), 3) := by decide +kernel
theorem dX3_begin_60 : decode cX3_begin 60 = .ok (.aload_n 0, 1) := by decide +kernel
theorem dX3_begin_61 : decode cX3_begin 61 = .ok (.getfield 11, 3) := by decide +kernel
theorem dX3_begin_64 : decode cX3_begin 64 = .ok (.bipush 6, 2) := by decide +kernel
theorem dX3_begin_66 : decode cX3_begin 66 = .ok (.aload_n 2, 1) := by decide +kernel
theorem dX3_begin_67 : decode cX3_begin 67 = .ok (.iconst 5, 1) := by decide +kernel
theorem dX3_begin_68 : decode cX3_begin 68 = .ok (.invokestatic 25, 3) := by decide +kernel
theorem dX3_begin_71 : decode cX3_begin 71 = .ok (.iastore, 1) := by decide +kernel
theorem dX3_begin_72 : decode cX3_begin 72 = .ok (.aload_n 0, 1) := by decide +kernel
theorem dX3_begin_73 : decode cX3_begin 73 = .ok (.getfield 11, 3) := by decide +kernel
theorem dX3_begin_76 : decode cX3_begin 76 = .ok (.bipush 7, 2) := by decide +kernel
theorem dX3_begin_78 : decode cX3_begin 78 = .ok (.aload_n 2, 1) := by decide +kernel
theorem dX3_begin_79 : decode cX3_begin 79 = .ok (.bipush 9, 2) := by decide +kernel
theorem dX3_begin_81 : decode cX3_begin 81 = .ok (.invokestatic 25, 3) := by decide +kernel
theorem dX3_begin_84 : decode cX3_begin 84 = .ok (.iastore, 1) := by decide +kernel
theorem dX3_begin_85 : decode cX3_begin 85 = .ok (.aload_n 0, 1) := by decide +kernel
theorem dX3_begin_86 : decode cX3_begin 86 = .ok (.getfield 11, 3) := by decide +kernel
theorem dX3_begin_89 : decode cX3_begin 89 = .ok (.bipush 8, 2) := by decide +kernel
theorem dX3_begin_91 : decode cX3_begin 91 = .ok (.iconst 0, 1) := by decide +kernel
theorem dX3_begin_92 : decode cX3_begin 92 = .ok (.iastore, 1) := by decide +kernel
theorem dX3_begin_93 : decode cX3_begin 93 = .ok (.aload_n 0, 1) := by decide +kernel
theorem dX3_begin_94 : decode cX3_begin 94 = .ok (.getfield 11, 3) := by decide +kernel
theorem dX3_begin_97 : decode cX3_begin 97 = .ok (.bipush 9, 2) := by decide +kernel
theorem dX3_begin_99 : decode cX3_begin 99 = .ok (.iconst 0, 1) := by decide +kernel
theorem dX3_begin_100 : decode cX3_begin 100 = .ok (.iastore, 1) := by decide +kernel
theorem dX3_begin_101 : decode cX3_begin 101 = .ok (.aload_n 0, 1) := by decide +kernel
theorem dX3_begin_102 : decode cX3_begin 102 = .ok (.bipush 64, 2) := by decide +kernel
theorem dX3_begin_104 : decode cX3_begin 104 = .ok (.putfield 29, 3) := by decide +kernel
theorem dX3_begin_107 : decode cX3_begin 107 = .ok (.return_, 1) := by decide +kernel
set_option maxRecDepth 20000 in
theorem ggX3_next_X3_fillBlock : GoodIn wsX3_next wsX3_fillBlock := goodIn_r _ [8, 3, 2, 9, 10, 11, 7, 12, 13, 14, 15, 16, 17, 18, 19, 20, 21, 22, 23, 24, 25, 26] (by decide +kernel) (by decide +kernel)
set_option maxRecDepth 20000 in
theorem gX3_next_X3_fillBlock : GoodIn wsX3_next (wsV RX3 33 RX3 yX3_fillBlock wsX3_fillBlock) := goodIn_app (goodIn_of _ (by decide +kernel)) ggX3_next_X3_fillBlock
theorem dX3_next_0 : decode cX3_next 0 = .ok (.aload_n 0, 1) := by decide +kernel
theorem dX3_next_1 : decode cX3_next 1 = .ok (.getfield 29, 3) := by decide +kernel
theorem dX3_next_4 : decode cX3_next 4 = .ok (.bipush 64, 2) := by decide +kernel
theorem dX3_next_6 : decode cX3_next 6 = .ok (.if_icmp .lt 23, 3) := by decide +kernel
theorem dX3_next_9 : decode cX3_next 9 = .ok (.aload_n 0, 1) := by decide +kernel
theorem dX3_next_10 : decode cX3_next 10 = .ok (.invokevirtual 33, 3) := by decide +kernel
theorem dX3_next_13 : decode cX3_next 13 = .ok (.aload_n 0, 1) := by decide +kernel
theorem dX3_next_14 : decode cX3_next 14 = .ok (.getfield 11, 3) := by decide +kernel
theorem dX3_next_17 : decode cX3_next 17 = .ok (.bipush 8, 2) := by decide +kernel
theorem dX3_next_19 : decode cX3_next 19 = .ok (.dup2, 1) := by decide +kernel
theorem dX3_next_20 : decode cX3_next 20 = .ok (.iaload, 1) := by decide +kernel
theorem dX3_next_21 : decode cX3_next 21 = .ok (.iconst 1, 1) := by decide +kernel
theorem dX3_next_22 : decode cX3_next 22 = .ok (.iadd, 1) := by decide +kernel
theorem dX3_next_23 : decode cX3_next 23 = .ok (.iastore, 1) := by decide +kernel
theorem dX3_next_24 : decode cX3_next 24 = .ok (.aload_n 0, 1) := by decide +kernel
theorem dX3_next_25 : decode cX3_next 25 = .ok (.iconst 0, 1) := by decide +kernel
theorem dX3_next_26 : decode cX3_next 26 = .ok (.putfield 29, 3) := by decide +kernel
theorem dX3_next_29 : decode cX3_next 29 = .ok (.aload_n 0, 1) := by decide +kernel
theorem dX3_next_30 : decode cX3_next 30 = .ok (.getfield 15, 3) := by decide +kernel
theorem dX3_next_33 : decode cX3_next 33 = .ok (.aload_n 0, 1) := by decide +kernel
theorem dX3_next_34 : decode cX3_next 34 = .ok (.getfield 29, 3) := by decide +kernel
theorem dX3_next_37 : decode cX3_next 37 = .ok (.iconst 2, 1) := by decide +kernel
theorem dX3_next_38 : decode cX3_next 38 = .ok (.ishr, 1) := by decide +kernel
theorem dX3_next_39 : decode cX3_next 39 = .ok (.iaload, 1) := by decide +kernel
theorem dX3_next_40 : decode cX3_next 40 = .ok (.bipush 8, 2) := by decide +kernel
theorem dX3_next_42 : decode cX3_next 42 = .ok (.aload_n 0, 1) := by decide +kernel
theorem dX3_next_43 : decode cX3_next 43 = .ok (.getfield 29, 3) := by decide +kernel
theorem dX3_next_46 : decode cX3_next 46 = .ok (.iconst 3, 1) := by decide +kernel
theorem dX3_next_47 : decode cX3_next 47 = .ok (.iand, 1) := by decide +kernel
theorem dX3_next_48 : decode cX3_next 48 = .ok (.imul, 1) := by decide +kernel
theorem dX3_next_49 : decode cX3_next 49 = .ok (.iushr, 1) := by decide +kernel
theorem dX3_next_50 : decode cX3_next 50 = .ok (.sipush 255, 3) := by decide +kernel
theorem dX3_next_53 : decode cX3_next 53 = .ok (.iand, 1) := by decide +kernel
theorem dX3_next_54 : decode cX3_next 54 = .ok (.istore_n 1, 1) := by decide +kernel
theorem dX3_next_55 : decode cX3_next 55 = .ok (.aload_n 0, 1) := by decide +kernel
theorem dX3_next_56 : decode cX3_next 56 = .ok (.dup, 1) := by decide +kernel
theorem dX3_next_57 : decode cX3_next 57 = .ok (.getfield 29, 3) := by decide +kernel
theorem dX3_next_60 : decode cX3_next 60 = .ok (.iconst 1, 1) := by decide +kernel
theorem dX3_next_61 : decode cX3_next 61 = .ok (.iadd, 1) := by decide +kernel
theorem dX3_next_62 : decode cX3_next 62 = .ok (.putfield 29, 3) := by decide +kernel
theorem dX3_next_65 : decode cX3_next 65 = .ok (.iload_n 1, 1) := by decide +kernel
theorem dX3_next_66 : decode cX3_next 66 = .ok (.ireturn, 1) := by decide +kernel
set_option maxRecDepth 20000 in
theorem ggX3_fillBlock_X3_mixColumns : GoodIn wsX3_fillBlock wsX3_mixColumns := goodIn_r _ [7, 8, 9, 10, 6, 11, 1, 12, 13, 14, 19, 20, 21] (by decide +kernel) (by decide +kernel)
set_option maxRecDepth 20000 in
theorem gX3_fillBlock_X3_mixColumns : GoodIn wsX3_fillBlock (wsV RX3 36 RX3 yX3_mixColumns wsX3_mixColumns) := goodIn_app (goodIn_of _ (by decide +kernel)) ggX3_fillBlock_X3_mixColumns
set_option maxRecDepth 20000 in
theorem ggX3_fillBlock_X3_mixRows : GoodIn wsX3_fillBlock wsX3_mixRows := goodIn_r _ [18, 8, 9, 10, 6, 11, 1, 12, 13, 14, 19, 20, 21] (by decide +kernel) (by decide +kernel)
set_option maxRecDepth 20000 in
theorem gX3_fillBlock_X3_mixRows : GoodIn wsX3_fillBlock (wsV RX3 39 RX3 yX3_mixRows wsX3_mixRows) := goodIn_app (goodIn_of _ (by decide +kernel)) ggX3_fillBlock_X3_mixRows
theorem dX3_fillBlock_0 : decode cX3_fillBlock 0 = .ok (.iconst 0, 1) := by decide +kernel
theorem dX3_fillBlock_1 : decode cX3_fillBlock 1 = .ok (.istore_n 1, 1) := by decide +kernel
theorem dX3_fillBlock_2 : decode cX3_fillBlock 2 = .ok (.iload_n 1, 1) := by decide +kernel
theorem dX3_fillBlock_3 : decode cX3_fillBlock 3 = .ok (.bipush 16, 2) := by decide +kernel
theorem dX3_fillBlock_5 : decode cX3_fillBlock 5 = .ok (.if_icmp .ge 21, 3) := by decide +kernel
theorem dX3_fillBlock_8 : decode cX3_fillBlock 8 = .ok (.aload_n 0, 1) := by decide +kernel
theorem dX3_fillBlock_9 : decode cX3_fillBlock 9 = .ok (.getfield 15, 3) := by decide +kernel
theorem dX3_fillBlock_12 : decode cX3_fillBlock 12 = .ok (.iload_n 1, 1) := by decide +kernel
theorem dX3_fillBlock_13 : decode cX3_fillBlock 13 = .ok (.aload_n 0, 1) := by decide +kernel
theorem dX3_fillBlock_14 : decode cX3_fillBlock 14 = .ok (.getfield 11, 3) := by decide +kernel
theorem dX3_fillBlock_17 : decode cX3_fillBlock 17 = .ok (.iload_n 1, 1) := by decide +kernel
theorem dX3_fillBlock_18 : decode cX3_fillBlock 18 = .ok (.iaload, 1) := by decide +kernel
theorem dX3_fillBlock_19 : decode cX3_fillBlock 19 = .ok (.iastore, 1) := by decide +kernel
theorem dX3_fillBlock_20 : decode cX3_fillBlock 20 = .ok (.iinc 1 1, 3) := by decide +kernel
theorem dX3_fillBlock_23 : decode cX3_fillBlock 23 = .ok (.goto (-21), 3) := by decide +kernel
theorem dX3_fillBlock_26 : decode cX3_fillBlock 26 = .ok (.iconst 0, 1) := by decide +kernel
theorem dX3_fillBlock_27 : decode cX3_fillBlock 27 = .ok (.istore_n 1, 1) := by decide +kernel
theorem dX3_fillBlock_28 : decode cX3_fillBlock 28 = .ok (.iload_n 1, 1) := by decide +kernel
theorem dX3_fillBlock_29 : decode cX3_fillBlock 29 = .ok (.bipush 10, 2) := by decide +kernel
theorem dX3_fillBlock_31 : decode cX3_fillBlock 31 = .ok (.if_icmp .ge 17, 3) := by decide +kernel
theorem dX3_fillBlock_34 : decode cX3_fillBlock 34 = .ok (.aload_n 0, 1) := by decide +kernel
theorem dX3_fillBlock_35 : decode cX3_fillBlock 35 = .ok (.invokevirtual 36, 3) := by decide +kernel
theorem dX3_fillBlock_38 : decode cX3_fillBlock 38 = .ok (.aload_n 0, 1) := by decide +kernel
theorem dX3_fillBlock_39 : decode cX3_fillBlock 39 = .ok (.invokevirtual 39, 3) := by decide +kernel
theorem dX3_fillBlock_42 : decode cX3_fillBlock 42 = .ok (.iinc 1 1, 3) := by decide +kernel
theorem dX3_fillBlock_45 : decode cX3_fillBlock 45 = .ok (.goto (-17), 3) := by decide +kernel
theorem dX3_fillBlock_48 : decode cX3_fillBlock 48 = .ok (.iconst 0, 1) := by decide +kernel
theorem dX3_fillBlock_49 : decode cX3_fillBlock 49 = .ok (.istore_n 1, 1) := by decide +kernel
theorem dX3_fillBlock_50 : decode cX3_fillBlock 50 = .ok (.iload_n 1, 1) := by decide +kernel
theorem dX3_fillBlock_51 : decode cX3_fillBlock 51 = .ok (.bipush 16, 2) := by decide +kernel
theorem dX3_fillBlock_53 : decode cX3_fillBlock 53 = .ok (.if_icmp .ge 24, 3) := by decide +kernel
theorem dX3_fillBlock_56 : decode cX3_fillBlock 56 = .ok (.aload_n 0, 1) := by decide +kernel
theorem dX3_fillBlock_57 : decode cX3_fillBlock 57 = .ok (.getfield 15, 3) := by decide +kernel
theorem dX3_fillBlock_60 : decode cX3_fillBlock 60 = .ok (.iload_n 1, 1) := by decide +kernel
theorem dX3_fillBlock_61 : decode cX3_fillBlock 61 = .ok (.dup2, 1) := by decide +kernel
theorem dX3_fillBlock_62 : decode cX3_fillBlock 62 = .ok (.iaload, 1) := by decide +kernel
theorem dX3_fillBlock_63 : decode cX3_fillBlock 63 = .ok (.aload_n 0, 1) := by decide +kernel
theorem dX3_fillBlock_64 : decode cX3_fillBlock 64 = .ok (.getfield 11, 3) := by decide +kernel
theorem dX3_fillBlock_67 : decode cX3_fillBlock 67 = .ok (.iload_n 1, 1) := by decide +kernel
theorem dX3_fillBlock_68 : decode cX3_fillBlock 68 = .ok (.iaload, 1) := by decide +kernel
theorem dX3_fillBlock_69 : decode cX3_fillBlock 69 = .ok (.iadd, 1) := by decide +kernel
theorem dX3_fillBlock_70 : decode cX3_fillBlock 70 = .ok (.iastore, 1) := by decide +kernel
theorem dX3_fillBlock_71 : decode cX3_fillBlock 71 = .ok (.iinc 1 1, 3) := by decide +kernel
theorem dX3_fillBlock_74 : decode cX3_fillBlock 74 = .ok (.goto (-24), 3) := by decide +kernel
theorem dX3_fillBlock_77 : decode cX3_fillBlock 77 = .ok (.return_, 1) := by decide +kernel
set_option maxRecDepth 20000 in
theorem ggX3_mixColumns_X3_mixQuarter : GoodIn wsX3_mixColumns wsX3_mixQuarter := goodIn_r _ [5, 6, 7, 8, 4, 9, 10, 11, 12] (by decide +kernel) (by decide +kernel)
set_option maxRecDepth 20000 in
theorem gX3_mixColumns_X3_mixQuarter : GoodIn wsX3_mixColumns (wsV RX3 42 RX3 yX3_mixQuarter wsX3_mixQuarter) := goodIn_app (goodIn_of _ (by decide +kernel)) ggX3_mixColumns_X3_mixQuarter
theorem dX3_mixColumns_0 : decode cX3_mixColumns 0 = .ok (.aload_n 0, 1) := by decide +kernel
theorem dX3_mixColumns_1 : decode cX3_mixColumns 1 = .ok (.iconst 0, 1) := by decide +kernel
theorem dX3_mixColumns_2 : decode cX3_mixColumns 2 = .ok (.iconst 4, 1) := by decide +kernel
theorem dX3_mixColumns_3 : decode cX3_mixColumns 3 = .ok (.bipush 8, 2) := by decide +kernel
theorem dX3_mixColumns_5 : decode cX3_mixColumns 5 = .ok (.bipush 12, 2) := by decide +kernel
theorem dX3_mixColumns_7 : decode cX3_mixColumns 7 = .ok (.invokevirtual 42, 3) := by decide +kernel
theorem dX3_mixColumns_10 : decode cX3_mixColumns 10 = .ok (.aload_n 0, 1) := by decide +kernel
theorem dX3_mixColumns_11 : decode cX3_mixColumns 11 = .ok (.iconst 5, 1) := by decide +kernel
theorem dX3_mixColumns_12 : decode cX3_mixColumns 12 = .ok (.bipush 9, 2) := by decide +kernel
theorem dX3_mixColumns_14 : decode cX3_mixColumns 14 = .ok (.bipush 13, 2) := by decide +kernel
theorem dX3_mixColumns_16 : decode cX3_mixColumns 16 = .ok (.iconst 1, 1) := by decide +kernel
theorem dX3_mixColumns_17 : decode cX3_mixColumns 17 = .ok (.invokevirtual 42, 3) := by decide +kernel
theorem dX3_mixColumns_20 : decode cX3_mixColumns 20 = .ok (.aload_n 0, 1) := by decide +kernel
theorem dX3_mixColumns_21 : decode cX3_mixColumns 21 = .ok (.bipush 10, 2) := by decide +kernel
theorem dX3_mixColumns_23 : decode cX3_mixColumns 23 = .ok (.bipush 14, 2) := by decide +kernel
theorem dX3_mixColumns_25 : decode cX3_mixColumns 25 = .ok (.iconst 2, 1) := by decide +kernel
theorem dX3_mixColumns_26 : decode cX3_mixColumns 26 = .ok (.bipush 6, 2) := by decide +kernel
theorem dX3_mixColumns_28 : decode cX3_mixColumns 28 = .ok (.invokevirtual 42, 3) := by decide +kernel
theorem dX3_mixColumns_31 : decode cX3_mixColumns 31 = .ok (.aload_n 0, 1) := by decide +kernel
theorem dX3_mixColumns_32 : decode cX3_mixColumns 32 = .ok (.bipush 15, 2) := by decide +kernel
theorem dX3_mixColumns_34 : decode cX3_mixColumns 34 = .ok (.iconst 3, 1) := by decide +kernel
theorem dX3_mixColumns_35 : decode cX3_mixColumns 35 = .ok (.bipush 7, 2) := by decide +kernel
theorem dX3_mixColumns_37 : decode cX3_mixColumns 37 = .ok (.bipush 11, 2) := by decide +kernel
theorem dX3_mixColumns_39 : decode cX3_mixColumns 39 = .ok (.invokevirtual 42, 3) := by decide +kernel
theorem dX3_mixColumns_42 : decode cX3_mixColumns 42 = .ok (.return_, 1) := by decide +kernel
set_option maxRecDepth 20000 in
theorem ggX3_mixRows_X3_mixQuarter : GoodIn wsX3_mixRows wsX3_mixQuarter := goodIn_r _ [5, 6, 7, 8, 4, 9, 10, 11, 12] (by decide +kernel) (by decide +kernel)
set_option maxRecDepth 20000 in
theorem gX3_mixRows_X3_mixQuarter : GoodIn wsX3_mixRows (wsV RX3 42 RX3 yX3_mixQuarter wsX3_mixQuarter) := goodIn_app (goodIn_of _ (by decide +kernel)) ggX3_mixRows_X3_mixQuarter
theorem dX3_mixRows_0 : decode cX3_mixRows 0 = .ok (.aload_n 0, 1) := by decide +kernel
theorem dX3_mixRows_1 : decode cX3_mixRows 1 = .ok (.iconst 0, 1) := by decide +kernel
theorem dX3_mixRows_2 : decode cX3_mixRows 2 = .ok (.iconst 1, 1) := by decide +kernel
theorem dX3_mixRows_3 : decode cX3_mixRows 3 = .ok (.iconst 2, 1) := by decide +kernel
theorem dX3_mixRows_4 : decode cX3_mixRows 4 = .ok (.iconst 3, 1) := by decide +kernel
theorem dX3_mixRows_5 : decode cX3_mixRows 5 = .ok (.invokevirtual 42, 3) := by decide +kernel
theorem dX3_mixRows_8 : decode cX3_mixRows 8 = .ok (.aload_n 0, 1) := by decide +kernel
theorem dX3_mixRows_9 : decode cX3_mixRows 9 = .ok (.iconst 5, 1) := by decide +kernel
theorem dX3_mixRows_10 : decode cX3_mixRows 10 = .ok (.bipush 6, 2) := by decide +kernel
theorem dX3_mixRows_12 : decode cX3_mixRows 12 = .ok (.bipush 7, 2) := by decide +kernel
theorem dX3_mixRows_14 : decode cX3_mixRows 14 = .ok (.iconst 4, 1) := by decide +kernel
theorem dX3_mixRows_15 : decode cX3_mixRows 15 = .ok (.invokevirtual 42, 3) := by decide +kernel
theorem dX3_mixRows_18 : decode cX3_mixRows 18 = .ok (.aload_n 0, 1) := by decide +kernel
theorem dX3_mixRows_19 : decode cX3_mixRows 19 = .ok (.bipush 10, 2) := by decide +kernel
theorem dX3_mixRows_21 : decode cX3_mixRows 21 = .ok (.bipush 11, 2) := by decide +kernel
theorem dX3_mixRows_23 : decode cX3_mixRows 23 = .ok (.bipush 8, 2) := by decide +kernel
theorem dX3_mixRows_25 : decode cX3_mixRows 25 = .ok (.bipush 9, 2) := by decide +kernel
theorem dX3_mixRows_27 : decode cX3_mixRows 27 = .ok (.invokevirtual 42, 3) := by decide +kernel
theorem dX3_mixRows_30 : decode cX3_mixRows 30 = .ok (.aload_n 0, 1) := by decide +kernel
theorem dX3_mixRows_31 : decode cX3_mixRows 31 = .ok (.bipush 15, 2) := by decide +kernel
theorem dX3_mixRows_33 : decode cX3_mixRows 33 = .ok (.bipush 12, 2) := by decide +kernel
theorem dX3_mixRows_35 : decode cX3_mixRows 35 = .ok (.bipush 13, 2) := by decide +kernel
theorem dX3_mixRows_37 : decode cX3_mixRows 37 = .ok (.bipush 14, 2) := by decide +kernel
theorem dX3_mixRows_39 : decode cX3_mixRows 39 = .ok (.invokevirtual 42, 3) := by decide +kernel
theorem dX3_mixRows_42 : decode cX3_mixRows 42 = .ok (.return_, 1) := by decide +kernel
set_option maxRecDepth 20000 in
theorem ggX3_mixQuarter_X3_turn : GoodIn wsX3_mixQuarter wsX3_turn := goodIn_r _ [5] (by decide +kernel) (by decide +kernel)
set_option maxRecDepth 20000 in
theorem gX3_mixQuarter_X3_turn : GoodIn wsX3_mixQuarter (va_wsS RX3 46 yX3_turn wsX3_turn) := goodIn_app (goodIn_of _ (by decide +kernel)) ggX3_mixQuarter_X3_turn
theorem dX3_mixQuarter_0 : decode cX3_mixQuarter 0 = .ok (.aload_n 0, 1) := by decide +kernel
theorem dX3_mixQuarter_1 : decode cX3_mixQuarter 1 = .ok (.getfield 15, 3) := by decide +kernel
theorem dX3_mixQuarter_4 : decode cX3_mixQuarter 4 = .ok (.iload_n 2, 1) := by decide +kernel
theorem dX3_mixQuarter_5 : decode cX3_mixQuarter 5 = .ok (.dup2, 1) := by decide +kernel
theorem dX3_mixQuarter_6 : decode cX3_mixQuarter 6 = .ok (.iaload, 1) := by decide +kernel
theorem dX3_mixQuarter_7 : decode cX3_mixQuarter 7 = .ok (.aload_n 0, 1) := by decide +kernel
theorem dX3_mixQuarter_8 : decode cX3_mixQuarter 8 = .ok (.getfield 15, 3) := by decide +kernel
theorem dX3_mixQuarter_11 : decode cX3_mixQuarter 11 = .ok (.iload_n 1, 1) := by decide +kernel
theorem dX3_mixQuarter_12 : decode cX3_mixQuarter 12 = .ok (.iaload, 1) := by decide +kernel
theorem dX3_mixQuarter_13 : decode cX3_mixQuarter 13 = .ok (.aload_n 0, 1) := by decide +kernel
theorem dX3_mixQuarter_14 : decode cX3_mixQuarter 14 = .ok (.getfield 15, 3) := by decide +kernel
theorem dX3_mixQuarter_17 : decode cX3_mixQuarter 17 = .ok (.iload 4, 2) := by decide +kernel
theorem dX3_mixQuarter_19 : decode cX3_mixQuarter 19 = .ok (.iaload, 1) := by decide +kernel
theorem dX3_mixQuarter_20 : decode cX3_mixQuarter 20 = .ok (.iadd, 1) := by decide +kernel
theorem dX3_mixQuarter_21 : decode cX3_mixQuarter 21 = .ok (.bipush 7, 2) := by decide +kernel
theorem dX3_mixQuarter_23 : decode cX3_mixQuarter 23 = .ok (.invokestatic 46, 3) := by decide +kernel
theorem dX3_mixQuarter_26 : decode cX3_mixQuarter 26 = .ok (.ixor, 1) := by decide +kernel
theorem dX3_mixQuarter_27 : decode cX3_mixQuarter 27 = .ok (.iastore, 1) := by decide +kernel
theorem dX3_mixQuarter_28 : decode cX3_mixQuarter 28 = .ok (.aload_n 0, 1) := by decide +kernel
theorem dX3_mixQuarter_29 : decode cX3_mixQuarter 29 = .ok (.getfield 15, 3) := by decide +kernel
theorem dX3_mixQuarter_32 : decode cX3_mixQuarter 32 = .ok (.iload_n 3, 1) := by decide +kernel
theorem dX3_mixQuarter_33 : decode cX3_mixQuarter 33 = .ok (.dup2, 1) := by decide +kernel
theorem dX3_mixQuarter_34 : decode cX3_mixQuarter 34 = .ok (.iaload, 1) := by decide +kernel
theorem dX3_mixQuarter_35 : decode cX3_mixQuarter 35 = .ok (.aload_n 0, 1) := by decide +kernel
theorem dX3_mixQuarter_36 : decode cX3_mixQuarter 36 = .ok (.getfield 15, 3) := by decide +kernel
theorem dX3_mixQuarter_39 : decode cX3_mixQuarter 39 = .ok (.iload_n 2, 1) := by decide +kernel
theorem dX3_mixQuarter_40 : decode cX3_mixQuarter 40 = .ok (.iaload, 1) := by decide +kernel
theorem dX3_mixQuarter_41 : decode cX3_mixQuarter 41 = .ok (.aload_n 0, 1) := by decide +kernel
theorem dX3_mixQuarter_42 : decode cX3_mixQuarter 42 = .ok (.getfield 15, 3) := by decide +kernel
theorem dX3_mixQuarter_45 : decode cX3_mixQuarter 45 = .ok (.iload_n 1, 1) := by decide +kernel
theorem dX3_mixQuarter_46 : decode cX3_mixQuarter 46 = .ok (.iaload, 1) := by decide +kernel
theorem dX3_mixQuarter_47 : decode cX3_mixQuarter 47 = .ok (.iadd, 1) := by decide +kernel
theorem dX3_mixQuarter_48 : decode cX3_mixQuarter 48 = .ok (.bipush 9, 2) := by decide +kernel
theorem dX3_mixQuarter_50 : decode cX3_mixQuarter 50 = .ok (.invokestatic 46, 3) := by decide +kernel
theorem dX3_mixQuarter_53 : decode cX3_mixQuarter 53 = .ok (.ixor, 1) := by decide +kernel
theorem dX3_mixQuarter_54 : decode cX3_mixQuarter 54 = .ok (.iastore, 1) := by decide +kernel
theorem dX3_mixQuarter_55 : decode cX3_mixQuarter 55 = .ok (.aload_n 0, 1) := by decide +kernel
theorem dX3_mixQuarter_56 : decode cX3_mixQuarter 56 = .ok (.getfield 15, 3) := by decide +kernel
theorem dX3_mixQuarter_59 : decode cX3_mixQuarter 59 = .ok (.iload 4, 2) := by decide +kernel
theorem dX3_mixQuarter_61 : decode cX3_mixQuarter 61 = .ok (.dup2, 1) := by decide +kernel
theorem dX3_mixQuarter_62 : decode cX3_mixQuarter 62 = .ok (.iaload, 1) := by decide +kernel
theorem dX3_mixQuarter_63 : decode cX3_mixQuarter 63 = .ok (.aload_n 0, 1) := by decide +kernel
theorem dX3_mixQuarter_64 : decode cX3_mixQuarter 64 = .ok (.getfield 15, 3) := by decide +kernel
theorem dX3_mixQuarter_67 : decode cX3_mixQuarter 67 = .ok (.iload_n 3, 1) := by decide +kernel
theorem dX3_mixQuarter_68 : decode cX3_mixQuarter 68 = .ok (.iaload, 1) := by decide +kernel
theorem dX3_mixQuarter_69 : decode cX3_mixQuarter 69 = .ok (.aload_n 0, 1) := by decide +kernel
theorem dX3_mixQuarter_70 : decode cX3_mixQuarter 70 = .ok (.getfield 15, 3) := by decide +kernel
theorem dX3_mixQuarter_73 : decode cX3_mixQuarter 73 = .ok (.iload_n 2, 1) := by decide +kernel
theorem dX3_mixQuarter_74 : decode cX3_mixQuarter 74 = .ok (.iaload, 1) := by decide +kernel
theorem dX3_mixQuarter_75 : decode cX3_mixQuarter 75 = .ok (.iadd, 1) := by decide +kernel
theorem dX3_mixQuarter_76 : decode cX3_mixQuarter 76 = .ok (.bipush 13, 2) := by decide +kernel
theorem dX3_mixQuarter_78 : decode cX3_mixQuarter 78 = .ok (.invokestatic 46, 3) := by decide +kernel
theorem dX3_mixQuarter_81 : decode cX3_mixQuarter 81 = .ok (.ixor, 1) := by decide +kernel
theorem dX3_mixQuarter_82 : decode cX3_mixQuarter 82 = .ok (.iastore, 1) := by decide +kernel
theorem dX3_mixQuarter_83 : decode cX3_mixQuarter 83 = .ok (.aload_n 0, 1) := by decide +kernel
theorem dX3_mixQuarter_84 : decode cX3_mixQuarter 84 = .ok (.getfield 15, 3) := by decide +kernel
theorem dX3_mixQuarter_87 : decode cX3_mixQuarter 87 = .ok (.iload_n 1, 1) := by decide +kernel
theorem dX3_mixQuarter_88 : decode cX3_mixQuarter 88 = .ok (.dup2, 1) := by decide +kernel
theorem dX3_mixQuarter_89 : decode cX3_mixQuarter 89 = .ok (.iaload, 1) := by decide +kernel
theorem dX3_mixQuarter_90 : decode cX3_mixQuarter 90 = .ok (.aload_n 0, 1) := by decide +kernel
theorem dX3_mixQuarter_91 : decode cX3_mixQuarter 91 = .ok (.getfield 15, 3) := by decide +kernel
theorem dX3_mixQuarter_94 : decode cX3_mixQuarter 94 = .ok (.iload 4, 2) := by decide +kernel
theorem dX3_mixQuarter_96 : decode cX3_mixQuarter 96 = .ok (.iaload, 1) := by decide +kernel
theorem dX3_mixQuarter_97 : decode cX3_mixQuarter 97 = .ok (.aload_n 0, 1) := by decide +kernel
theorem dX3_mixQuarter_98 : decode cX3_mixQuarter 98 = .ok (.getfield 15, 3) := by decide +kernel
theorem dX3_mixQuarter_101 : decode cX3_mixQuarter 101 = .ok (.iload_n 3, 1) := by decide +kernel
theorem dX3_mixQuarter_102 : decode cX3_mixQuarter 102 = .ok (.iaload, 1) := by decide +kernel
theorem dX3_mixQuarter_103 : decode cX3_mixQuarter 103 = .ok (.iadd, 1) := by decide +kernel
theorem dX3_mixQuarter_104 : decode cX3_mixQuarter 104 = .ok (.bipush 18, 2) := by decide +kernel
theorem dX3_mixQuarter_106 : decode cX3_mixQuarter 106 = .ok (.invokestatic 46, 3) := by decide +kernel
theorem dX3_mixQuarter_109 : decode cX3_mixQuarter 109 = .ok (.ixor, 1) := by decide +kernel
theorem dX3_mixQuarter_110 : decode cX3_mixQuarter 110 = .ok (.iastore, 1) := by decide +kernel
theorem dX3_mixQuarter_111 : decode cX3_mixQuarter 111 = .ok (.return_, 1) := by decide +kernel
set_option maxRecDepth 20000 in
theorem ggX3_keyWord_X3_word : GoodIn wsX3_keyWord wsX3_word := goodIn_r _ [4] (by decide +kernel) (by decide +kernel)
set_option maxRecDepth 20000 in
theorem gX3_keyWord_X3_word : GoodIn wsX3_keyWord (va_wsS RX3 50 yX3_word wsX3_word) := goodIn_app (goodIn_of _ (by decide +kernel)) ggX3_keyWord_X3_word
theorem dX3_keyWord_0 : decode cX3_keyWord 0 = .ok (.iload_n 1, 1) := by decide +kernel
theorem dX3_keyWord_1 : decode cX3_keyWord 1 = .ok (.ifCond .lt 11, 3) := by decide +kernel
theorem dX3_keyWord_4 : decode cX3_keyWord 4 = .ok (.iload_n 1, 1) := by decide +kernel
theorem dX3_keyWord_5 : decode cX3_keyWord 5 = .ok (.iconst 3, 1) := by decide +kernel
theorem dX3_keyWord_6 : decode cX3_keyWord 6 = .ok (.iadd, 1) := by decide +kernel
theorem dX3_keyWord_7 : decode cX3_keyWord 7 = .ok (.aload_n 0, 1) := by decide +kernel
theorem dX3_keyWord_8 : decode cX3_keyWord 8 = .ok (.arraylength, 1) := by decide +kernel
theorem dX3_keyWord_9 : decode cX3_keyWord 9 = .ok (.if_icmp .lt 5, 3) := by decide +kernel
theorem dX3_keyWord_12 : decode cX3_keyWord 12 = .ok (.iconst 0, 1) := by decide +kernel
theorem dX3_keyWord_13 : decode cX3_keyWord 13 = .ok (.ireturn, 1) := by decide +kernel
theorem dX3_keyWord_14 : decode cX3_keyWord 14 = .ok (.aload_n 0, 1) := by decide +kernel
theorem dX3_keyWord_15 : decode cX3_keyWord 15 = .ok (.iload_n 1, 1) := by decide +kernel
theorem dX3_keyWord_16 : decode cX3_keyWord 16 = .ok (.iaload, 1) := by decide +kernel
theorem dX3_keyWord_17 : decode cX3_keyWord 17 = .ok (.aload_n 0, 1) := by decide +kernel
theorem dX3_keyWord_18 : decode cX3_keyWord 18 = .ok (.iload_n 1, 1) := by decide +kernel
theorem dX3_keyWord_19 : decode cX3_keyWord 19 = .ok (.iconst 1, 1) := by decide +kernel
theorem dX3_keyWord_20 : decode cX3_keyWord 20 = .ok (.iadd, 1) := by decide +kernel
theorem dX3_keyWord_21 : decode cX3_keyWord 21 = .ok (.iaload, 1) := by decide +kernel
theorem dX3_keyWord_22 : decode cX3_keyWord 22 = .ok (.aload_n 0, 1) := by decide +kernel
theorem dX3_keyWord_23 : decode cX3_keyWord 23 = .ok (.iload_n 1, 1) := by decide +kernel
theorem dX3_keyWord_24 : decode cX3_keyWord 24 = .ok (.iconst 2, 1) := by decide +kernel
theorem dX3_keyWord_25 : decode cX3_keyWord 25 = .ok (.iadd, 1) := by decide +kernel
theorem dX3_keyWord_26 : decode cX3_keyWord 26 = .ok (.iaload, 1) := by decide +kernel
theorem dX3_keyWord_27 : decode cX3_keyWord 27 = .ok (.aload_n 0, 1) := by decide +kernel
theorem dX3_keyWord_28 : decode cX3_keyWord 28 = .ok (.iload_n 1, 1) := by decide +kernel
theorem dX3_keyWord_29 : decode cX3_keyWord 29 = .ok (.iconst 3, 1) := by decide +kernel
theorem dX3_keyWord_30 : decode cX3_keyWord 30 = .ok (.iadd, 1) := by decide +kernel
theorem dX3_keyWord_31 : decode cX3_keyWord 31 = .ok (.iaload, 1) := by decide +kernel
theorem dX3_keyWord_32 : decode cX3_keyWord 32 = .ok (.invokestatic 50, 3) := by decide +kernel
theorem dX3_keyWord_35 : decode cX3_keyWord 35 = .ok (.ireturn, 1) := by decide +kernel
set_option maxRecDepth 20000 in
theorem ggX3_headWord_X0_at : GoodIn wsX3_headWord wsX0_at := goodIn_r _ [5, 6, 7, 12, 13] (by decide +kernel) (by decide +kernel)
set_option maxRecDepth 20000 in
theorem gX3_headWord_X0_at : GoodIn wsX3_headWord (wsV RX3 54 RX0 yX0_at wsX0_at) := goodIn_app (goodIn_of _ (by decide +kernel)) ggX3_headWord_X0_at
set_option maxRecDepth 20000 in
theorem ggX3_headWord_X3_word : GoodIn wsX3_headWord wsX3_word := goodIn_r _ [11] (by decide +kernel) (by decide +kernel)
set_option maxRecDepth 20000 in
theorem gX3_headWord_X3_word : GoodIn wsX3_headWord (va_wsS RX3 50 yX3_word wsX3_word) := goodIn_app (goodIn_of _ (by decide +kernel)) ggX3_headWord_X3_word
theorem dX3_headWord_0 : decode cX3_headWord 0 = .ok (.aload_n 0, 1) := by decide +kernel
theorem dX3_headWord_1 : decode cX3_headWord 1 = .ok (.iload_n 1, 1) := by decide +kernel
theorem dX3_headWord_2 : decode cX3_headWord 2 = .ok (.invokevirtual 54, 3) := by decide +kernel
theorem dX3_headWord_5 : decode cX3_headWord 5 = .ok (.aload_n 0, 1) := by decide +kernel
theorem dX3_headWord_6 : decode cX3_headWord 6 = .ok (.iload_n 1, 1) := by decide +kernel
theorem dX3_headWord_7 : decode cX3_headWord 7 = .ok (.iconst 1, 1) := by decide +kernel
theorem dX3_headWord_8 : decode cX3_headWord 8 = .ok (.iadd, 1) := by decide +kernel
theorem dX3_headWord_9 : decode cX3_headWord 9 = .ok (.invokevirtual 54, 3) := by decide +kernel
theorem dX3_headWord_12 : decode cX3_headWord 12 = .ok (.aload_n 0, 1) := by decide +kernel
theorem dX3_headWord_13 : decode cX3_headWord 13 = .ok (.iload_n 1, 1) := by decide +kernel
theorem dX3_headWord_14 : decode cX3_headWord 14 = .ok (.iconst 2, 1) := by decide +kernel
theorem dX3_headWord_15 : decode cX3_headWord 15 = .ok (.iadd, 1) := by decide +kernel
theorem dX3_headWord_16 : decode cX3_headWord 16 = .ok (.invokevirtual 54, 3) := by decide +kernel
theorem dX3_headWord_19 : decode cX3_headWord 19 = .ok (.aload_n 0, 1) := by decide +kernel
theorem dX3_headWord_20 : decode cX3_headWord 20 = .ok (.iload_n 1, 1) := by decide +kernel
theorem dX3_headWord_21 : decode cX3_headWord 21 = .ok (.iconst 3, 1) := by decide +kernel
theorem dX3_headWord_22 : decode cX3_headWord 22 = .ok (.iadd, 1) := by decide +kernel
theorem dX3_headWord_23 : decode cX3_headWord 23 = .ok (.invokevirtual 54, 3) := by decide +kernel
theorem dX3_headWord_26 : decode cX3_headWord 26 = .ok (.invokestatic 50, 3) := by decide +kernel
theorem dX3_headWord_29 : decode cX3_headWord 29 = .ok (.ireturn, 1) := by decide +kernel
theorem dX3_word_0 : decode cX3_word 0 = .ok (.iload_n 0, 1) := by decide +kernel
theorem dX3_word_1 : decode cX3_word 1 = .ok (.iload_n 1, 1) := by decide +kernel
theorem dX3_word_2 : decode cX3_word 2 = .ok (.bipush 8, 2) := by decide +kernel
theorem dX3_word_4 : decode cX3_word 4 = .ok (.ishl, 1) := by decide +kernel
theorem dX3_word_5 : decode cX3_word 5 = .ok (.ior, 1) := by decide +kernel
theorem dX3_word_6 : decode cX3_word 6 = .ok (.iload_n 2, 1) := by decide +kernel
theorem dX3_word_7 : decode cX3_word 7 = .ok (.bipush 16, 2) := by decide +kernel
theorem dX3_word_9 : decode cX3_word 9 = .ok (.ishl, 1) := by decide +kernel
theorem dX3_word_10 : decode cX3_word 10 = .ok (.ior, 1) := by decide +kernel
theorem dX3_word_11 : decode cX3_word 11 = .ok (.iload_n 3, 1) := by decide +kernel
theorem dX3_word_12 : decode cX3_word 12 = .ok (.bipush 24, 2) := by decide +kernel
theorem dX3_word_14 : decode cX3_word 14 = .ok (.ishl, 1) := by decide +kernel
theorem dX3_word_15 : decode cX3_word 15 = .ok (.ior, 1) := by decide +kernel
theorem dX3_word_16 : decode cX3_word 16 = .ok (.ireturn, 1) := by decide +kernel
theorem dX3_turn_0 : decode cX3_turn 0 = .ok (.iload_n 0, 1) := by decide +kernel
theorem dX3_turn_1 : decode cX3_turn 1 = .ok (.iload_n 1, 1) := by decide +kernel
theorem dX3_turn_2 : decode cX3_turn 2 = .ok (.ishl, 1) := by decide +kernel
theorem dX3_turn_3 : decode cX3_turn 3 = .ok (.iload_n 0, 1) := by decide +kernel
theorem dX3_turn_4 : decode cX3_turn 4 = .ok (.bipush 32, 2) := by decide +kernel
theorem dX3_turn_6 : decode cX3_turn 6 = .ok (.iload_n 1, 1) := by decide +kernel
theorem dX3_turn_7 : decode cX3_turn 7 = .ok (.isub, 1) := by decide +kernel
theorem dX3_turn_8 : decode cX3_turn 8 = .ok (.iushr, 1) := by decide +kernel
theorem dX3_turn_9 : decode cX3_turn 9 = .ok (.ior, 1) := by decide +kernel
theorem dX3_turn_10 : decode cX3_turn 10 = .ok (.ireturn, 1) := by decide +kernel
theorem dX4_init_0 : decode cX4_init 0 = .ok (.aload_n 0, 1) := by decide +kernel
theorem dX4_init_1 : decode cX4_init 1 = .ok (.invokespecial 3, 3) := by decide +kernel
theorem dX4_init_4 : decode cX4_init 4 = .ok (.aload_n 0, 1) := by decide +kernel
theorem dX4_init_5 : decode cX4_init 5 = .ok (.sipush 192, 3) := by decide +kernel
theorem dX4_init_8 : decode cX4_init 8 = .ok (.newarray .int, 2) := by decide +kernel
theorem dX4_init_10 : decode cX4_init 10 = .ok (.putfield 9, 3) := by decide +kernel
theorem dX4_init_13 : decode cX4_init 13 = .ok (.aload_n 0, 1) := by decide +kernel
theorem dX4_init_14 : decode cX4_init 14 = .ok (.bipush 64, 2) := by decide +kernel
theorem dX4_init_16 : decode cX4_init 16 = .ok (.newarray .int, 2) := by decide +kernel
theorem dX4_init_18 : decode cX4_init 18 = .ok (.putfield 13, 3) := by decide +kernel
theorem dX4_init_21 : decode cX4_init 21 = .ok (.aload_n 0, 1) := by decide +kernel
theorem dX4_init_22 : decode cX4_init 22 = .ok (.bipush 8, 2) := by decide +kernel
theorem dX4_init_24 : decode cX4_init 24 = .ok (.newarray .int, 2) := by decide +kernel
theorem dX4_init_26 : decode cX4_init 26 = .ok (.putfield 16, 3) := by decide +kernel
theorem dX4_init_29 : decode cX4_init 29 = .ok (.return_, 1) := by decide +kernel
theorem dX4_begin_0 : decode cX4_begin 0 = .ok (.aload_n 0, 1) := by decide +kernel
theorem dX4_begin_1 : decode cX4_begin 1 = .ok (.iconst 0, 1) := by decide +kernel
theorem dX4_begin_2 : decode cX4_begin 2 = .ok (.putfield 19, 3) := by decide +kernel
theorem dX4_begin_5 : decode cX4_begin 5 = .ok (.return_, 1) := by decide +kernel
theorem dX4_append_0 : decode cX4_append 0 = .ok (.aload_n 0, 1) := by decide +kernel
theorem dX4_append_1 : decode cX4_append 1 = .ok (.getfield 19, 3) := by decide +kernel
theorem dX4_append_4 : decode cX4_append 4 = .ok (.sipush 192, 3) := by decide +kernel
theorem dX4_append_7 : decode cX4_append 7 = .ok (.if_icmp .ge 23, 3) := by decide +kernel
theorem dX4_append_10 : decode cX4_append 10 = .ok (.aload_n 0, 1) := by decide +kernel
theorem dX4_append_11 : decode cX4_append 11 = .ok (.getfield 9, 3) := by decide +kernel
theorem dX4_append_14 : decode cX4_append 14 = .ok (.aload_n 0, 1) := by decide +kernel
theorem dX4_append_15 : decode cX4_append 15 = .ok (.getfield 19, 3) := by decide +kernel
theorem dX4_append_18 : decode cX4_append 18 = .ok (.iload_n 1, 1) := by decide +kernel
theorem dX4_append_19 : decode cX4_append 19 = .ok (.iastore, 1) := by decide +kernel
theorem dX4_append_20 : decode cX4_append 20 = .ok (.aload_n 0, 1) := by decide +kernel
theorem dX4_append_21 : decode cX4_append 21 = .ok (.dup, 1) := by decide +kernel
theorem dX4_append_22 : decode cX4_append 22 = .ok (.getfield 19, 3) := by decide +kernel
theorem dX4_append_25 : decode cX4_append 25 = .ok (.iconst 1, 1) := by decide +kernel
theorem dX4_append_26 : decode cX4_append 26 = .ok (.iadd, 1) := by decide +kernel
theorem dX4_append_27 : decode cX4_append 27 = .ok (.putfield 19, 3) := by decide +kernel
theorem dX4_append_30 : decode cX4_append 30 = .ok (.return_, 1) := by decide +kernel
set_option maxRecDepth 20000 in
theorem ggX4_finish_X4_pad : GoodIn wsX4_finish wsX4_pad := goodIn_r _ [8, 9, 3, 10, 11, 12, 7, 13, 14, 28, 29, 30, 31] (by decide +kernel) (by decide +kernel)
set_option maxRecDepth 20000 in
theorem gX4_finish_X4_pad : GoodIn wsX4_finish (wsV RX4 23 RX4 yX4_pad wsX4_pad) := goodIn_app (goodIn_of _ (by decide +kernel)) ggX4_finish_X4_pad
set_option maxRecDepth 20000 in
theorem ggX4_finish_X4_fillSchedule : GoodIn wsX4_finish wsX4_fillSchedule := goodIn_r _ [18, 19, 14, 20, 21, 7, 22, 28, 29, 30, 31] (by decide +kernel) (by decide +kernel)
set_option maxRecDepth 20000 in
theorem gX4_finish_X4_fillSchedule : GoodIn wsX4_finish (wsV RX4 29 RX4 yX4_fillSchedule wsX4_fillSchedule) := goodIn_app (goodIn_of _ (by decide +kernel)) ggX4_finish_X4_fillSchedule
set_option maxRecDepth 20000 in
theorem ggX4_finish_X4_mixState : GoodIn wsX4_finish wsX4_mixState := goodIn_r _ [26, 1, 27, 19, 20, 21, 7, 22, 28, 29, 30, 31] (by decide +kernel) (by decide +kernel)
set_option maxRecDepth 20000 in
theorem gX4_finish_X4_mixState : GoodIn wsX4_finish (wsV RX4 33 RX4 yX4_mixState wsX4_mixState) := goodIn_app (goodIn_of _ (by decide +kernel)) ggX4_finish_X4_mixState
theorem dX4_finish_0 : decode cX4_finish 0 = .ok (.aload_n 0, 1) := by decide +kernel
theorem dX4_finish_1 : decode cX4_finish 1 = .ok (.invokevirtual 23, 3) := by decide +kernel
theorem dX4_finish_4 : decode cX4_finish 4 = .ok (.iconst 0, 1) := by decide +kernel
theorem dX4_finish_5 : decode cX4_finish 5 = .ok (.istore_n 2, 1) := by decide +kernel
theorem dX4_finish_6 : decode cX4_finish 6 = .ok (.iload_n 2, 1) := by decide +kernel
theorem dX4_finish_7 : decode cX4_finish 7 = .ok (.bipush 8, 2) := by decide +kernel
theorem dX4_finish_9 : decode cX4_finish 9 = .ok (.if_icmp .ge 20, 3) := by decide +kernel
theorem dX4_finish_12 : decode cX4_finish 12 = .ok (.aload_n 0, 1) := by decide +kernel
theorem dX4_finish_13 : decode cX4_finish 13 = .ok (.getfield 16, 3) := by decide +kernel
theorem dX4_finish_16 : decode cX4_finish 16 = .ok (.iload_n 2, 1) := by decide +kernel
theorem dX4_finish_17 : decode cX4_finish 17 = .ok (.getstatic 26, 3) := by decide +kernel
theorem dX4_finish_20 : decode cX4_finish 20 = .ok (.iload_n 2, 1) := by decide +kernel
theorem dX4_finish_21 : decode cX4_finish 21 = .ok (.iaload, 1) := by decide +kernel
theorem dX4_finish_22 : decode cX4_finish 22 = .ok (.iastore, 1) := by decide +kernel
theorem dX4_finish_23 : decode cX4_finish 23 = .ok (.iinc 2 1, 3) := by decide +kernel
theorem dX4_finish_26 : decode cX4_finish 26 = .ok (.goto (-20), 3) := by decide +kernel
theorem dX4_finish_29 : decode cX4_finish 29 = .ok (.iconst 0, 1) := by decide +kernel
theorem dX4_finish_30 : decode cX4_finish 30 = .ok (.istore_n 2, 1) := by decide +kernel
theorem dX4_finish_31 : decode cX4_finish 31 = .ok (.iload_n 2, 1) := by decide +kernel
theorem dX4_finish_32 : decode cX4_finish 32 = .ok (.bipush 64, 2) := by decide +kernel
theorem dX4_finish_34 : decode cX4_finish 34 = .ok (.iadd, 1) := by decide +kernel
theorem dX4_finish_35 : decode cX4_finish 35 = .ok (.aload_n 0, 1) := by decide +kernel
theorem dX4_finish_36 : decode cX4_finish 36 = .ok (.getfield 19, 3) := by decide +kernel
theorem dX4_finish_39 : decode cX4_finish 39 = .ok (.if_icmp .gt 18, 3) := by decide +kernel
theorem dX4_finish_42 : decode cX4_finish 42 = .ok (.aload_n 0, 1) := by decide +kernel
theorem dX4_finish_43 : decode cX4_finish 43 = .ok (.iload_n 2, 1) := by decide +kernel
theorem dX4_finish_44 : decode cX4_finish 44 = .ok (.invokevirtual 29, 3) := by decide +kernel
theorem dX4_finish_47 : decode cX4_finish 47 = .ok (.aload_n 0, 1) := by decide +kernel
theorem dX4_finish_48 : decode cX4_finish 48 = .ok (.invokevirtual 33, 3) := by decide +kernel
theorem dX4_finish_51 : decode cX4_finish 51 = .ok (.iinc 2 64, 3) := by decide +kernel
theorem dX4_finish_54 : decode cX4_finish 54 = .ok (.goto (-23), 3) := by decide +kernel
theorem dX4_finish_57 : decode cX4_finish 57 = .ok (.iconst 0, 1) := by decide +kernel
theorem dX4_finish_58 : decode cX4_finish 58 = .ok (.istore_n 2, 1) := by decide +kernel
theorem dX4_finish_59 : decode cX4_finish 59 = .ok (.iload_n 2, 1) := by decide +kernel
theorem dX4_finish_60 : decode cX4_finish 60 = .ok (.bipush 32, 2) := by decide +kernel
theorem dX4_finish_62 : decode cX4_finish 62 = .ok (.if_icmp .ge 40, 3) := by decide +kernel
theorem dX4_finish_65 : decode cX4_finish 65 = .ok (.iload_n 2, 1) := by decide +kernel
theorem dX4_finish_66 : decode cX4_finish 66 = .ok (.aload_n 1, 1) := by decide +kernel
theorem dX4_finish_67 : decode cX4_finish 67 = .ok (.arraylength, 1) := by decide +kernel
theorem dX4_finish_68 : decode cX4_finish 68 = .ok (.if_icmp .ge 34, 3) := by decide +kernel
theorem dX4_finish_71 : decode cX4_finish 71 = .ok (.aload_n 1, 1) := by decide +kernel
theorem dX4_finish_72 : decode cX4_finish 72 = .ok (.iload_n 2, 1) := by decide +kernel
theorem dX4_finish_73 : decode cX4_finish 73 = .ok (.aload_n 0, 1) := by decide +kernel
theorem dX4_finish_74 : decode cX4_finish 74 = .ok (.getfield 16, 3) := by decide +kernel
theorem dX4_finish_77 : decode cX4_finish 77 = .ok (.iload_n 2, 1) := by decide +kernel
theorem dX4_finish_78 : decode cX4_finish 78 = .ok (.iconst 2, 1) := by decide +kernel
theorem dX4_finish_79 : decode cX4_finish 79 = .ok (.ishr, 1) := by decide +kernel
theorem dX4_finish_80 : decode cX4_finish 80 = .ok (.iaload, 1) := by decide +kernel
theorem dX4_finish_81 : decode cX4_finish 81 = .ok (.bipush 24, 2) := by decide +kernel
theorem dX4_finish_83 : decode cX4_finish 83 = .ok (.bipush 8, 2) := by decide +kernel
theorem dX4_finish_85 : decode cX4_finish 85 = .ok (.iload_n 2, 1) := by decide +kernel
theorem dX4_finish_86 : decode cX4_finish 86 = .ok (.iconst 3, 1) := by decide +kernel
theorem dX4_finish_87 : decode cX4_finish 87 = .ok (.iand, 1) := by decide +kernel
theorem dX4_finish_88 : decode cX4_finish 88 = .ok (.imul, 1) := by decide +kernel
theorem dX4_finish_89 : decode cX4_finish 89 = .ok (.isub, 1) := by decide +kernel
theorem dX4_finish_90 : decode cX4_finish 90 = .ok (.iushr, 1) := by decide +kernel
theorem dX4_finish_91 : decode cX4_finish 91 = .ok (.sipush 255, 3) := by decide +kernel
theorem dX4_finish_94 : decode cX4_finish 94 = .ok (.iand, 1) := by decide +kernel
theorem dX4_finish_95 : decode cX4_finish 95 = .ok (.iastore, 1) := by decide +kernel
theorem dX4_finish_96 : decode cX4_finish 96 = .ok (.iinc 2 1, 3) := by decide +kernel
theorem dX4_finish_99 : decode cX4_finish 99 = .ok (.goto (-40), 3) := by decide +kernel
theorem dX4_finish_102 : decode cX4_finish 102 = .ok (.return_, 1) := by decide +kernel
set_option maxRecDepth 20000 in
theorem ggX4_pad_X4_append : GoodIn wsX4_pad wsX4_append := goodIn_r _ [7, 2, 8, 9, 10, 11, 12] (by decide +kernel) (by decide +kernel)
set_option maxRecDepth 20000 in
theorem gX4_pad_X4_append : GoodIn wsX4_pad (wsV RX4 38 RX4 yX4_append wsX4_append) := goodIn_app (goodIn_of _ (by decide +kernel)) ggX4_pad_X4_append
theorem dX4_pad_0 : decode cX4_pad 0 = .ok (.ldc2_w 36, 3) := by decide +kernel
theorem dX4_pad_3 : decode cX4_pad 3 = .ok (.aload_n 0, 1) := by decide +kernel
theorem dX4_pad_4 : decode cX4_pad 4 = .ok (.getfield 19, 3) := by decide +kernel
theorem dX4_pad_7 : decode cX4_pad 7 = .ok (.i2l, 1) := by decide +kernel
theorem dX4_pad_8 : decode cX4_pad 8 = .ok (.lmul, 1) := by decide +kernel
theorem dX4_pad_9 : decode cX4_pad 9 = .ok (.lstore_n 1, 1) := by decide +kernel
theorem dX4_pad_10 : decode cX4_pad 10 = .ok (.aload_n 0, 1) := by decide +kernel
theorem dX4_pad_11 : decode cX4_pad 11 = .ok (.sipush 128, 3) := by decide +kernel
theorem dX4_pad_14 : decode cX4_pad 14 = .ok (.invokevirtual 38, 3) := by decide +kernel
theorem dX4_pad_17 : decode cX4_pad 17 = .ok (.iconst 0, 1) := by decide +kernel
theorem dX4_pad_18 : decode cX4_pad 18 = .ok (.istore_n 3, 1) := by decide +kernel
theorem dX4_pad_19 : decode cX4_pad 19 = .ok (.iload_n 3, 1) := by decide +kernel
theorem dX4_pad_20 : decode cX4_pad 20 = .ok (.bipush 64, 2) := by decide +kernel
theorem dX4_pad_22 : decode cX4_pad 22 = .ok (.if_icmp .ge 26, 3) := by decide +kernel
theorem dX4_pad_25 : decode cX4_pad 25 = .ok (.aload_n 0, 1) := by decide +kernel
theorem dX4_pad_26 : decode cX4_pad 26 = .ok (.getfield 19, 3) := by decide +kernel
theorem dX4_pad_29 : decode cX4_pad 29 = .ok (.bipush 64, 2) := by decide +kernel
theorem dX4_pad_31 : decode cX4_pad 31 = .ok (.irem, 1) := by decide +kernel
theorem dX4_pad_32 : decode cX4_pad 32 = .ok (.bipush 56, 2) := by decide +kernel
theorem dX4_pad_34 : decode cX4_pad 34 = .ok (.if_icmp .eq 14, 3) := by decide +kernel
theorem dX4_pad_37 : decode cX4_pad 37 = .ok (.aload_n 0, 1) := by decide +kernel
theorem dX4_pad_38 : decode cX4_pad 38 = .ok (.iconst 0, 1) := by decide +kernel
theorem dX4_pad_39 : decode cX4_pad 39 = .ok (.invokevirtual 38, 3) := by decide +kernel
theorem dX4_pad_42 : decode cX4_pad 42 = .ok (.iinc 3 1, 3) := by decide +kernel
theorem dX4_pad_45 : decode cX4_pad 45 = .ok (.goto (-26), 3) := by decide +kernel
theorem dX4_pad_48 : decode cX4_pad 48 = .ok (.bipush 56, 2) := by decide +kernel
theorem dX4_pad_50 : decode cX4_pad 50 = .ok (.istore_n 3, 1) := by decide +kernel
theorem dX4_pad_51 : decode cX4_pad 51 = .ok (.iload_n 3, 1) := by decide +kernel
theorem dX4_pad_52 : decode cX4_pad 52 = .ok (.ifCond .lt 21, 3) := by decide +kernel
theorem dX4_pad_55 : decode cX4_pad 55 = .ok (.aload_n 0, 1) := by decide +kernel
theorem dX4_pad_56 : decode cX4_pad 56 = .ok (.lload_n 1, 1) := by decide +kernel
theorem dX4_pad_57 : decode cX4_pad 57 = .ok (.iload_n 3, 1) := by decide +kernel
theorem dX4_pad_58 : decode cX4_pad 58 = .ok (.lushr, 1) := by decide +kernel
theorem dX4_pad_59 : decode cX4_pad 59 = .ok (.l2i, 1) := by decide +kernel
theorem dX4_pad_60 : decode cX4_pad 60 = .ok (.sipush 255, 3) := by decide +kernel
theorem dX4_pad_63 : decode cX4_pad 63 = .ok (.iand, 1) := by decide +kernel
theorem dX4_pad_64 : decode cX4_pad 64 = .ok (.invokevirtual 38, 3) := by decide +kernel
theorem dX4_pad_67 : decode cX4_pad 67 = .ok (.iinc 3 (-8), 3) := by decide +kernel
theorem dX4_pad_70 : decode cX4_pad 70 = .ok (.goto (-19), 3) := by decide +kernel
theorem dX4_pad_73 : decode cX4_pad 73 = .ok (.return_, 1) := by decide +kernel
set_option maxRecDepth 20000 in
theorem ggX4_fillSchedule_X4_turn : GoodIn wsX4_fillSchedule wsX4_turn := goodIn_r _ [6] (by decide +kernel) (by decide +kernel)
set_option maxRecDepth 20000 in
theorem gX4_fillSchedule_X4_turn : GoodIn wsX4_fillSchedule (va_wsS RX4 41 yX4_turn wsX4_turn) := goodIn_app (goodIn_of _ (by decide +kernel)) ggX4_fillSchedule_X4_turn
theorem dX4_fillSchedule_0 : decode cX4_fillSchedule 0 = .ok (.iconst 0, 1) := by decide +kernel
theorem dX4_fillSchedule_1 : decode cX4_fillSchedule 1 = .ok (.istore_n 2, 1) := by decide +kernel
theorem dX4_fillSchedule_2 : decode cX4_fillSchedule 2 = .ok (.iload_n 2, 1) := by decide +kernel
theorem dX4_fillSchedule_3 : decode cX4_fillSchedule 3 = .ok (.bipush 16, 2) := by decide +kernel
theorem dX4_fillSchedule_5 : decode cX4_fillSchedule 5 = .ok (.if_icmp .ge 63, 3) := by decide +kernel
theorem dX4_fillSchedule_8 : decode cX4_fillSchedule 8 = .ok (.iload_n 1, 1) := by decide +kernel
theorem dX4_fillSchedule_9 : decode cX4_fillSchedule 9 = .ok (.iconst 4, 1) := by decide +kernel
theorem dX4_fillSchedule_10 : decode cX4_fillSchedule 10 = .ok (.iload_n 2, 1) := by decide +kernel
theorem dX4_fillSchedule_11 : decode cX4_fillSchedule 11 = .ok (.imul, 1) := by decide +kernel
theorem dX4_fillSchedule_12 : decode cX4_fillSchedule 12 = .ok (.iadd, 1) := by decide +kernel
theorem dX4_fillSchedule_13 : decode cX4_fillSchedule 13 = .ok (.istore_n 3, 1) := by decide +kernel
theorem dX4_fillSchedule_14 : decode cX4_fillSchedule 14 = .ok (.aload_n 0, 1) := by decide +kernel
theorem dX4_fillSchedule_15 : decode cX4_fillSchedule 15 = .ok (.getfield 13, 3) := by decide +kernel
theorem dX4_fillSchedule_18 : decode cX4_fillSchedule 18 = .ok (.iload_n 2, 1) := by decide +kernel
theorem dX4_fillSchedule_19 : decode cX4_fillSchedule 19 = .ok (.aload_n 0, 1) := by decide +kernel
theorem dX4_fillSchedule_20 : decode cX4_fillSchedule 20 = .ok (.getfield 9, 3) := by decide +kernel
theorem dX4_fillSchedule_23 : decode cX4_fillSchedule 23 = .ok (.iload_n 3, 1) := by decide +kernel

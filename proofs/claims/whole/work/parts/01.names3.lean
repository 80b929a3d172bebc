theorem dX6_wireAt_1 : decode cX6_wireAt 1 = .ok (.invokestatic 97, 3) := by decide +kernel
theorem dX6_wireAt_4 : decode cX6_wireAt 4 = .ok (.ifCond .eq 16, 3) := by decide +kernel
theorem dX6_wireAt_7 : decode cX6_wireAt 7 = .ok (.aload_n 0, 1) := by decide +kernel
theorem dX6_wireAt_8 : decode cX6_wireAt 8 = .ok (.getfield 34, 3) := by decide +kernel
theorem dX6_wireAt_11 : decode cX6_wireAt 11 = .ok (.iload_n 1, 1) := by decide +kernel
theorem dX6_wireAt_12 : decode cX6_wireAt 12 = .ok (.aaload, 1) := by decide +kernel
theorem dX6_wireAt_13 : decode cX6_wireAt 13 = .ok (.iload_n 2, 1) := by decide +kernel
theorem dX6_wireAt_14 : decode cX6_wireAt 14 = .ok (.invokevirtual 111, 3) := by decide +kernel
theorem dX6_wireAt_17 : decode cX6_wireAt 17 = .ok (.goto 4, 3) := by decide +kernel
theorem dX6_wireAt_20 : decode cX6_wireAt 20 = .ok (.iconst (-1), 1) := by decide +kernel
theorem dX6_wireAt_21 : decode cX6_wireAt 21 = .ok (.ireturn, 1) := by decide +kernel
set_option maxRecDepth 20000 in
theorem ggX6_count_X6_fullSlots : GoodIn wsX6_count wsX6_fullSlots := goodIn_r _ [8, 9, 10, 11, 12, 13, 14, 15, 44, 45, 46, 47, 48, 49, 50, 51, 52, 53, 54] (by decide +kernel) (by decide +kernel)
set_option maxRecDepth 20000 in
theorem gX6_count_X6_fullSlots : GoodIn wsX6_count (wsV RX6 125 RX6 yX6_fullSlots wsX6_fullSlots) := goodIn_app (goodIn_of _ (by decide +kernel)) ggX6_count_X6_fullSlots
set_option maxRecDepth 20000 in
theorem ggX6_count_X0_size : GoodIn wsX6_count wsX0_size := goodIn_r _ [19, 15, 53, 54] (by decide +kernel) (by decide +kernel)
set_option maxRecDepth 20000 in
theorem gX6_count_X0_size : GoodIn wsX6_count (wsV RX6 80 RX0 yX0_size wsX0_size) := goodIn_app (goodIn_of _ (by decide +kernel)) ggX6_count_X0_size
set_option maxRecDepth 20000 in
theorem ggX6_count_X1_epoch : GoodIn wsX6_count wsX1_epoch := goodIn_r _ [24, 25, 55, 56, 57, 58, 59, 60, 61, 62, 63] (by decide +kernel) (by decide +kernel)
set_option maxRecDepth 20000 in
theorem gX6_count_X1_epoch : GoodIn wsX6_count (wsV RX6 122 RX1 yX1_epoch wsX1_epoch) := goodIn_app (goodIn_of _ (by decide +kernel)) ggX6_count_X1_epoch
set_option maxRecDepth 20000 in
theorem ggX6_count_X1_seenInWindow : GoodIn wsX6_count wsX1_seenInWindow := goodIn_r _ [29, 30, 31, 32, 33, 34, 35, 36, 37, 38, 39, 40, 41, 42, 43, 55, 56, 57, 58, 59, 60, 61, 62, 63, 64, 65] (by decide +kernel) (by decide +kernel)
set_option maxRecDepth 20000 in
theorem gX6_count_X1_seenInWindow : GoodIn wsX6_count (wsV RX6 128 RX1 yX1_seenInWindow wsX1_seenInWindow) := goodIn_app (goodIn_of _ (by decide +kernel)) ggX6_count_X1_seenInWindow
theorem dX6_count_0 : decode cX6_count 0 = .ok (.iload_n 1, 1) := by decide +kernel
theorem dX6_count_1 : decode cX6_count 1 = .ok (.tableswitch 87 0 5 #[39, 44, 52, 52, 75, 75], 39) := by decide +kernel
theorem dX6_count_40 : decode cX6_count 40 = .ok (.aload_n 0, 1) := by decide +kernel
theorem dX6_count_41 : decode cX6_count 41 = .ok (.invokevirtual 125, 3) := by decide +kernel
theorem dX6_count_44 : decode cX6_count 44 = .ok (.ireturn, 1) := by decide +kernel
theorem dX6_count_45 : decode cX6_count 45 = .ok (.aload_n 0, 1) := by decide +kernel
theorem dX6_count_46 : decode cX6_count 46 = .ok (.getfield 39, 3) := by decide +kernel
theorem dX6_count_49 : decode cX6_count 49 = .ok (.invokevirtual 80, 3) := by decide +kernel
theorem dX6_count_52 : decode cX6_count 52 = .ok (.ireturn, 1) := by decide +kernel
theorem dX6_count_53 : decode cX6_count 53 = .ok (.aload_n 0, 1) := by decide +kernel
theorem dX6_count_54 : decode cX6_count 54 = .ok (.getfield 58, 3) := by decide +kernel
theorem dX6_count_57 : decode cX6_count 57 = .ok (.ifCond .eq 17, 3) := by decide +kernel
theorem dX6_count_60 : decode cX6_count 60 = .ok (.aload_n 0, 1) := by decide +kernel
theorem dX6_count_61 : decode cX6_count 61 = .ok (.getfield 28, 3) := by decide +kernel
theorem dX6_count_64 : decode cX6_count 64 = .ok (.iload_n 1, 1) := by decide +kernel
theorem dX6_count_65 : decode cX6_count 65 = .ok (.iconst 2, 1) := by decide +kernel
theorem dX6_count_66 : decode cX6_count 66 = .ok (.isub, 1) := by decide +kernel
theorem dX6_count_67 : decode cX6_count 67 = .ok (.aaload, 1) := by decide +kernel
theorem dX6_count_68 : decode cX6_count 68 = .ok (.invokevirtual 122, 3) := by decide +kernel
theorem dX6_count_71 : decode cX6_count 71 = .ok (.goto 4, 3) := by decide +kernel
theorem dX6_count_74 : decode cX6_count 74 = .ok (.iconst (-1), 1) := by decide +kernel
theorem dX6_count_75 : decode cX6_count 75 = .ok (.ireturn, 1) := by decide +kernel
theorem dX6_count_76 : decode cX6_count 76 = .ok (.aload_n 0, 1) := by decide +kernel
theorem dX6_count_77 : decode cX6_count 77 = .ok (.getfield 28, 3) := by decide +kernel
theorem dX6_count_80 : decode cX6_count 80 = .ok (.iload_n 1, 1) := by decide +kernel
theorem dX6_count_81 : decode cX6_count 81 = .ok (.iconst 4, 1) := by decide +kernel
theorem dX6_count_82 : decode cX6_count 82 = .ok (.isub, 1) := by decide +kernel
theorem dX6_count_83 : decode cX6_count 83 = .ok (.aaload, 1) := by decide +kernel
theorem dX6_count_84 : decode cX6_count 84 = .ok (.invokevirtual 128, 3) := by decide +kernel
theorem dX6_count_87 : decode cX6_count 87 = .ok (.ireturn, 1) := by decide +kernel
theorem dX6_count_88 : decode cX6_count 88 = .ok (.iconst (-1), 1) := by decide +kernel
theorem dX6_count_89 : decode cX6_count 89 = .ok (.ireturn, 1) := by decide +kernel
set_option maxRecDepth 20000 in
theorem ggX6_firstEmptySlot_X0_isEmpty : GoodIn wsX6_firstEmptySlot wsX0_isEmpty := goodIn_r _ [6, 7, 17, 18] (by decide +kernel) (by decide +kernel)
set_option maxRecDepth 20000 in
theorem gX6_firstEmptySlot_X0_isEmpty : GoodIn wsX6_firstEmptySlot (wsV RX6 100 RX0 yX0_isEmpty wsX0_isEmpty) := goodIn_app (goodIn_of _ (by decide +kernel)) ggX6_firstEmptySlot_X0_isEmpty
theorem dX6_firstEmptySlot_0 : decode cX6_firstEmptySlot 0 = .ok (.iconst 0, 1) := by decide +kernel
theorem dX6_firstEmptySlot_1 : decode cX6_firstEmptySlot 1 = .ok (.istore_n 1, 1) := by decide +kernel
theorem dX6_firstEmptySlot_2 : decode cX6_firstEmptySlot 2 = .ok (.iload_n 1, 1) := by decide +kernel
theorem dX6_firstEmptySlot_3 : decode cX6_firstEmptySlot 3 = .ok (.bipush 8, 2) := by decide +kernel
theorem dX6_firstEmptySlot_5 : decode cX6_firstEmptySlot 5 = .ok (.if_icmp .ge 23, 3) := by decide +kernel
theorem dX6_firstEmptySlot_8 : decode cX6_firstEmptySlot 8 = .ok (.aload_n 0, 1) := by decide +kernel
theorem dX6_firstEmptySlot_9 : decode cX6_firstEmptySlot 9 = .ok (.getfield 34, 3) := by decide +kernel
theorem dX6_firstEmptySlot_12 : decode cX6_firstEmptySlot 12 = .ok (.iload_n 1, 1) := by decide +kernel
theorem dX6_firstEmptySlot_13 : decode cX6_firstEmptySlot 13 = .ok (.aaload, 1) := by decide +kernel
theorem dX6_firstEmptySlot_14 : decode cX6_firstEmptySlot 14 = .ok (.invokevirtual 100, 3) := by decide +kernel
theorem dX6_firstEmptySlot_17 : decode cX6_firstEmptySlot 17 = .ok (.ifCond .eq 5, 3) := by decide +kernel
theorem dX6_firstEmptySlot_20 : decode cX6_firstEmptySlot 20 = .ok (.iload_n 1, 1) := by decide +kernel
theorem dX6_firstEmptySlot_21 : decode cX6_firstEmptySlot 21 = .ok (.ireturn, 1) := by decide +kernel
theorem dX6_firstEmptySlot_22 : decode cX6_firstEmptySlot 22 = .ok (.iinc 1 1, 3) := by decide +kernel
theorem dX6_firstEmptySlot_25 : decode cX6_firstEmptySlot 25 = .ok (.goto (-23), 3) := by decide +kernel
theorem dX6_firstEmptySlot_28 : decode cX6_firstEmptySlot 28 = .ok (.iconst (-1), 1) := by decide +kernel
theorem dX6_firstEmptySlot_29 : decode cX6_firstEmptySlot 29 = .ok (.ireturn, 1) := by decide +kernel
set_option maxRecDepth 20000 in
theorem ggX6_fullSlots_X0_isEmpty : GoodIn wsX6_fullSlots wsX0_isEmpty := goodIn_r _ [6, 7, 17, 18] (by decide +kernel) (by decide +kernel)
set_option maxRecDepth 20000 in
theorem gX6_fullSlots_X0_isEmpty : GoodIn wsX6_fullSlots (wsV RX6 100 RX0 yX0_isEmpty wsX0_isEmpty) := goodIn_app (goodIn_of _ (by decide +kernel)) ggX6_fullSlots_X0_isEmpty
theorem dX6_fullSlots_0 : decode cX6_fullSlots 0 = .ok (.iconst 0, 1) := by decide +kernel
theorem dX6_fullSlots_1 : decode cX6_fullSlots 1 = .ok (.istore_n 1, 1) := by decide +kernel
theorem dX6_fullSlots_2 : decode cX6_fullSlots 2 = .ok (.iconst 0, 1) := by decide +kernel
theorem dX6_fullSlots_3 : decode cX6_fullSlots 3 = .ok (.istore_n 2, 1) := by decide +kernel
theorem dX6_fullSlots_4 : decode cX6_fullSlots 4 = .ok (.iload_n 2, 1) := by decide +kernel
theorem dX6_fullSlots_5 : decode cX6_fullSlots 5 = .ok (.bipush 8, 2) := by decide +kernel
theorem dX6_fullSlots_7 : decode cX6_fullSlots 7 = .ok (.if_icmp .ge 24, 3) := by decide +kernel
theorem dX6_fullSlots_10 : decode cX6_fullSlots 10 = .ok (.aload_n 0, 1) := by decide +kernel
theorem dX6_fullSlots_11 : decode cX6_fullSlots 11 = .ok (.getfield 34, 3) := by decide +kernel
theorem dX6_fullSlots_14 : decode cX6_fullSlots 14 = .ok (.iload_n 2, 1) := by decide +kernel
theorem dX6_fullSlots_15 : decode cX6_fullSlots 15 = .ok (.aaload, 1) := by decide +kernel
theorem dX6_fullSlots_16 : decode cX6_fullSlots 16 = .ok (.invokevirtual 100, 3) := by decide +kernel
theorem dX6_fullSlots_19 : decode cX6_fullSlots 19 = .ok (.ifCond .ne 6, 3) := by decide +kernel
theorem dX6_fullSlots_22 : decode cX6_fullSlots 22 = .ok (.iinc 1 1, 3) := by decide +kernel
theorem dX6_fullSlots_25 : decode cX6_fullSlots 25 = .ok (.iinc 2 1, 3) := by decide +kernel
theorem dX6_fullSlots_28 : decode cX6_fullSlots 28 = .ok (.goto (-24), 3) := by decide +kernel
theorem dX6_fullSlots_31 : decode cX6_fullSlots 31 = .ok (.iload_n 1, 1) := by decide +kernel
theorem dX6_fullSlots_32 : decode cX6_fullSlots 32 = .ok (.ireturn, 1) := by decide +kernel
theorem dX6_isSide_0 : decode cX6_isSide 0 = .ok (.iload_n 0, 1) := by decide +kernel
theorem dX6_isSide_1 : decode cX6_isSide 1 = .ok (.ifCond .lt 12, 3) := by decide +kernel
theorem dX6_isSide_4 : decode cX6_isSide 4 = .ok (.iload_n 0, 1) := by decide +kernel
theorem dX6_isSide_5 : decode cX6_isSide 5 = .ok (.iconst 2, 1) := by decide +kernel
theorem dX6_isSide_6 : decode cX6_isSide 6 = .ok (.if_icmp .ge 7, 3) := by decide +kernel
theorem dX6_isSide_9 : decode cX6_isSide 9 = .ok (.iconst 1, 1) := by decide +kernel
theorem dX6_isSide_10 : decode cX6_isSide 10 = .ok (.goto 4, 3) := by decide +kernel
theorem dX6_isSide_13 : decode cX6_isSide 13 = .ok (.iconst 0, 1) := by decide +kernel
theorem dX6_isSide_14 : decode cX6_isSide 14 = .ok (.ireturn, 1) := by decide +kernel
theorem dX6_isSlot_0 : decode cX6_isSlot 0 = .ok (.iload_n 0, 1) := by decide +kernel
theorem dX6_isSlot_1 : decode cX6_isSlot 1 = .ok (.ifCond .lt 13, 3) := by decide +kernel
theorem dX6_isSlot_4 : decode cX6_isSlot 4 = .ok (.iload_n 0, 1) := by decide +kernel
theorem dX6_isSlot_5 : decode cX6_isSlot 5 = .ok (.bipush 8, 2) := by decide +kernel
theorem dX6_isSlot_7 : decode cX6_isSlot 7 = .ok (.if_icmp .ge 7, 3) := by decide +kernel
theorem dX6_isSlot_10 : decode cX6_isSlot 10 = .ok (.iconst 1, 1) := by decide +kernel
theorem dX6_isSlot_11 : decode cX6_isSlot 11 = .ok (.goto 4, 3) := by decide +kernel
theorem dX6_isSlot_14 : decode cX6_isSlot 14 = .ok (.iconst 0, 1) := by decide +kernel
theorem dX6_isSlot_15 : decode cX6_isSlot 15 = .ok (.ireturn, 1) := by decide +kernel
theorem dX6_isByte_0 : decode cX6_isByte 0 = .ok (.iload_n 0, 1) := by decide +kernel
theorem dX6_isByte_1 : decode cX6_isByte 1 = .ok (.ifCond .lt 14, 3) := by decide +kernel
theorem dX6_isByte_4 : decode cX6_isByte 4 = .ok (.iload_n 0, 1) := by decide +kernel
theorem dX6_isByte_5 : decode cX6_isByte 5 = .ok (.sipush 255, 3) := by decide +kernel
theorem dX6_isByte_8 : decode cX6_isByte 8 = .ok (.if_icmp .gt 7, 3) := by decide +kernel
theorem dX6_isByte_11 : decode cX6_isByte 11 = .ok (.iconst 1, 1) := by decide +kernel
theorem dX6_isByte_12 : decode cX6_isByte 12 = .ok (.goto 4, 3) := by decide +kernel
theorem dX6_isByte_15 : decode cX6_isByte 15 = .ok (.iconst 0, 1) := by decide +kernel
theorem dX6_isByte_16 : decode cX6_isByte 16 = .ok (.ireturn, 1) := by decide +kernel
set_option maxRecDepth 20000 in
theorem ggX7_init_X7_init_ : GoodIn wsX7_init wsX7_init_ := goodIn_r _ [97, 5, 98, 16, 99, 100, 101, 102, 103, 104, 105, 106, 107, 108, 109, 110, 111, 112, 113, 114, 115, 116, 117, 118, 119, 120, 121, 122, 123, 124, 125] (by decide +kernel) (by decide +kernel)
set_option maxRecDepth 20000 in
theorem gX7_init_X7_init_ : GoodIn wsX7_init (wsV RX7 142 RX7 yX7_init_ wsX7_init_) := goodIn_app (goodIn_of _ (by decide +kernel)) ggX7_init_X7_init_
theorem dX7_init_0 : decode cX7_init 0 = .ok (.aload_n 0, 1) := by decide +kernel
theorem dX7_init_1 : decode cX7_init 1 = .ok (.invokespecial 1, 3) := by decide +kernel
theorem dX7_init_4 : decode cX7_init 4 = .ok (.aload_n 0, 1) := by decide +kernel
theorem dX7_init_5 : decode cX7_init 5 = .ok (.bipush 32, 2) := by decide +kernel
theorem dX7_init_7 : decode cX7_init 7 = .ok (.newarray .int, 2) := by decide +kernel
theorem dX7_init_9 : decode cX7_init 9 = .ok (.putfield 7, 3) := by decide +kernel
theorem dX7_init_12 : decode cX7_init 12 = .ok (.aload_n 0, 1) := by decide +kernel
theorem dX7_init_13 : decode cX7_init 13 = .ok (.bipush 64, 2) := by decide +kernel
theorem dX7_init_15 : decode cX7_init 15 = .ok (.newarray .int, 2) := by decide +kernel
theorem dX7_init_17 : decode cX7_init 17 = .ok (.putfield 13, 3) := by decide +kernel
theorem dX7_init_20 : decode cX7_init 20 = .ok (.aload_n 0, 1) := by decide +kernel
theorem dX7_init_21 : decode cX7_init 21 = .ok (.bipush 64, 2) := by decide +kernel
theorem dX7_init_23 : decode cX7_init 23 = .ok (.newarray .int, 2) := by decide +kernel
theorem dX7_init_25 : decode cX7_init 25 = .ok (.putfield 16, 3) := by decide +kernel
theorem dX7_init_28 : decode cX7_init 28 = .ok (.aload_n 0, 1) := by decide +kernel
theorem dX7_init_29 : decode cX7_init 29 = .ok (.iconst 2, 1) := by decide +kernel
theorem dX7_init_30 : decode cX7_init 30 = .ok (.newarray .int, 2) := by decide +kernel
theorem dX7_init_32 : decode cX7_init 32 = .ok (.putfield 19, 3) := by decide +kernel
theorem dX7_init_35 : decode cX7_init 35 = .ok (.aload_n 0, 1) := by decide +kernel
theorem dX7_init_36 : decode cX7_init 36 = .ok (.iconst 2, 1) := by decide +kernel
theorem dX7_init_37 : decode cX7_init 37 = .ok (.newarray .long, 2) := by decide +kernel
theorem dX7_init_39 : decode cX7_init 39 = .ok (.putfield 22, 3) := by decide +kernel
theorem dX7_init_42 : decode cX7_init 42 = .ok (.aload_n 0, 1) := by decide +kernel
theorem dX7_init_43 : decode cX7_init 43 = .ok (.iconst 2, 1) := by decide +kernel
theorem dX7_init_44 : decode cX7_init 44 = .ok (.newarray .boolean, 2) := by decide +kernel
theorem dX7_init_46 : decode cX7_init 46 = .ok (.putfield 26, 3) := by decide +kernel
theorem dX7_init_49 : decode cX7_init 49 = .ok (.aload_n 0, 1) := by decide +kernel
theorem dX7_init_50 : decode cX7_init 50 = .ok (.iconst 2, 1) := by decide +kernel
theorem dX7_init_51 : decode cX7_init 51 = .ok (.newarray .long, 2) := by decide +kernel
theorem dX7_init_53 : decode cX7_init 53 = .ok (.putfield 30, 3) := by decide +kernel
theorem dX7_init_56 : decode cX7_init 56 = .ok (.aload_n 0, 1) := by decide +kernel
theorem dX7_init_57 : decode cX7_init 57 = .ok (.sipush 128, 3) := by decide +kernel
theorem dX7_init_60 : decode cX7_init 60 = .ok (.newarray .boolean, 2) := by decide +kernel
theorem dX7_init_62 : decode cX7_init 62 = .ok (.putfield 33, 3) := by decide +kernel
theorem dX7_init_65 : decode cX7_init 65 = .ok (.aload_n 0, 1) := by decide +kernel
theorem dX7_init_66 : decode cX7_init 66 = .ok (.sipush 1024, 3) := by decide +kernel
theorem dX7_init_69 : decode cX7_init 69 = .ok (.newarray .int, 2) := by decide +kernel
theorem dX7_init_71 : decode cX7_init 71 = .ok (.putfield 36, 3) := by decide +kernel
theorem dX7_init_74 : decode cX7_init 74 = .ok (.aload_n 0, 1) := by decide +kernel
theorem dX7_init_75 : decode cX7_init 75 = .ok (.bipush 8, 2) := by decide +kernel
theorem dX7_init_77 : decode cX7_init 77 = .ok (.newarray .int, 2) := by decide +kernel
theorem dX7_init_79 : decode cX7_init 79 = .ok (.putfield 39, 3) := by decide +kernel
theorem dX7_init_82 : decode cX7_init 82 = .ok (.aload_n 0, 1) := by decide +kernel
theorem dX7_init_83 : decode cX7_init 83 = .ok (.bipush 96, 2) := by decide +kernel
theorem dX7_init_85 : decode cX7_init 85 = .ok (.newarray .int, 2) := by decide +kernel
theorem dX7_init_87 : decode cX7_init 87 = .ok (.putfield 42, 3) := by decide +kernel
theorem dX7_init_90 : decode cX7_init 90 = .ok (.aload_n 0, 1) := by decide +kernel
theorem dX7_init_91 : decode cX7_init 91 = .ok (.bipush 96, 2) := by decide +kernel
theorem dX7_init_93 : decode cX7_init 93 = .ok (.newarray .int, 2) := by decide +kernel
theorem dX7_init_95 : decode cX7_init 95 = .ok (.putfield 45, 3) := by decide +kernel
theorem dX7_init_98 : decode cX7_init 98 = .ok (.aload_n 0, 1) := by decide +kernel
theorem dX7_init_99 : decode cX7_init 99 = .ok (.bipush 8, 2) := by decide +kernel
theorem dX7_init_101 : decode cX7_init 101 = .ok (.newarray .int, 2) := by decide +kernel
theorem dX7_init_103 : decode cX7_init 103 = .ok (.putfield 48, 3) := by decide +kernel
theorem dX7_init_106 : decode cX7_init 106 = .ok (.aload_n 0, 1) := by decide +kernel
theorem dX7_init_107 : decode cX7_init 107 = .ok (.bipush 64, 2) := by decide +kernel
theorem dX7_init_109 : decode cX7_init 109 = .ok (.newarray .int, 2) := by decide +kernel
theorem dX7_init_111 : decode cX7_init 111 = .ok (.putfield 51, 3) := by decide +kernel
theorem dX7_init_114 : decode cX7_init 114 = .ok (.aload_n 0, 1) := by decide +kernel
theorem dX7_init_115 : decode cX7_init 115 = .ok (.sipush 400, 3) := by decide +kernel
theorem dX7_init_118 : decode cX7_init 118 = .ok (.newarray .int, 2) := by decide +kernel
theorem dX7_init_120 : decode cX7_init 120 = .ok (.putfield 54, 3) := by decide +kernel
theorem dX7_init_123 : decode cX7_init 123 = .ok (.aload_n 0, 1) := by decide +kernel
theorem dX7_init_124 : decode cX7_init 124 = .ok (.bipush 32, 2) := by decide +kernel
theorem dX7_init_126 : decode cX7_init 126 = .ok (.newarray .int, 2) := by decide +kernel
theorem dX7_init_128 : decode cX7_init 128 = .ok (.putfield 57, 3) := by decide +kernel
theorem dX7_init_131 : decode cX7_init 131 = .ok (.aload_n 0, 1) := by decide +kernel
theorem dX7_init_132 : decode cX7_init 132 = .ok (.bipush 32, 2) := by decide +kernel
theorem dX7_init_134 : decode cX7_init 134 = .ok (.newarray .int, 2) := by decide +kernel
theorem dX7_init_136 : decode cX7_init 136 = .ok (.putfield 60, 3) := by decide +kernel
theorem dX7_init_139 : decode cX7_init 139 = .ok (.aload_n 0, 1) := by decide +kernel
theorem dX7_init_140 : decode cX7_init 140 = .ok (.bipush 32, 2) := by decide +kernel
theorem dX7_init_142 : decode cX7_init 142 = .ok (.newarray .int, 2) := by decide +kernel
theorem dX7_init_144 : decode cX7_init 144 = .ok (.putfield 63, 3) := by decide +kernel
theorem dX7_init_147 : decode cX7_init 147 = .ok (.aload_n 0, 1) := by decide +kernel
theorem dX7_init_148 : decode cX7_init 148 = .ok (.sipush 160, 3) := by decide +kernel
theorem dX7_init_151 : decode cX7_init 151 = .ok (.newarray .int, 2) := by decide +kernel
theorem dX7_init_153 : decode cX7_init 153 = .ok (.putfield 66, 3) := by decide +kernel
theorem dX7_init_156 : decode cX7_init 156 = .ok (.aload_n 0, 1) := by decide +kernel
theorem dX7_init_157 : decode cX7_init 157 = .ok (.bipush 64, 2) := by decide +kernel
theorem dX7_init_159 : decode cX7_init 159 = .ok (.newarray .int, 2) := by decide +kernel
theorem dX7_init_161 : decode cX7_init 161 = .ok (.dup, 1) := by decide +kernel
theorem dX7_init_162 : decode cX7_init 162 = .ok (.iconst 0, 1) := by decide +kernel
theorem dX7_init_163 : decode cX7_init 163 = .ok (.ldc 69, 2) := by decide +kernel
theorem dX7_init_165 : decode cX7_init 165 = .ok (.iastore, 1) := by decide +kernel
theorem dX7_init_166 : decode cX7_init 166 = .ok (.dup, 1) := by decide +kernel
theorem dX7_init_167 : decode cX7_init 167 = .ok (.iconst 1, 1) := by decide +kernel
theorem dX7_init_168 : decode cX7_init 168 = .ok (.ldc 70, 2) := by decide +kernel
theorem dX7_init_170 : decode cX7_init 170 = .ok (.iastore, 1) := by decide +kernel
theorem dX7_init_171 : decode cX7_init 171 = .ok (.dup, 1) := by decide +kernel
theorem dX7_init_172 : decode cX7_init 172 = .ok (.iconst 2, 1) := by decide +kernel
theorem dX7_init_173 : decode cX7_init 173 = .ok (.ldc 71, 2) := by decide +kernel
theorem dX7_init_175 : decode cX7_init 175 = .ok (.iastore, 1) := by decide +kernel
theorem dX7_init_176 : decode cX7_init 176 = .ok (.dup, 1) := by decide +kernel
theorem dX7_init_177 : decode cX7_init 177 = .ok (.iconst 3, 1) := by decide +kernel
theorem dX7_init_178 : decode cX7_init 178 = .ok (.ldc 72, 2) := by decide +kernel
theorem dX7_init_180 : decode cX7_init 180 = .ok (.iastore, 1) := by decide +kernel
theorem dX7_init_181 : decode cX7_init 181 = .ok (.dup, 1) := by decide +kernel
theorem dX7_init_182 : decode cX7_init 182 = .ok (.iconst 4, 1) := by decide +kernel
theorem dX7_init_183 : decode cX7_init 183 = .ok (.ldc 73, 2) := by decide +kernel
theorem dX7_init_185 : decode cX7_init 185 = .ok (.iastore, 1) := by decide +kernel
theorem dX7_init_186 : decode cX7_init 186 = .ok (.dup, 1) := by decide +kernel
theorem dX7_init_187 : decode cX7_init 187 = .ok (.iconst 5, 1) := by decide +kernel
theorem dX7_init_188 : decode cX7_init 188 = .ok (.ldc 74, 2) := by decide +kernel
theorem dX7_init_190 : decode cX7_init 190 = .ok (.iastore, 1) := by decide +kernel
theorem dX7_init_191 : decode cX7_init 191 = .ok (.dup, 1) := by decide +kernel
theorem dX7_init_192 : decode cX7_init 192 = .ok (.bipush 6, 2) := by decide +kernel
theorem dX7_init_194 : decode cX7_init 194 = .ok (.ldc 75, 2) := by decide +kernel
theorem dX7_init_196 : decode cX7_init 196 = .ok (.iastore, 1) := by decide +kernel
theorem dX7_init_197 : decode cX7_init 197 = .ok (.dup, 1) := by decide +kernel
theorem dX7_init_198 : decode cX7_init 198 = .ok (.bipush 7, 2) := by decide +kernel
theorem dX7_init_200 : decode cX7_init 200 = .ok (.ldc 76, 2) := by decide +kernel
theorem dX7_init_202 : decode cX7_init 202 = .ok (.iastore, 1) := by decide +kernel
theorem dX7_init_203 : decode cX7_init 203 = .ok (.dup, 1) := by decide +kernel
theorem dX7_init_204 : decode cX7_init 204 = .ok (.bipush 8, 2) := by decide +kernel
theorem dX7_init_206 : decode cX7_init 206 = .ok (.ldc 77, 2) := by decide +kernel
theorem dX7_init_208 : decode cX7_init 208 = .ok (.iastore, 1) := by decide +kernel
theorem dX7_init_209 : decode cX7_init 209 = .ok (.dup, 1) := by decide +kernel
theorem dX7_init_210 : decode cX7_init 210 = .ok (.bipush 9, 2) := by decide +kernel
theorem dX7_init_212 : decode cX7_init 212 = .ok (.ldc 78, 2) := by decide +kernel
theorem dX7_init_214 : decode cX7_init 214 = .ok (.iastore, 1) := by decide +kernel
theorem dX7_init_215 : decode cX7_init 215 = .ok (.dup, 1) := by decide +kernel
theorem dX7_init_216 : decode cX7_init 216 = .ok (.bipush 10, 2) := by decide +kernel
theorem dX7_init_218 : decode cX7_init 218 = .ok (.ldc 79, 2) := by decide +kernel
theorem dX7_init_220 : decode cX7_init 220 = .ok (.iastore, 1) := by decide +kernel
theorem dX7_init_221 : decode cX7_init 221 = .ok (.dup, 1) := by decide +kernel
theorem dX7_init_222 : decode cX7_init 222 = .ok (.bipush 11, 2) := by decide +kernel
theorem dX7_init_224 : decode cX7_init 224 = .ok (.ldc 80, 2) := by decide +kernel
theorem dX7_init_226 : decode cX7_init 226 = .ok (.iastore, 1) := by decide +kernel
theorem dX7_init_227 : decode cX7_init 227 = .ok (.dup, 1) := by decide +kernel
theorem dX7_init_228 : decode cX7_init 228 = .ok (.bipush 12, 2) := by decide +kernel
theorem dX7_init_230 : decode cX7_init 230 = .ok (.ldc 81, 2) := by decide +kernel
theorem dX7_init_232 : decode cX7_init 232 = .ok (.iastore, 1) := by decide +kernel
theorem dX7_init_233 : decode cX7_init 233 = .ok (.dup, 1) := by decide +kernel
theorem dX7_init_234 : decode cX7_init 234 = .ok (.bipush 13, 2) := by decide +kernel
theorem dX7_init_236 : decode cX7_init 236 = .ok (.ldc 82, 2) := by decide +kernel
theorem dX7_init_238 : decode cX7_init 238 = .ok (.iastore, 1) := by decide +kernel
theorem dX7_init_239 : decode cX7_init 239 = .ok (.dup, 1) := by decide +kernel
theorem dX7_init_240 : decode cX7_init 240 = .ok (.bipush 14, 2) := by decide +kernel
theorem dX7_init_242 : decode cX7_init 242 = .ok (.ldc 83, 2) := by decide +kernel
theorem dX7_init_244 : decode cX7_init 244 = .ok (.iastore, 1) := by decide +kernel
theorem dX7_init_245 : decode cX7_init 245 = .ok (.dup, 1) := by decide +kernel
theorem dX7_init_246 : decode cX7_init 246 = .ok (.bipush 15, 2) := by decide +kernel
theorem dX7_init_248 : decode cX7_init 248 = .ok (.ldc 84, 2) := by decide +kernel
theorem dX7_init_250 : decode cX7_init 250 = .ok (.iastore, 1) := by decide +kernel
theorem dX7_init_251 : decode cX7_init 251 = .ok (.dup, 1) := by decide +kernel
theorem dX7_init_252 : decode cX7_init 252 = .ok (.bipush 16, 2) := by decide +kernel
theorem dX7_init_254 : decode cX7_init 254 = .ok (.ldc 85, 2) := by decide +kernel
theorem dX7_init_256 : decode cX7_init 256 = .ok (.iastore, 1) := by decide +kernel
theorem dX7_init_257 : decode cX7_init 257 = .ok (.dup, 1) := by decide +kernel
theorem dX7_init_258 : decode cX7_init 258 = .ok (.bipush 17, 2) := by decide +kernel
theorem dX7_init_260 : decode cX7_init 260 = .ok (.ldc 86, 2) := by decide +kernel
theorem dX7_init_262 : decode cX7_init 262 = .ok (.iastore, 1) := by decide +kernel
theorem dX7_init_263 : decode cX7_init 263 = .ok (.dup, 1) := by decide +kernel
theorem dX7_init_264 : decode cX7_init 264 = .ok (.bipush 18, 2) := by decide +kernel
theorem dX7_init_266 : decode cX7_init 266 = .ok (.ldc 87, 2) := by decide +kernel
theorem dX7_init_268 : decode cX7_init 268 = .ok (.iastore, 1) := by decide +kernel
theorem dX7_init_269 : decode cX7_init 269 = .ok (.dup, 1) := by decide +kernel
theorem dX7_init_270 : decode cX7_init 270 = .ok (.bipush 19, 2) := by decide +kernel
theorem dX7_init_272 : decode cX7_init 272 = .ok (.ldc 88, 2) := by decide +kernel
theorem dX7_init_274 : decode cX7_init 274 = .ok (.iastore, 1) := by decide +kernel
theorem dX7_init_275 : decode cX7_init 275 = .ok (.dup, 1) := by decide +kernel
theorem dX7_init_276 : decode cX7_init 276 = .ok (.bipush 20, 2) := by decide +kernel
theorem dX7_init_278 : decode cX7_init 278 = .ok (.ldc 89, 2) := by decide +kernel
theorem dX7_init_280 : decode cX7_init 280 = .ok (.iastore, 1) := by decide +kernel
theorem dX7_init_281 : decode cX7_init 281 = .ok (.dup, 1) := by decide +kernel
theorem dX7_init_282 : decode cX7_init 282 = .ok (.bipush 21, 2) := by decide +kernel
theorem dX7_init_284 : decode cX7_init 284 = .ok (.ldc 90, 2) := by decide +kernel
theorem dX7_init_286 : decode cX7_init 286 = .ok (.iastore, 1) := by decide +kernel
theorem dX7_init_287 : decode cX7_init 287 = .ok (.dup, 1) := by decide +kernel
theorem dX7_init_288 : decode cX7_init 288 = .ok (.bipush 22, 2) := by decide +kernel
theorem dX7_init_290 : decode cX7_init 290 = .ok (.ldc 91, 2) := by decide +kernel
theorem dX7_init_292 : decode cX7_init 292 = .ok (.iastore, 1) := by decide +kernel
theorem dX7_init_293 : decode cX7_init 293 = .ok (.dup, 1) := by decide +kernel
theorem dX7_init_294 : decode cX7_init 294 = .ok (.bipush 23, 2) := by decide +kernel
theorem dX7_init_296 : decode cX7_init 296 = .ok (.ldc 92, 2) := by decide +kernel
theorem dX7_init_298 : decode cX7_init 298 = .ok (.iastore, 1) := by decide +kernel
theorem dX7_init_299 : decode cX7_init 299 = .ok (.dup, 1) := by decide +kernel
theorem dX7_init_300 : decode cX7_init 300 = .ok (.bipush 24, 2) := by decide +kernel
theorem dX7_init_302 : decode cX7_init 302 = .ok (.ldc 93, 2) := by decide +kernel
theorem dX7_init_304 : decode cX7_init 304 = .ok (.iastore, 1) := by decide +kernel
theorem dX7_init_305 : decode cX7_init 305 = .ok (.dup, 1) := by decide +kernel
theorem dX7_init_306 : decode cX7_init 306 = .ok (.bipush 25, 2) := by decide +kernel
theorem dX7_init_308 : decode cX7_init 308 = .ok (.ldc 94, 2) := by decide +kernel
theorem dX7_init_310 : decode cX7_init 310 = .ok (.iastore, 1) := by decide +kernel
theorem dX7_init_311 : decode cX7_init 311 = .ok (.dup, 1) := by decide +kernel
theorem dX7_init_312 : decode cX7_init 312 = .ok (.bipush 26, 2) := by decide +kernel
theorem dX7_init_314 : decode cX7_init 314 = .ok (.ldc 95, 2) := by decide +kernel
theorem dX7_init_316 : decode cX7_init 316 = .ok (.iastore, 1) := by decide +kernel
theorem dX7_init_317 : decode cX7_init 317 = .ok (.dup, 1) := by decide +kernel
theorem dX7_init_318 : decode cX7_init 318 = .ok (.bipush 27, 2) := by decide +kernel
theorem dX7_init_320 : decode cX7_init 320 = .ok (.ldc 96, 2) := by decide +kernel
theorem dX7_init_322 : decode cX7_init 322 = .ok (.iastore, 1) := by decide +kernel
theorem dX7_init_323 : decode cX7_init 323 = .ok (.dup, 1) := by decide +kernel
theorem dX7_init_324 : decode cX7_init 324 = .ok (.bipush 28, 2) := by decide +kernel
theorem dX7_init_326 : decode cX7_init 326 = .ok (.ldc 97, 2) := by decide +kernel
theorem dX7_init_328 : decode cX7_init 328 = .ok (.iastore, 1) := by decide +kernel
theorem dX7_init_329 : decode cX7_init 329 = .ok (.dup, 1) := by decide +kernel
theorem dX7_init_330 : decode cX7_init 330 = .ok (.bipush 29, 2) := by decide +kernel
theorem dX7_init_332 : decode cX7_init 332 = .ok (.ldc 98, 2) := by decide +kernel
theorem dX7_init_334 : decode cX7_init 334 = .ok (.iastore, 1) := by decide +kernel
theorem dX7_init_335 : decode cX7_init 335 = .ok (.dup, 1) := by decide +kernel
theorem dX7_init_336 : decode cX7_init 336 = .ok (.bipush 30, 2) := by decide +kernel
theorem dX7_init_338 : decode cX7_init 338 = .ok (.ldc 99, 2) := by decide +kernel
theorem dX7_init_340 : decode cX7_init 340 = .ok (.iastore, 1) := by decide +kernel
theorem dX7_init_341 : decode cX7_init 341 = .ok (.dup, 1) := by decide +kernel
theorem dX7_init_342 : decode cX7_init 342 = .ok (.bipush 31, 2) := by decide +kernel
theorem dX7_init_344 : decode cX7_init 344 = .ok (.ldc 100, 2) := by decide +kernel
theorem dX7_init_346 : decode cX7_init 346 = .ok (.iastore, 1) := by decide +kernel
theorem dX7_init_347 : decode cX7_init 347 = .ok (.dup, 1) := by decide +kernel
theorem dX7_init_348 : decode cX7_init 348 = .ok (.bipush 32, 2) := by decide +kernel
theorem dX7_init_350 : decode cX7_init 350 = .ok (.ldc 101, 2) := by decide +kernel
theorem dX7_init_352 : decode cX7_init 352 = .ok (.iastore, 1) := by decide +kernel
theorem dX7_init_353 : decode cX7_init 353 = .ok (.dup, 1) := by decide +kernel
theorem dX7_init_354 : decode cX7_init 354 = .ok (.bipush 33, 2) := by decide +kernel
theorem dX7_init_356 : decode cX7_init 356 = .ok (.ldc 102, 2) := by decide +kernel
theorem dX7_init_358 : decode cX7_init 358 = .ok (.iastore, 1) := by decide +kernel
theorem dX7_init_359 : decode cX7_init 359 = .ok (.dup, 1) := by decide +kernel
theorem dX7_init_360 : decode cX7_init 360 = .ok (.bipush 34, 2) := by decide +kernel
theorem dX7_init_362 : decode cX7_init 362 = .ok (.ldc 103, 2) := by decide +kernel
theorem dX7_init_364 : decode cX7_init 364 = .ok (.iastore, 1) := by decide +kernel
theorem dX7_init_365 : decode cX7_init 365 = .ok (.dup, 1) := by decide +kernel
theorem dX7_init_366 : decode cX7_init 366 = .ok (.bipush 35, 2) := by decide +kernel
theorem dX7_init_368 : decode cX7_init 368 = .ok (.ldc 104, 2) := by decide +kernel
theorem dX7_init_370 : decode cX7_init 370 = .ok (.iastore, 1) := by decide +kernel
theorem dX7_init_371 : decode cX7_init 371 = .ok (.dup, 1) := by decide +kernel
theorem dX7_init_372 : decode cX7_init 372 = .ok (.bipush 36, 2) := by decide +kernel
theorem dX7_init_374 : decode cX7_init 374 = .ok (.ldc 105, 2) := by decide +kernel
theorem dX7_init_376 : decode cX7_init 376 = .ok (.iastore, 1) := by decide +kernel
theorem dX7_init_377 : decode cX7_init 377 = .ok (.dup, 1) := by decide +kernel
theorem dX7_init_378 : decode cX7_init 378 = .ok (.bipush 37, 2) := by decide +kernel
theorem dX7_init_380 : decode cX7_init 380 = .ok (.ldc 106, 2) := by decide +kernel
theorem dX7_init_382 : decode cX7_init 382 = .ok (.iastore, 1) := by decide +kernel
theorem dX7_init_383 : decode cX7_init 383 = .ok (.dup, 1) := by decide +kernel
theorem dX7_init_384 : decode cX7_init 384 = .ok (.bipush 38, 2) := by decide +kernel
theorem dX7_init_386 : decode cX7_init 386 = .ok (.ldc 107, 2) := by decide +kernel
theorem dX7_init_388 : decode cX7_init 388 = .ok (.iastore, 1) := by decide +kernel
theorem dX7_init_389 : decode cX7_init 389 = .ok (.dup, 1) := by decide +kernel
theorem dX7_init_390 : decode cX7_init 390 = .ok (.bipush 39, 2) := by decide +kernel
theorem dX7_init_392 : decode cX7_init 392 = .ok (.ldc 108, 2) := by decide +kernel
theorem dX7_init_394 : decode cX7_init 394 = .ok (.iastore, 1) := by decide +kernel
theorem dX7_init_395 : decode cX7_init 395 = .ok (.dup, 1) := by decide +kernel
theorem dX7_init_396 : decode cX7_init 396 = .ok (.bipush 40, 2) := by decide +kernel
theorem dX7_init_398 : decode cX7_init 398 = .ok (.ldc 109, 2) := by decide +kernel
theorem dX7_init_400 : decode cX7_init 400 = .ok (.iastore, 1) := by decide +kernel
theorem dX7_init_401 : decode cX7_init 401 = .ok (.dup, 1) := by decide +kernel
theorem dX7_init_402 : decode cX7_init 402 = .ok (.bipush 41, 2) := by decide +kernel
theorem dX7_init_404 : decode cX7_init 404 = .ok (.ldc 110, 2) := by decide +kernel
theorem dX7_init_406 : decode cX7_init 406 = .ok (.iastore, 1) := by decide +kernel
theorem dX7_init_407 : decode cX7_init 407 = .ok (.dup, 1) := by decide +kernel
theorem dX7_init_408 : decode cX7_init 408 = .ok (.bipush 42, 2) := by decide +kernel
theorem dX7_init_410 : decode cX7_init 410 = .ok (.ldc 111, 2) := by decide +kernel
theorem dX7_init_412 : decode cX7_init 412 = .ok (.iastore, 1) := by decide +kernel
theorem dX7_init_413 : decode cX7_init 413 = .ok (.dup, 1) := by decide +kernel
theorem dX7_init_414 : decode cX7_init 414 = .ok (.bipush 43, 2) := by decide +kernel
theorem dX7_init_416 : decode cX7_init 416 = .ok (.ldc 112, 2) := by decide +kernel
theorem dX7_init_418 : decode cX7_init 418 = .ok (.iastore, 1) := by decide +kernel
theorem dX7_init_419 : decode cX7_init 419 = .ok (.dup, 1) := by decide +kernel
theorem dX7_init_420 : decode cX7_init 420 = .ok (.bipush 44, 2) := by decide +kernel
theorem dX7_init_422 : decode cX7_init 422 = .ok (.ldc 113, 2) := by decide +kernel
theorem dX7_init_424 : decode cX7_init 424 = .ok (.iastore, 1) := by decide +kernel
theorem dX7_init_425 : decode cX7_init 425 = .ok (.dup, 1) := by decide +kernel
theorem dX7_init_426 : decode cX7_init 426 = .ok (.bipush 45, 2) := by decide +kernel
theorem dX7_init_428 : decode cX7_init 428 = .ok (.ldc 114, 2) := by decide +kernel
theorem dX7_init_430 : decode cX7_init 430 = .ok (.iastore, 1) := by decide +kernel
theorem dX7_init_431 : decode cX7_init 431 = .ok (.dup, 1) := by decide +kernel
theorem dX7_init_432 : decode cX7_init 432 = .ok (.bipush 46, 2) := by decide +kernel
theorem dX7_init_434 : decode cX7_init 434 = .ok (.ldc 115, 2) := by decide +kernel
theorem dX7_init_436 : decode cX7_init 436 = .ok (.iastore, 1) := by decide +kernel
theorem dX7_init_437 : decode cX7_init 437 = .ok (.dup, 1) := by decide +kernel
theorem dX7_init_438 : decode cX7_init 438 = .ok (.bipush 47, 2) := by decide +kernel
theorem dX7_init_440 : decode cX7_init 440 = .ok (.ldc 116, 2) := by decide +kernel
theorem dX7_init_442 : decode cX7_init 442 = .ok (.iastore, 1) := by decide +kernel
theorem dX7_init_443 : decode cX7_init 443 = .ok (.dup, 1) := by decide +kernel
theorem dX7_init_444 : decode cX7_init 444 = .ok (.bipush 48, 2) := by decide +kernel
theorem dX7_init_446 : decode cX7_init 446 = .ok (.ldc 117, 2) := by decide +kernel
theorem dX7_init_448 : decode cX7_init 448 = .ok (.iastore, 1) := by decide +kernel
theorem dX7_init_449 : decode cX7_init 449 = .ok (.dup, 1) := by decide +kernel
theorem dX7_init_450 : decode cX7_init 450 = .ok (.bipush 49, 2) := by decide +kernel
theorem dX7_init_452 : decode cX7_init 452 = .ok (.ldc 118, 2) := by decide +kernel
theorem dX7_init_454 : decode cX7_init 454 = .ok (.iastore, 1) := by decide +kernel
theorem dX7_init_455 : decode cX7_init 455 = .ok (.dup, 1) := by decide +kernel
theorem dX7_init_456 : decode cX7_init 456 = .ok (.bipush 50, 2) := by decide +kernel
theorem dX7_init_458 : decode cX7_init 458 = .ok (.ldc 119, 2) := by decide +kernel
theorem dX7_init_460 : decode cX7_init 460 = .ok (.iastore, 1) := by decide +kernel
theorem dX7_init_461 : decode cX7_init 461 = .ok (.dup, 1) := by decide +kernel
theorem dX7_init_462 : decode cX7_init 462 = .ok (.bipush 51, 2) := by decide +kernel
theorem dX7_init_464 : decode cX7_init 464 = .ok (.ldc 120, 2) := by decide +kernel
theorem dX7_init_466 : decode cX7_init 466 = .ok (.iastore, 1) := by decide +kernel
theorem dX7_init_467 : decode cX7_init 467 = .ok (.dup, 1) := by decide +kernel
theorem dX7_init_468 : decode cX7_init 468 = .ok (.bipush 52, 2) := by decide +kernel
theorem dX7_init_470 : decode cX7_init 470 = .ok (.ldc 121, 2) := by decide +kernel
theorem dX7_init_472 : decode cX7_init 472 = .ok (.iastore, 1) := by decide +kernel
theorem dX7_init_473 : decode cX7_init 473 = .ok (.dup, 1) := by decide +kernel
theorem dX7_init_474 : decode cX7_init 474 = .ok (.bipush 53, 2) := by decide +kernel
theorem dX7_init_476 : decode cX7_init 476 = .ok (.ldc 122, 2) := by decide +kernel
theorem dX7_init_478 : decode cX7_init 478 = .ok (.iastore, 1) := by decide +kernel
theorem dX7_init_479 : decode cX7_init 479 = .ok (.dup, 1) := by decide +kernel
theorem dX7_init_480 : decode cX7_init 480 = .ok (.bipush 54, 2) := by decide +kernel
theorem dX7_init_482 : decode cX7_init 482 = .ok (.ldc 123, 2) := by decide +kernel
theorem dX7_init_484 : decode cX7_init 484 = .ok (.iastore, 1) := by decide +kernel
theorem dX7_init_485 : decode cX7_init 485 = .ok (.dup, 1) := by decide +kernel
theorem dX7_init_486 : decode cX7_init 486 = .ok (.bipush 55, 2) := by decide +kernel
theorem dX7_init_488 : decode cX7_init 488 = .ok (.ldc 124, 2) := by decide +kernel
theorem dX7_init_490 : decode cX7_init 490 = .ok (.iastore, 1) := by decide +kernel
theorem dX7_init_491 : decode cX7_init 491 = .ok (.dup, 1) := by decide +kernel
theorem dX7_init_492 : decode cX7_init 492 = .ok (.bipush 56, 2) := by decide +kernel
theorem dX7_init_494 : decode cX7_init 494 = .ok (.ldc 125, 2) := by decide +kernel
theorem dX7_init_496 : decode cX7_init 496 = .ok (.iastore, 1) := by decide +kernel
theorem dX7_init_497 : decode cX7_init 497 = .ok (.dup, 1) := by decide +kernel
theorem dX7_init_498 : decode cX7_init 498 = .ok (.bipush 57, 2) := by decide +kernel
theorem dX7_init_500 : decode cX7_init 500 = .ok (.ldc 126, 2) := by decide +kernel
theorem dX7_init_502 : decode cX7_init 502 = .ok (.iastore, 1) := by decide +kernel
theorem dX7_init_503 : decode cX7_init 503 = .ok (.dup, 1) := by decide +kernel
theorem dX7_init_504 : decode cX7_init 504 = .ok (.bipush 58, 2) := by decide +kernel
theorem dX7_init_506 : decode cX7_init 506 = .ok (.ldc 127, 2) := by decide +kernel
theorem dX7_init_508 : decode cX7_init 508 = .ok (.iastore, 1) := by decide +kernel
theorem dX7_init_509 : decode cX7_init 509 = .ok (.dup, 1) := by decide +kernel
theorem dX7_init_510 : decode cX7_init 510 = .ok (.bipush 59, 2) := by decide +kernel
theorem dX7_init_512 : decode cX7_init 512 = .ok (.ldc 128, 2) := by decide +kernel
theorem dX7_init_514 : decode cX7_init 514 = .ok (.iastore, 1) := by decide +kernel
theorem dX7_init_515 : decode cX7_init 515 = .ok (.dup, 1) := by decide +kernel
theorem dX7_init_516 : decode cX7_init 516 = .ok (.bipush 60, 2) := by decide +kernel
theorem dX7_init_518 : decode cX7_init 518 = .ok (.ldc 129, 2) := by decide +kernel
theorem dX7_init_520 : decode cX7_init 520 = .ok (.iastore, 1) := by decide +kernel
theorem dX7_init_521 : decode cX7_init 521 = .ok (.dup, 1) := by decide +kernel
theorem dX7_init_522 : decode cX7_init 522 = .ok (.bipush 61, 2) := by decide +kernel
theorem dX7_init_524 : decode cX7_init 524 = .ok (.ldc 130, 2) := by decide +kernel
theorem dX7_init_526 : decode cX7_init 526 = .ok (.iastore, 1) := by decide +kernel
theorem dX7_init_527 : decode cX7_init 527 = .ok (.dup, 1) := by decide +kernel
theorem dX7_init_528 : decode cX7_init 528 = .ok (.bipush 62, 2) := by decide +kernel
theorem dX7_init_530 : decode cX7_init 530 = .ok (.ldc 131, 2) := by decide +kernel
theorem dX7_init_532 : decode cX7_init 532 = .ok (.iastore, 1) := by decide +kernel
theorem dX7_init_533 : decode cX7_init 533 = .ok (.dup, 1) := by decide +kernel
theorem dX7_init_534 : decode cX7_init 534 = .ok (.bipush 63, 2) := by decide +kernel
theorem dX7_init_536 : decode cX7_init 536 = .ok (.ldc 132, 2) := by decide +kernel
theorem dX7_init_538 : decode cX7_init 538 = .ok (.iastore, 1) := by decide +kernel
theorem dX7_init_539 : decode cX7_init 539 = .ok (.putfield 133, 3) := by decide +kernel
theorem dX7_init_542 : decode cX7_init 542 = .ok (.aload_n 0, 1) := by decide +kernel
theorem dX7_init_543 : decode cX7_init 543 = .ok (.bipush 16, 2) := by decide +kernel
theorem dX7_init_545 : decode cX7_init 545 = .ok (.newarray .int, 2) := by decide +kernel
theorem dX7_init_547 : decode cX7_init 547 = .ok (.putfield 136, 3) := by decide +kernel
theorem dX7_init_550 : decode cX7_init 550 = .ok (.aload_n 0, 1) := by decide +kernel
theorem dX7_init_551 : decode cX7_init 551 = .ok (.bipush 16, 2) := by decide +kernel
theorem dX7_init_553 : decode cX7_init 553 = .ok (.newarray .int, 2) := by decide +kernel
theorem dX7_init_555 : decode cX7_init 555 = .ok (.putfield 139, 3) := by decide +kernel
theorem dX7_init_558 : decode cX7_init 558 = .ok (.aload_n 0, 1) := by decide +kernel
theorem dX7_init_559 : decode cX7_init 559 = .ok (.invokevirtual 142, 3) := by decide +kernel
theorem dX7_init_562 : decode cX7_init 562 = .ok (.return_, 1) := by decide +kernel
theorem dX7_init__0 : decode cX7_init_ 0 = .ok (.iconst 0, 1) := by decide +kernel
theorem dX7_init__1 : decode cX7_init_ 1 = .ok (.istore_n 1, 1) := by decide +kernel
theorem dX7_init__2 : decode cX7_init_ 2 = .ok (.iload_n 1, 1) := by decide +kernel
theorem dX7_init__3 : decode cX7_init_ 3 = .ok (.bipush 32, 2) := by decide +kernel
theorem dX7_init__5 : decode cX7_init_ 5 = .ok (.if_icmp .ge 16, 3) := by decide +kernel
theorem dX7_init__8 : decode cX7_init_ 8 = .ok (.aload_n 0, 1) := by decide +kernel
theorem dX7_init__9 : decode cX7_init_ 9 = .ok (.getfield 7, 3) := by decide +kernel
theorem dX7_init__12 : decode cX7_init_ 12 = .ok (.iload_n 1, 1) := by decide +kernel
theorem dX7_init__13 : decode cX7_init_ 13 = .ok (.iconst 0, 1) := by decide +kernel
theorem dX7_init__14 : decode cX7_init_ 14 = .ok (.iastore, 1) := by decide +kernel
theorem dX7_init__15 : decode cX7_init_ 15 = .ok (.iinc 1 1, 3) := by decide +kernel
theorem dX7_init__18 : decode cX7_init_ 18 = .ok (.goto (-16), 3) := by decide +kernel
theorem dX7_init__21 : decode cX7_init_ 21 = .ok (.aload_n 0, 1) := by decide +kernel
theorem dX7_init__22 : decode cX7_init_ 22 = .ok (.iconst 0, 1) := by decide +kernel
theorem dX7_init__23 : decode cX7_init_ 23 = .ok (.putfield 145, 3) := by decide +kernel
theorem dX7_init__26 : decode cX7_init_ 26 = .ok (.iconst 0, 1) := by decide +kernel
theorem dX7_init__27 : decode cX7_init_ 27 = .ok (.istore_n 1, 1) := by decide +kernel
theorem dX7_init__28 : decode cX7_init_ 28 = .ok (.iload_n 1, 1) := by decide +kernel
theorem dX7_init__29 : decode cX7_init_ 29 = .ok (.bipush 8, 2) := by decide +kernel
theorem dX7_init__31 : decode cX7_init_ 31 = .ok (.if_icmp .ge 16, 3) := by decide +kernel
theorem dX7_init__34 : decode cX7_init_ 34 = .ok (.aload_n 0, 1) := by decide +kernel
theorem dX7_init__35 : decode cX7_init_ 35 = .ok (.getfield 39, 3) := by decide +kernel
theorem dX7_init__38 : decode cX7_init_ 38 = .ok (.iload_n 1, 1) := by decide +kernel
theorem dX7_init__39 : decode cX7_init_ 39 = .ok (.iconst 0, 1) := by decide +kernel
theorem dX7_init__40 : decode cX7_init_ 40 = .ok (.iastore, 1) := by decide +kernel
theorem dX7_init__41 : decode cX7_init_ 41 = .ok (.iinc 1 1, 3) := by decide +kernel
theorem dX7_init__44 : decode cX7_init_ 44 = .ok (.goto (-16), 3) := by decide +kernel
theorem dX7_init__47 : decode cX7_init_ 47 = .ok (.aload_n 0, 1) := by decide +kernel
theorem dX7_init__48 : decode cX7_init_ 48 = .ok (.iconst 0, 1) := by decide +kernel
theorem dX7_init__49 : decode cX7_init_ 49 = .ok (.putfield 149, 3) := by decide +kernel
theorem dX7_init__52 : decode cX7_init_ 52 = .ok (.aload_n 0, 1) := by decide +kernel
theorem dX7_init__53 : decode cX7_init_ 53 = .ok (.iconst 0, 1) := by decide +kernel
theorem dX7_init__54 : decode cX7_init_ 54 = .ok (.putfield 153, 3) := by decide +kernel
theorem dX7_init__57 : decode cX7_init_ 57 = .ok (.return_, 1) := by decide +kernel
theorem dX7_turned_0 : decode cX7_turned 0 = .ok (.iload_n 0, 1) := by decide +kernel
theorem dX7_turned_1 : decode cX7_turned 1 = .ok (.iload_n 1, 1) := by decide +kernel
theorem dX7_turned_2 : decode cX7_turned 2 = .ok (.iushr, 1) := by decide +kernel
theorem dX7_turned_3 : decode cX7_turned 3 = .ok (.iload_n 0, 1) := by decide +kernel
theorem dX7_turned_4 : decode cX7_turned 4 = .ok (.bipush 32, 2) := by decide +kernel
theorem dX7_turned_6 : decode cX7_turned 6 = .ok (.iload_n 1, 1) := by decide +kernel
theorem dX7_turned_7 : decode cX7_turned 7 = .ok (.isub, 1) := by decide +kernel
theorem dX7_turned_8 : decode cX7_turned 8 = .ok (.ishl, 1) := by decide +kernel
theorem dX7_turned_9 : decode cX7_turned 9 = .ok (.ior, 1) := by decide +kernel
theorem dX7_turned_10 : decode cX7_turned 10 = .ok (.ireturn, 1) := by decide +kernel
set_option maxRecDepth 20000 in
theorem ggX7_block_X7_turned : GoodIn wsX7_block wsX7_turned := goodIn_r _ [8] (by decide +kernel) (by decide +kernel)
set_option maxRecDepth 20000 in
theorem gX7_block_X7_turned : GoodIn wsX7_block (va_wsS RX7 156 yX7_turned wsX7_turned) := goodIn_app (goodIn_of _ (by decide +kernel)) ggX7_block_X7_turned
theorem dX7_block_0 : decode cX7_block 0 = .ok (.iconst 0, 1) := by decide +kernel
theorem dX7_block_1 : decode cX7_block 1 = .ok (.istore_n 2, 1) := by decide +kernel
theorem dX7_block_2 : decode cX7_block 2 = .ok (.iload_n 2, 1) := by decide +kernel
theorem dX7_block_3 : decode cX7_block 3 = .ok (.bipush 16, 2) := by decide +kernel
theorem dX7_block_5 : decode cX7_block 5 = .ok (.if_icmp .ge 63, 3) := by decide +kernel
theorem dX7_block_8 : decode cX7_block 8 = .ok (.iload_n 1, 1) := by decide +kernel
theorem dX7_block_9 : decode cX7_block 9 = .ok (.iconst 4, 1) := by decide +kernel
theorem dX7_block_10 : decode cX7_block 10 = .ok (.iload_n 2, 1) := by decide +kernel
theorem dX7_block_11 : decode cX7_block 11 = .ok (.imul, 1) := by decide +kernel
theorem dX7_block_12 : decode cX7_block 12 = .ok (.iadd, 1) := by decide +kernel
theorem dX7_block_13 : decode cX7_block 13 = .ok (.istore_n 3, 1) := by decide +kernel
theorem dX7_block_14 : decode cX7_block 14 = .ok (.aload_n 0, 1) := by decide +kernel
theorem dX7_block_15 : decode cX7_block 15 = .ok (.getfield 51, 3) := by decide +kernel
theorem dX7_block_18 : decode cX7_block 18 = .ok (.iload_n 2, 1) := by decide +kernel
theorem dX7_block_19 : decode cX7_block 19 = .ok (.aload_n 0, 1) := by decide +kernel
theorem dX7_block_20 : decode cX7_block 20 = .ok (.getfield 54, 3) := by decide +kernel
theorem dX7_block_23 : decode cX7_block 23 = .ok (.iload_n 3, 1) := by decide +kernel
theorem dX7_block_24 : decode cX7_block 24 = .ok (.iaload, 1) := by decide +kernel
theorem dX7_block_25 : decode cX7_block 25 = .ok (.bipush 24, 2) := by decide +kernel
theorem dX7_block_27 : decode cX7_block 27 = .ok (.ishl, 1) := by decide +kernel
theorem dX7_block_28 : decode cX7_block 28 = .ok (.aload_n 0, 1) := by decide +kernel
theorem dX7_block_29 : decode cX7_block 29 = .ok (.getfield 54, 3) := by decide +kernel
theorem dX7_block_32 : decode cX7_block 32 = .ok (.iload_n 3, 1) := by decide +kernel
theorem dX7_block_33 : decode cX7_block 33 = .ok (.iconst 1, 1) := by decide +kernel
theorem dX7_block_34 : decode cX7_block 34 = .ok (.iadd, 1) := by decide +kernel
theorem dX7_block_35 : decode cX7_block 35 = .ok (.iaload, 1) := by decide +kernel
theorem dX7_block_36 : decode cX7_block 36 = .ok (.bipush 16, 2) := by decide +kernel
theorem dX7_block_38 : decode cX7_block 38 = .ok (.ishl, 1) := by decide +kernel
theorem dX7_block_39 : decode cX7_block 39 = .ok (.ior, 1) := by decide +kernel
theorem dX7_block_40 : decode cX7_block 40 = .ok (.aload_n 0, 1) := by decide +kernel
theorem dX7_block_41 : decode cX7_block 41 = .ok (.getfield 54, 3) := by decide +kernel
theorem dX7_block_44 : decode cX7_block 44 = .ok (.iload_n 3, 1) := by decide +kernel
theorem dX7_block_45 : decode cX7_block 45 = .ok (.iconst 2, 1) := by decide +kernel
theorem dX7_block_46 : decode cX7_block 46 = .ok (.iadd, 1) := by decide +kernel
theorem dX7_block_47 : decode cX7_block 47 = .ok (.iaload, 1) := by decide +kernel
theorem dX7_block_48 : decode cX7_block 48 = .ok (.bipush 8, 2) := by decide +kernel
theorem dX7_block_50 : decode cX7_block 50 = .ok (.ishl, 1) := by decide +kernel
theorem dX7_block_51 : decode cX7_block 51 = .ok (.ior, 1) := by decide +kernel
theorem dX7_block_52 : decode cX7_block 52 = .ok (.aload_n 0, 1) := by decide +kernel
theorem dX7_block_53 : decode cX7_block 53 = .ok (.getfield 54, 3) := by decide +kernel
theorem dX7_block_56 : decode cX7_block 56 = .ok (.iload_n 3, 1) := by decide +kernel
theorem dX7_block_57 : decode cX7_block 57 = .ok (.iconst 3, 1) := by decide +kernel
theorem dX7_block_58 : decode cX7_block 58 = .ok (.iadd, 1) := by decide +kernel
theorem dX7_block_59 : decode cX7_block 59 = .ok (.iaload, 1) := by decide +kernel
theorem dX7_block_60 : decode cX7_block 60 = .ok (.ior, 1) := by decide +kernel
theorem dX7_block_61 : decode cX7_block 61 = .ok (.iastore, 1) := by decide +kernel
theorem dX7_block_62 : decode cX7_block 62 = .ok (.iinc 2 1, 3) := by decide +kernel
theorem dX7_block_65 : decode cX7_block 65 = .ok (.goto (-63), 3) := by decide +kernel
theorem dX7_block_68 : decode cX7_block 68 = .ok (.bipush 16, 2) := by decide +kernel
theorem dX7_block_70 : decode cX7_block 70 = .ok (.istore_n 2, 1) := by decide +kernel
theorem dX7_block_71 : decode cX7_block 71 = .ok (.iload_n 2, 1) := by decide +kernel
theorem dX7_block_72 : decode cX7_block 72 = .ok (.bipush 64, 2) := by decide +kernel
theorem dX7_block_74 : decode cX7_block 74 = .ok (.if_icmp .ge 102, 3) := by decide +kernel
theorem dX7_block_77 : decode cX7_block 77 = .ok (.aload_n 0, 1) := by decide +kernel
theorem dX7_block_78 : decode cX7_block 78 = .ok (.getfield 51, 3) := by decide +kernel
theorem dX7_block_81 : decode cX7_block 81 = .ok (.iload_n 2, 1) := by decide +kernel
theorem dX7_block_82 : decode cX7_block 82 = .ok (.bipush 15, 2) := by decide +kernel
theorem dX7_block_84 : decode cX7_block 84 = .ok (.isub, 1) := by decide +kernel
theorem dX7_block_85 : decode cX7_block 85 = .ok (.iaload, 1) := by decide +kernel
theorem dX7_block_86 : decode cX7_block 86 = .ok (.istore_n 3, 1) := by decide +kernel
theorem dX7_block_87 : decode cX7_block 87 = .ok (.aload_n 0, 1) := by decide +kernel
theorem dX7_block_88 : decode cX7_block 88 = .ok (.getfield 51, 3) := by decide +kernel
theorem dX7_block_91 : decode cX7_block 91 = .ok (.iload_n 2, 1) := by decide +kernel
theorem dX7_block_92 : decode cX7_block 92 = .ok (.iconst 2, 1) := by decide +kernel
theorem dX7_block_93 : decode cX7_block 93 = .ok (.isub, 1) := by decide +kernel
theorem dX7_block_94 : decode cX7_block 94 = .ok (.iaload, 1) := by decide +kernel
theorem dX7_block_95 : decode cX7_block 95 = .ok (.istore 4, 2) := by decide +kernel
theorem dX7_block_97 : decode cX7_block 97 = .ok (.iload_n 3, 1) := by decide +kernel
theorem dX7_block_98 : decode cX7_block 98 = .ok (.bipush 7, 2) := by decide +kernel
theorem dX7_block_100 : decode cX7_block 100 = .ok (.invokestatic 156, 3) := by decide +kernel
theorem dX7_block_103 : decode cX7_block 103 = .ok (.iload_n 3, 1) := by decide +kernel
theorem dX7_block_104 : decode cX7_block 104 = .ok (.bipush 18, 2) := by decide +kernel
theorem dX7_block_106 : decode cX7_block 106 = .ok (.invokestatic 156, 3) := by decide +kernel
theorem dX7_block_109 : decode cX7_block 109 = .ok (.ixor, 1) := by decide +kernel
theorem dX7_block_110 : decode cX7_block 110 = .ok (.iload_n 3, 1) := by decide +kernel
theorem dX7_block_111 : decode cX7_block 111 = .ok (.iconst 3, 1) := by decide +kernel
theorem dX7_block_112 : decode cX7_block 112 = .ok (.iushr, 1) := by decide +kernel
theorem dX7_block_113 : decode cX7_block 113 = .ok (.ixor, 1) := by decide +kernel
theorem dX7_block_114 : decode cX7_block 114 = .ok (.istore 5, 2) := by decide +kernel
theorem dX7_block_116 : decode cX7_block 116 = .ok (.iload 4, 2) := by decide +kernel
theorem dX7_block_118 : decode cX7_block 118 = .ok (.bipush 17, 2) := by decide +kernel
theorem dX7_block_120 : decode cX7_block 120 = .ok (.invokestatic 156, 3) := by decide +kernel
theorem dX7_block_123 : decode cX7_block 123 = .ok (.iload 4, 2) := by decide +kernel
theorem dX7_block_125 : decode cX7_block 125 = .ok (.bipush 19, 2) := by decide +kernel
theorem dX7_block_127 : decode cX7_block 127 = .ok (.invokestatic 156, 3) := by decide +kernel
theorem dX7_block_130 : decode cX7_block 130 = .ok (.ixor, 1) := by decide +kernel
theorem dX7_block_131 : decode cX7_block 131 = .ok (.iload 4, 2) := by decide +kernel
theorem dX7_block_133 : decode cX7_block 133 = .ok (.bipush 10, 2) := by decide +kernel
theorem dX7_block_135 : decode cX7_block 135 = .ok (.iushr, 1) := by decide +kernel
theorem dX7_block_136 : decode cX7_block 136 = .ok (.ixor, 1) := by decide +kernel
theorem dX7_block_137 : decode cX7_block 137 = .ok (.istore 6, 2) := by decide +kernel
theorem dX7_block_139 : decode cX7_block 139 = .ok (.aload_n 0, 1) := by decide +kernel
theorem dX7_block_140 : decode cX7_block 140 = .ok (.getfield 51, 3) := by decide +kernel
theorem dX7_block_143 : decode cX7_block 143 = .ok (.iload_n 2, 1) := by decide +kernel
theorem dX7_block_144 : decode cX7_block 144 = .ok (.aload_n 0, 1) := by decide +kernel
theorem dX7_block_145 : decode cX7_block 145 = .ok (.getfield 51, 3) := by decide +kernel
theorem dX7_block_148 : decode cX7_block 148 = .ok (.iload_n 2, 1) := by decide +kernel
theorem dX7_block_149 : decode cX7_block 149 = .ok (.bipush 16, 2) := by decide +kernel
theorem dX7_block_151 : decode cX7_block 151 = .ok (.isub, 1) := by decide +kernel
theorem dX7_block_152 : decode cX7_block 152 = .ok (.iaload, 1) := by decide +kernel
theorem dX7_block_153 : decode cX7_block 153 = .ok (.iload 5, 2) := by decide +kernel
theorem dX7_block_155 : decode cX7_block 155 = .ok (.iadd, 1) := by decide +kernel
theorem dX7_block_156 : decode cX7_block 156 = .ok (.aload_n 0, 1) := by decide +kernel
theorem dX7_block_157 : decode cX7_block 157 = .ok (.getfield 51, 3) := by decide +kernel
theorem dX7_block_160 : decode cX7_block 160 = .ok (.iload_n 2, 1) := by decide +kernel
theorem dX7_block_161 : decode cX7_block 161 = .ok (.bipush 7, 2) := by decide +kernel
theorem dX7_block_163 : decode cX7_block 163 = .ok (.isub, 1) := by decide +kernel
theorem dX7_block_164 : decode cX7_block 164 = .ok (.iaload, 1) := by decide +kernel
theorem dX7_block_165 : decode cX7_block 165 = .ok (.iadd, 1) := by decide +kernel
theorem dX7_block_166 : decode cX7_block 166 = .ok (.iload 6, 2) := by decide +kernel
theorem dX7_block_168 : decode cX7_block 168 = .ok (.iadd, 1) := by decide +kernel
theorem dX7_block_169 : decode cX7_block 169 = .ok (.iastore, 1) := by decide +kernel
theorem dX7_block_170 : decode cX7_block 170 = .ok (.iinc 2 1, 3) := by decide +kernel
theorem dX7_block_173 : decode cX7_block 173 = .ok (.goto (-102), 3) := by decide +kernel
theorem dX7_block_176 : decode cX7_block 176 = .ok (.aload_n 0, 1) := by decide +kernel
theorem dX7_block_177 : decode cX7_block 177 = .ok (.getfield 48, 3) := by decide +kernel
theorem dX7_block_180 : decode cX7_block 180 = .ok (.iconst 0, 1) := by decide +kernel
theorem dX7_block_181 : decode cX7_block 181 = .ok (.iaload, 1) := by decide +kernel
theorem dX7_block_182 : decode cX7_block 182 = .ok (.istore_n 2, 1) := by decide +kernel
theorem dX7_block_183 : decode cX7_block 183 = .ok (.aload_n 0, 1) := by decide +kernel
theorem dX7_block_184 : decode cX7_block 184 = .ok (.getfield 48, 3) := by decide +kernel
theorem dX7_block_187 : decode cX7_block 187 = .ok (.iconst 1, 1) := by decide +kernel
theorem dX7_block_188 : decode cX7_block 188 = .ok (.iaload, 1) := by decide +kernel
theorem dX7_block_189 : decode cX7_block 189 = .ok (.istore_n 3, 1) := by decide +kernel
theorem dX7_block_190 : decode cX7_block 190 = .ok (.aload_n 0, 1) := by decide +kernel
theorem dX7_block_191 : decode cX7_block 191 = .ok (.getfield 48, 3) := by decide +kernel
theorem dX7_block_194 : decode cX7_block 194 = .ok (.iconst 2, 1) := by decide +kernel
theorem dX7_block_195 : decode cX7_block 195 = .ok (.iaload, 1) := by decide +kernel
theorem dX7_block_196 : decode cX7_block 196 = .ok (.istore 4, 2) := by decide +kernel
theorem dX7_block_198 : decode cX7_block 198 = .ok (.aload_n 0, 1) := by decide +kernel
theorem dX7_block_199 : decode cX7_block 199 = .ok (.getfield 48, 3) := by decide +kernel
theorem dX7_block_202 : decode cX7_block 202 = .ok (.iconst 3, 1) := by decide +kernel
theorem dX7_block_203 : decode cX7_block 203 = .ok (.iaload, 1) := by decide +kernel
theorem dX7_block_204 : decode cX7_block 204 = .ok (.istore 5, 2) := by decide +kernel
theorem dX7_block_206 : decode cX7_block 206 = .ok (.aload_n 0, 1) := by decide +kernel
theorem dX7_block_207 : decode cX7_block 207 = .ok (.getfield 48, 3) := by decide +kernel
theorem dX7_block_210 : decode cX7_block 210 = .ok (.iconst 4, 1) := by decide +kernel
theorem dX7_block_211 : decode cX7_block 211 = .ok (.iaload, 1) := by decide +kernel
theorem dX7_block_212 : decode cX7_block 212 = .ok (.istore 6, 2) := by decide +kernel
theorem dX7_block_214 : decode cX7_block 214 = .ok (.aload_n 0, 1) := by decide +kernel
theorem dX7_block_215 : decode cX7_block 215 = .ok (.getfield 48, 3) := by decide +kernel
theorem dX7_block_218 : decode cX7_block 218 = .ok (.iconst 5, 1) := by decide +kernel
theorem dX7_block_219 : decode cX7_block 219 = .ok (.iaload, 1) := by decide +kernel
theorem dX7_block_220 : decode cX7_block 220 = .ok (.istore 7, 2) := by decide +kernel
theorem dX7_block_222 : decode cX7_block 222 = .ok (.aload_n 0, 1) := by decide +kernel
theorem dX7_block_223 : decode cX7_block 223 = .ok (.getfield 48, 3) := by decide +kernel
theorem dX7_block_226 : decode cX7_block 226 = .ok (.bipush 6, 2) := by decide +kernel
theorem dX7_block_228 : decode cX7_block 228 = .ok (.iaload, 1) := by decide +kernel
theorem dX7_block_229 : decode cX7_block 229 = .ok (.istore 8, 2) := by decide +kernel
theorem dX7_block_231 : decode cX7_block 231 = .ok (.aload_n 0, 1) := by decide +kernel
theorem dX7_block_232 : decode cX7_block 232 = .ok (.getfield 48, 3) := by decide +kernel
theorem dX7_block_235 : decode cX7_block 235 = .ok (.bipush 7, 2) := by decide +kernel
theorem dX7_block_237 : decode cX7_block 237 = .ok (.iaload, 1) := by decide +kernel
theorem dX7_block_238 : decode cX7_block 238 = .ok (.istore 9, 2) := by decide +kernel
theorem dX7_block_240 : decode cX7_block 240 = .ok (.iconst 0, 1) := by decide +kernel
theorem dX7_block_241 : decode cX7_block 241 = .ok (.istore 10, 2) := by decide +kernel
theorem dX7_block_243 : decode cX7_block 243 = .ok (.iload 10, 2) := by decide +kernel
theorem dX7_block_245 : decode cX7_block 245 = .ok (.bipush 64, 2) := by decide +kernel
theorem dX7_block_247 : decode cX7_block 247 = .ok (.if_icmp .ge 136, 3) := by decide +kernel
theorem dX7_block_250 : decode cX7_block 250 = .ok (.iload 9, 2) := by decide +kernel
theorem dX7_block_252 : decode cX7_block 252 = .ok (.iload 6, 2) := by decide +kernel
theorem dX7_block_254 : decode cX7_block 254 = .ok (.bipush 6, 2) := by decide +kernel
theorem dX7_block_256 : decode cX7_block 256 = .ok (.invokestatic 156, 3) := by decide +kernel
theorem dX7_block_259 : decode cX7_block 259 = .ok (.iload 6, 2) := by decide +kernel
theorem dX7_block_261 : decode cX7_block 261 = .ok (.bipush 11, 2) := by decide +kernel
theorem dX7_block_263 : decode cX7_block 263 = .ok (.invokestatic 156, 3) := by decide +kernel
theorem dX7_block_266 : decode cX7_block 266 = .ok (.ixor, 1) := by decide +kernel
theorem dX7_block_267 : decode cX7_block 267 = .ok (.iload 6, 2) := by decide +kernel
theorem dX7_block_269 : decode cX7_block 269 = .ok (.bipush 25, 2) := by decide +kernel
theorem dX7_block_271 : decode cX7_block 271 = .ok (.invokestatic 156, 3) := by decide +kernel
theorem dX7_block_274 : decode cX7_block 274 = .ok (.ixor, 1) := by decide +kernel
theorem dX7_block_275 : decode cX7_block 275 = .ok (.iadd, 1) := by decide +kernel
theorem dX7_block_276 : decode cX7_block 276 = .ok (.iload 6, 2) := by decide +kernel
theorem dX7_block_278 : decode cX7_block 278 = .ok (.iload 7, 2) := by decide +kernel
theorem dX7_block_280 : decode cX7_block 280 = .ok (.iand, 1) := by decide +kernel
theorem dX7_block_281 : decode cX7_block 281 = .ok (.iload 6, 2) := by decide +kernel
theorem dX7_block_283 : decode cX7_block 283 = .ok (.iconst (-1), 1) := by decide +kernel
theorem dX7_block_284 : decode cX7_block 284 = .ok (.ixor, 1) := by decide +kernel
theorem dX7_block_285 : decode cX7_block 285 = .ok (.iload 8, 2) := by decide +kernel
theorem dX7_block_287 : decode cX7_block 287 = .ok (.iand, 1) := by decide +kernel
theorem dX7_block_288 : decode cX7_block 288 = .ok (.ixor, 1) := by decide +kernel
theorem dX7_block_289 : decode cX7_block 289 = .ok (.iadd, 1) := by decide +kernel
theorem dX7_block_290 : decode cX7_block 290 = .ok (.aload_n 0, 1) := by decide +kernel
theorem dX7_block_291 : decode cX7_block 291 = .ok (.getfield 133, 3) := by decide +kernel
theorem dX7_block_294 : decode cX7_block 294 = .ok (.iload 10, 2) := by decide +kernel
theorem dX7_block_296 : decode cX7_block 296 = .ok (.iaload, 1) := by decide +kernel
theorem dX7_block_297 : decode cX7_block 297 = .ok (.iadd, 1) := by decide +kernel
theorem dX7_block_298 : decode cX7_block 298 = .ok (.aload_n 0, 1) := by decide +kernel
theorem dX7_block_299 : decode cX7_block 299 = .ok (.getfield 51, 3) := by decide +kernel
theorem dX7_block_302 : decode cX7_block 302 = .ok (.iload 10, 2) := by decide +kernel
theorem dX7_block_304 : decode cX7_block 304 = .ok (.iaload, 1) := by decide +kernel
theorem dX7_block_305 : decode cX7_block 305 = .ok (.iadd, 1) := by decide +kernel
theorem dX7_block_306 : decode cX7_block 306 = .ok (.istore 11, 2) := by decide +kernel
theorem dX7_block_308 : decode cX7_block 308 = .ok (.iload_n 2, 1) := by decide +kernel
theorem dX7_block_309 : decode cX7_block 309 = .ok (.iconst 2, 1) := by decide +kernel
theorem dX7_block_310 : decode cX7_block 310 = .ok (.invokestatic 156, 3) := by decide +kernel
theorem dX7_block_313 : decode cX7_block 313 = .ok (.iload_n 2, 1) := by decide +kernel
theorem dX7_block_314 : decode cX7_block 314 = .ok (.bipush 13, 2) := by decide +kernel
theorem dX7_block_316 : decode cX7_block 316 = .ok (.invokestatic 156, 3) := by decide +kernel
theorem dX7_block_319 : decode cX7_block 319 = .ok (.ixor, 1) := by decide +kernel
theorem dX7_block_320 : decode cX7_block 320 = .ok (.iload_n 2, 1) := by decide +kernel
theorem dX7_block_321 : decode cX7_block 321 = .ok (.bipush 22, 2) := by decide +kernel
theorem dX7_block_323 : decode cX7_block 323 = .ok (.invokestatic 156, 3) := by decide +kernel
theorem dX7_block_326 : decode cX7_block 326 = .ok (.ixor, 1) := by decide +kernel
theorem dX7_block_327 : decode cX7_block 327 = .ok (.iload_n 2, 1) := by decide +kernel
theorem dX7_block_328 : decode cX7_block 328 = .ok (.iload_n 3, 1) := by decide +kernel
theorem dX7_block_329 : decode cX7_block 329 = .ok (.iand, 1) := by decide +kernel
theorem dX7_block_330 : decode cX7_block 330 = .ok (.iload_n 2, 1) := by decide +kernel
theorem dX7_block_331 : decode cX7_block 331 = .ok (.iload 4, 2) := by decide +kernel
theorem dX7_block_333 : decode cX7_block 333 = .ok (.iand, 1) := by decide +kernel
theorem dX7_block_334 : decode cX7_block 334 = .ok (.ixor, 1) := by decide +kernel
theorem dX7_block_335 : decode cX7_block 335 = .ok (.iload_n 3, 1) := by decide +kernel
theorem dX7_block_336 : decode cX7_block 336 = .ok (.iload 4, 2) := by decide +kernel
theorem dX7_block_338 : decode cX7_block 338 = .ok (.iand, 1) := by decide +kernel
theorem dX7_block_339 : decode cX7_block 339 = .ok (.ixor, 1) := by decide +kernel
theorem dX7_block_340 : decode cX7_block 340 = .ok (.iadd, 1) := by decide +kernel
theorem dX7_block_341 : decode cX7_block 341 = .ok (.istore 12, 2) := by decide +kernel
theorem dX7_block_343 : decode cX7_block 343 = .ok (.iload 8, 2) := by decide +kernel
theorem dX7_block_345 : decode cX7_block 345 = .ok (.istore 9, 2) := by decide +kernel
theorem dX7_block_347 : decode cX7_block 347 = .ok (.iload 7, 2) := by decide +kernel
theorem dX7_block_349 : decode cX7_block 349 = .ok (.istore 8, 2) := by decide +kernel
theorem dX7_block_351 : decode cX7_block 351 = .ok (.iload 6, 2) := by decide +kernel
theorem dX7_block_353 : decode cX7_block 353 = .ok (.istore 7, 2) := by decide +kernel
theorem dX7_block_355 : decode cX7_block 355 = .ok (.iload 5, 2) := by decide +kernel
theorem dX7_block_357 : decode cX7_block 357 = .ok (.iload 11, 2) := by decide +kernel
theorem dX7_block_359 : decode cX7_block 359 = .ok (.iadd, 1) := by decide +kernel
theorem dX7_block_360 : decode cX7_block 360 = .ok (.istore 6, 2) := by decide +kernel
theorem dX7_block_362 : decode cX7_block 362 = .ok (.iload 4, 2) := by decide +kernel
theorem dX7_block_364 : decode cX7_block 364 = .ok (.istore 5, 2) := by decide +kernel
theorem dX7_block_366 : decode cX7_block 366 = .ok (.iload_n 3, 1) := by decide +kernel
theorem dX7_block_367 : decode cX7_block 367 = .ok (.istore 4, 2) := by decide +kernel
theorem dX7_block_369 : decode cX7_block 369 = .ok (.iload_n 2, 1) := by decide +kernel
theorem dX7_block_370 : decode cX7_block 370 = .ok (.istore_n 3, 1) := by decide +kernel
theorem dX7_block_371 : decode cX7_block 371 = .ok (.iload 11, 2) := by decide +kernel
theorem dX7_block_373 : decode cX7_block 373 = .ok (.iload 12, 2) := by decide +kernel
theorem dX7_block_375 : decode cX7_block 375 = .ok (.iadd, 1) := by decide +kernel
theorem dX7_block_376 : decode cX7_block 376 = .ok (.istore_n 2, 1) := by decide +kernel
theorem dX7_block_377 : decode cX7_block 377 = .ok (.iinc 10 1, 3) := by decide +kernel
theorem dX7_block_380 : decode cX7_block 380 = .ok (.goto (-137), 3) := by decide +kernel
theorem dX7_block_383 : decode cX7_block 383 = .ok (.aload_n 0, 1) := by decide +kernel
theorem dX7_block_384 : decode cX7_block 384 = .ok (.getfield 48, 3) := by decide +kernel
theorem dX7_block_387 : decode cX7_block 387 = .ok (.iconst 0, 1) := by decide +kernel
theorem dX7_block_388 : decode cX7_block 388 = .ok (.dup2, 1) := by decide +kernel
theorem dX7_block_389 : decode cX7_block 389 = .ok (.iaload, 1) := by decide +kernel
theorem dX7_block_390 : decode cX7_block 390 = .ok (.iload_n 2, 1) := by decide +kernel
theorem dX7_block_391 : decode cX7_block 391 = .ok (.iadd, 1) := by decide +kernel
theorem dX7_block_392 : decode cX7_block 392 = .ok (.iastore, 1) := by decide +kernel
theorem dX7_block_393 : decode cX7_block 393 = .ok (.aload_n 0, 1) := by decide +kernel
theorem dX7_block_394 : decode cX7_block 394 = .ok (.getfield 48, 3) := by decide +kernel
theorem dX7_block_397 : decode cX7_block 397 = .ok (.iconst 1, 1) := by decide +kernel
theorem dX7_block_398 : decode cX7_block 398 = .ok (.dup2, 1) := by decide +kernel
theorem dX7_block_399 : decode cX7_block 399 = .ok (.iaload, 1) := by decide +kernel
theorem dX7_block_400 : decode cX7_block 400 = .ok (.iload_n 3, 1) := by decide +kernel
theorem dX7_block_401 : decode cX7_block 401 = .ok (.iadd, 1) := by decide +kernel
theorem dX7_block_402 : decode cX7_block 402 = .ok (.iastore, 1) := by decide +kernel
theorem dX7_block_403 : decode cX7_block 403 = .ok (.aload_n 0, 1) := by decide +kernel
theorem dX7_block_404 : decode cX7_block 404 = .ok (.getfield 48, 3) := by decide +kernel
theorem dX7_block_407 : decode cX7_block 407 = .ok (.iconst 2, 1) := by decide +kernel
theorem dX7_block_408 : decode cX7_block 408 = .ok (.dup2, 1) := by decide +kernel
theorem dX7_block_409 : decode cX7_block 409 = .ok (.iaload, 1) := by decide +kernel
theorem dX7_block_410 : decode cX7_block 410 = .ok (.iload 4, 2) := by decide +kernel
theorem dX7_block_412 : decode cX7_block 412 = .ok (.iadd, 1) := by decide +kernel
theorem dX7_block_413 : decode cX7_block 413 = .ok (.iastore, 1) := by decide +kernel
theorem dX7_block_414 : decode cX7_block 414 = .ok (.aload_n 0, 1) := by decide +kernel
theorem dX7_block_415 : decode cX7_block 415 = .ok (.getfield 48, 3) := by decide +kernel
theorem dX7_block_418 : decode cX7_block 418 = .ok (.iconst 3, 1) := by decide +kernel
theorem dX7_block_419 : decode cX7_block 419 = .ok (.dup2, 1) := by decide +kernel
theorem dX7_block_420 : decode cX7_block 420 = .ok (.iaload, 1) := by decide +kernel
theorem dX7_block_421 : decode cX7_block 421 = .ok (.iload 5, 2) := by decide +kernel
theorem dX7_block_423 : decode cX7_block 423 = .ok (.iadd, 1) := by decide +kernel
theorem dX7_block_424 : decode cX7_block 424 = .ok (.iastore, 1) := by decide +kernel
theorem dX7_block_425 : decode cX7_block 425 = .ok (.aload_n 0, 1) := by decide +kernel
theorem dX7_block_426 : decode cX7_block 426 = .ok (.getfield 48, 3) := by decide +kernel
theorem dX7_block_429 : decode cX7_block 429 = .ok (.iconst 4, 1) := by decide +kernel
theorem dX7_block_430 : decode cX7_block 430 = .ok (.dup2, 1) := by decide +kernel
theorem dX7_block_431 : decode cX7_block 431 = .ok (.iaload, 1) := by decide +kernel
theorem dX7_block_432 : decode cX7_block 432 = .ok (.iload 6, 2) := by decide +kernel
theorem dX7_block_434 : decode cX7_block 434 = .ok (.iadd, 1) := by decide +kernel
theorem dX7_block_435 : decode cX7_block 435 = .ok (.iastore, 1) := by decide +kernel
theorem dX7_block_436 : decode cX7_block 436 = .ok (.aload_n 0, 1) := by decide +kernel
theorem dX7_block_437 : decode cX7_block 437 = .ok (.getfield 48, 3) := by decide +kernel
theorem dX7_block_440 : decode cX7_block 440 = .ok (.iconst 5, 1) := by decide +kernel
theorem dX7_block_441 : decode cX7_block 441 = .ok (.dup2, 1) := by decide +kernel
theorem dX7_block_442 : decode cX7_block 442 = .ok (.iaload, 1) := by decide +kernel
theorem dX7_block_443 : decode cX7_block 443 = .ok (.iload 7, 2) := by decide +kernel
theorem dX7_block_445 : decode cX7_block 445 = .ok (.iadd, 1) := by decide +kernel
theorem dX7_block_446 : decode cX7_block 446 = .ok (.iastore, 1) := by decide +kernel
theorem dX7_block_447 : decode cX7_block 447 = .ok (.aload_n 0, 1) := by decide +kernel
theorem dX7_block_448 : decode cX7_block 448 = .ok (.getfield 48, 3) := by decide +kernel
theorem dX7_block_451 : decode cX7_block 451 = .ok (.bipush 6, 2) := by decide +kernel
theorem dX7_block_453 : decode cX7_block 453 = .ok (.dup2, 1) := by decide +kernel
theorem dX7_block_454 : decode cX7_block 454 = .ok (.iaload, 1) := by decide +kernel
theorem dX7_block_455 : decode cX7_block 455 = .ok (.iload 8, 2) := by decide +kernel
theorem dX7_block_457 : decode cX7_block 457 = .ok (.iadd, 1) := by decide +kernel
theorem dX7_block_458 : decode cX7_block 458 = .ok (.iastore, 1) := by decide +kernel
theorem dX7_block_459 : decode cX7_block 459 = .ok (.aload_n 0, 1) := by decide +kernel
theorem dX7_block_460 : decode cX7_block 460 = .ok (.getfield 48, 3) := by decide +kernel
theorem dX7_block_463 : decode cX7_block 463 = .ok (.bipush 7, 2) := by decide +kernel
theorem dX7_block_465 : decode cX7_block 465 = .ok (.dup2, 1) := by decide +kernel
theorem dX7_block_466 : decode cX7_block 466 = .ok (.iaload, 1) := by decide +kernel
theorem dX7_block_467 : decode cX7_block 467 = .ok (.iload 9, 2) := by decide +kernel
theorem dX7_block_469 : decode cX7_block 469 = .ok (.iadd, 1) := by decide +kernel
theorem dX7_block_470 : decode cX7_block 470 = .ok (.iastore, 1) := by decide +kernel
theorem dX7_block_471 : decode cX7_block 471 = .ok (.return_, 1) := by decide +kernel
set_option maxRecDepth 20000 in
theorem ggX7_digestRow_X7_block : GoodIn wsX7_digestRow wsX7_block := goodIn_r _ [16, 17, 10, 1, 18, 19, 20, 15, 21, 22, 23, 24, 25, 26, 27, 28, 29, 30, 31, 32, 33, 34, 35, 36, 37, 38, 39, 40, 41, 42, 43, 44, 45, 46] (by decide +kernel) (by decide +kernel)
set_option maxRecDepth 20000 in
theorem gX7_digestRow_X7_block : GoodIn wsX7_digestRow (wsV RX7 168 RX7 yX7_block wsX7_block) := goodIn_app (goodIn_of _ (by decide +kernel)) ggX7_digestRow_X7_block
theorem dX7_digestRow_0 : decode cX7_digestRow 0 = .ok (.aload_n 0, 1) := by decide +kernel
theorem dX7_digestRow_1 : decode cX7_digestRow 1 = .ok (.getfield 48, 3) := by decide +kernel
theorem dX7_digestRow_4 : decode cX7_digestRow 4 = .ok (.iconst 0, 1) := by decide +kernel
theorem dX7_digestRow_5 : decode cX7_digestRow 5 = .ok (.ldc 160, 2) := by decide +kernel
theorem dX7_digestRow_7 : decode cX7_digestRow 7 = .ok (.iastore, 1) := by decide +kernel
theorem dX7_digestRow_8 : decode cX7_digestRow 8 = .ok (.aload_n 0, 1) := by decide +kernel
theorem dX7_digestRow_9 : decode cX7_digestRow 9 = .ok (.getfield 48, 3) := by decide +kernel
theorem dX7_digestRow_12 : decode cX7_digestRow 12 = .ok (.iconst 1, 1) := by decide +kernel
theorem dX7_digestRow_13 : decode cX7_digestRow 13 = .ok (.ldc 161, 2) := by decide +kernel
theorem dX7_digestRow_15 : decode cX7_digestRow 15 = .ok (.iastore, 1) := by decide +kernel
theorem dX7_digestRow_16 : decode cX7_digestRow 16 = .ok (.aload_n 0, 1) := by decide +kernel
theorem dX7_digestRow_17 : decode cX7_digestRow 17 = .ok (.getfield 48, 3) := by decide +kernel
theorem dX7_digestRow_20 : decode cX7_digestRow 20 = .ok (.iconst 2, 1) := by decide +kernel
theorem dX7_digestRow_21 : decode cX7_digestRow 21 = .ok (.ldc 162, 2) := by decide +kernel
theorem dX7_digestRow_23 : decode cX7_digestRow 23 = .ok (.iastore, 1) := by decide +kernel
theorem dX7_digestRow_24 : decode cX7_digestRow 24 = .ok (.aload_n 0, 1) := by decide +kernel
theorem dX7_digestRow_25 : decode cX7_digestRow 25 = .ok (.getfield 48, 3) := by decide +kernel
theorem dX7_digestRow_28 : decode cX7_digestRow 28 = .ok (.iconst 3, 1) := by decide +kernel
theorem dX7_digestRow_29 : decode cX7_digestRow 29 = .ok (.ldc 163, 2) := by decide +kernel
theorem dX7_digestRow_31 : decode cX7_digestRow 31 = .ok (.iastore, 1) := by decide +kernel
theorem dX7_digestRow_32 : decode cX7_digestRow 32 = .ok (.aload_n 0, 1) := by decide +kernel
theorem dX7_digestRow_33 : decode cX7_digestRow 33 = .ok (.getfield 48, 3) := by decide +kernel
theorem dX7_digestRow_36 : decode cX7_digestRow 36 = .ok (.iconst 4, 1) := by decide +kernel
theorem dX7_digestRow_37 : decode cX7_digestRow 37 = .ok (.ldc 164, 2) := by decide +kernel
theorem dX7_digestRow_39 : decode cX7_digestRow 39 = .ok (.iastore, 1) := by decide +kernel
theorem dX7_digestRow_40 : decode cX7_digestRow 40 = .ok (.aload_n 0, 1) := by decide +kernel
theorem dX7_digestRow_41 : decode cX7_digestRow 41 = .ok (.getfield 48, 3) := by decide +kernel
theorem dX7_digestRow_44 : decode cX7_digestRow 44 = .ok (.iconst 5, 1) := by decide +kernel
theorem dX7_digestRow_45 : decode cX7_digestRow 45 = .ok (.ldc 165, 2) := by decide +kernel
theorem dX7_digestRow_47 : decode cX7_digestRow 47 = .ok (.iastore, 1) := by decide +kernel
theorem dX7_digestRow_48 : decode cX7_digestRow 48 = .ok (.aload_n 0, 1) := by decide +kernel
theorem dX7_digestRow_49 : decode cX7_digestRow 49 = .ok (.getfield 48, 3) := by decide +kernel
theorem dX7_digestRow_52 : decode cX7_digestRow 52 = .ok (.bipush 6, 2) := by decide +kernel
theorem dX7_digestRow_54 : decode cX7_digestRow 54 = .ok (.ldc 166, 2) := by decide +kernel
theorem dX7_digestRow_56 : decode cX7_digestRow 56 = .ok (.iastore, 1) := by decide +kernel
theorem dX7_digestRow_57 : decode cX7_digestRow 57 = .ok (.aload_n 0, 1) := by decide +kernel
theorem dX7_digestRow_58 : decode cX7_digestRow 58 = .ok (.getfield 48, 3) := by decide +kernel
theorem dX7_digestRow_61 : decode cX7_digestRow 61 = .ok (.bipush 7, 2) := by decide +kernel
theorem dX7_digestRow_63 : decode cX7_digestRow 63 = .ok (.ldc 167, 2) := by decide +kernel
theorem dX7_digestRow_65 : decode cX7_digestRow 65 = .ok (.iastore, 1) := by decide +kernel
theorem dX7_digestRow_66 : decode cX7_digestRow 66 = .ok (.iload_n 1, 1) := by decide +kernel
theorem dX7_digestRow_67 : decode cX7_digestRow 67 = .ok (.bipush 8, 2) := by decide +kernel
theorem dX7_digestRow_69 : decode cX7_digestRow 69 = .ok (.iadd, 1) := by decide +kernel
theorem dX7_digestRow_70 : decode cX7_digestRow 70 = .ok (.bipush 64, 2) := by decide +kernel
theorem dX7_digestRow_72 : decode cX7_digestRow 72 = .ok (.idiv, 1) := by decide +kernel
theorem dX7_digestRow_73 : decode cX7_digestRow 73 = .ok (.bipush 64, 2) := by decide +kernel
theorem dX7_digestRow_75 : decode cX7_digestRow 75 = .ok (.imul, 1) := by decide +kernel
theorem dX7_digestRow_76 : decode cX7_digestRow 76 = .ok (.bipush 64, 2) := by decide +kernel
theorem dX7_digestRow_78 : decode cX7_digestRow 78 = .ok (.iadd, 1) := by decide +kernel
theorem dX7_digestRow_79 : decode cX7_digestRow 79 = .ok (.istore_n 2, 1) := by decide +kernel
theorem dX7_digestRow_80 : decode cX7_digestRow 80 = .ok (.iload_n 1, 1) := by decide +kernel
theorem dX7_digestRow_81 : decode cX7_digestRow 81 = .ok (.istore_n 3, 1) := by decide +kernel
theorem dX7_digestRow_82 : decode cX7_digestRow 82 = .ok (.iload_n 3, 1) := by decide +kernel
theorem dX7_digestRow_83 : decode cX7_digestRow 83 = .ok (.iload_n 2, 1) := by decide +kernel
theorem dX7_digestRow_84 : decode cX7_digestRow 84 = .ok (.if_icmp .ge 27, 3) := by decide +kernel
theorem dX7_digestRow_87 : decode cX7_digestRow 87 = .ok (.aload_n 0, 1) := by decide +kernel
theorem dX7_digestRow_88 : decode cX7_digestRow 88 = .ok (.getfield 54, 3) := by decide +kernel
theorem dX7_digestRow_91 : decode cX7_digestRow 91 = .ok (.iload_n 3, 1) := by decide +kernel
theorem dX7_digestRow_92 : decode cX7_digestRow 92 = .ok (.iload_n 3, 1) := by decide +kernel
theorem dX7_digestRow_93 : decode cX7_digestRow 93 = .ok (.iload_n 1, 1) := by decide +kernel
theorem dX7_digestRow_94 : decode cX7_digestRow 94 = .ok (.if_icmp .ne 9, 3) := by decide +kernel
theorem dX7_digestRow_97 : decode cX7_digestRow 97 = .ok (.sipush 128, 3) := by decide +kernel
theorem dX7_digestRow_100 : decode cX7_digestRow 100 = .ok (.goto 4, 3) := by decide +kernel
theorem dX7_digestRow_103 : decode cX7_digestRow 103 = .ok (.iconst 0, 1) := by decide +kernel
theorem dX7_digestRow_104 : decode cX7_digestRow 104 = .ok (.iastore, 1) := by decide +kernel
theorem dX7_digestRow_105 : decode cX7_digestRow 105 = .ok (.iinc 3 1, 3) := by decide +kernel
theorem dX7_digestRow_108 : decode cX7_digestRow 108 = .ok (.goto (-26), 3) := by decide +kernel
theorem dX7_digestRow_111 : decode cX7_digestRow 111 = .ok (.bipush 8, 2) := by decide +kernel
theorem dX7_digestRow_113 : decode cX7_digestRow 113 = .ok (.iload_n 1, 1) := by decide +kernel
theorem dX7_digestRow_114 : decode cX7_digestRow 114 = .ok (.imul, 1) := by decide +kernel
theorem dX7_digestRow_115 : decode cX7_digestRow 115 = .ok (.istore_n 3, 1) := by decide +kernel
theorem dX7_digestRow_116 : decode cX7_digestRow 116 = .ok (.aload_n 0, 1) := by decide +kernel
theorem dX7_digestRow_117 : decode cX7_digestRow 117 = .ok (.getfield 54, 3) := by decide +kernel
theorem dX7_digestRow_120 : decode cX7_digestRow 120 = .ok (.iload_n 2, 1) := by decide +kernel
theorem dX7_digestRow_121 : decode cX7_digestRow 121 = .ok (.iconst 4, 1) := by decide +kernel
theorem dX7_digestRow_122 : decode cX7_digestRow 122 = .ok (.isub, 1) := by decide +kernel
theorem dX7_digestRow_123 : decode cX7_digestRow 123 = .ok (.iload_n 3, 1) := by decide +kernel
theorem dX7_digestRow_124 : decode cX7_digestRow 124 = .ok (.bipush 24, 2) := by decide +kernel
theorem dX7_digestRow_126 : decode cX7_digestRow 126 = .ok (.iushr, 1) := by decide +kernel
theorem dX7_digestRow_127 : decode cX7_digestRow 127 = .ok (.iastore, 1) := by decide +kernel
theorem dX7_digestRow_128 : decode cX7_digestRow 128 = .ok (.aload_n 0, 1) := by decide +kernel
theorem dX7_digestRow_129 : decode cX7_digestRow 129 = .ok (.getfield 54, 3) := by decide +kernel
theorem dX7_digestRow_132 : decode cX7_digestRow 132 = .ok (.iload_n 2, 1) := by decide +kernel
theorem dX7_digestRow_133 : decode cX7_digestRow 133 = .ok (.iconst 3, 1) := by decide +kernel
theorem dX7_digestRow_134 : decode cX7_digestRow 134 = .ok (.isub, 1) := by decide +kernel
theorem dX7_digestRow_135 : decode cX7_digestRow 135 = .ok (.iload_n 3, 1) := by decide +kernel
theorem dX7_digestRow_136 : decode cX7_digestRow 136 = .ok (.bipush 16, 2) := by decide +kernel
theorem dX7_digestRow_138 : decode cX7_digestRow 138 = .ok (.iushr, 1) := by decide +kernel
theorem dX7_digestRow_139 : decode cX7_digestRow 139 = .ok (.sipush 255, 3) := by decide +kernel
theorem dX7_digestRow_142 : decode cX7_digestRow 142 = .ok (.iand, 1) := by decide +kernel
theorem dX7_digestRow_143 : decode cX7_digestRow 143 = .ok (.iastore, 1) := by decide +kernel
theorem dX7_digestRow_144 : decode cX7_digestRow 144 = .ok (.aload_n 0, 1) := by decide +kernel
theorem dX7_digestRow_145 : decode cX7_digestRow 145 = .ok (.getfield 54, 3) := by decide +kernel
theorem dX7_digestRow_148 : decode cX7_digestRow 148 = .ok (.iload_n 2, 1) := by decide +kernel
theorem dX7_digestRow_149 : decode cX7_digestRow 149 = .ok (.iconst 2, 1) := by decide +kernel
theorem dX7_digestRow_150 : decode cX7_digestRow 150 = .ok (.isub, 1) := by decide +kernel
theorem dX7_digestRow_151 : decode cX7_digestRow 151 = .ok (.iload_n 3, 1) := by decide +kernel
theorem dX7_digestRow_152 : decode cX7_digestRow 152 = .ok (.bipush 8, 2) := by decide +kernel
theorem dX7_digestRow_154 : decode cX7_digestRow 154 = .ok (.iushr, 1) := by decide +kernel
theorem dX7_digestRow_155 : decode cX7_digestRow 155 = .ok (.sipush 255, 3) := by decide +kernel
theorem dX7_digestRow_158 : decode cX7_digestRow 158 = .ok (.iand, 1) := by decide +kernel
theorem dX7_digestRow_159 : decode cX7_digestRow 159 = .ok (.iastore, 1) := by decide +kernel
theorem dX7_digestRow_160 : decode cX7_digestRow 160 = .ok (.aload_n 0, 1) := by decide +kernel
theorem dX7_digestRow_161 : decode cX7_digestRow 161 = .ok (.getfield 54, 3) := by decide +kernel
theorem dX7_digestRow_164 : decode cX7_digestRow 164 = .ok (.iload_n 2, 1) := by decide +kernel
theorem dX7_digestRow_165 : decode cX7_digestRow 165 = .ok (.iconst 1, 1) := by decide +kernel
theorem dX7_digestRow_166 : decode cX7_digestRow 166 = .ok (.isub, 1) := by decide +kernel
theorem dX7_digestRow_167 : decode cX7_digestRow 167 = .ok (.iload_n 3, 1) := by decide +kernel
theorem dX7_digestRow_168 : decode cX7_digestRow 168 = .ok (.sipush 255, 3) := by decide +kernel
theorem dX7_digestRow_171 : decode cX7_digestRow 171 = .ok (.iand, 1) := by decide +kernel
theorem dX7_digestRow_172 : decode cX7_digestRow 172 = .ok (.iastore, 1) := by decide +kernel
theorem dX7_digestRow_173 : decode cX7_digestRow 173 = .ok (.iconst 0, 1) := by decide +kernel
theorem dX7_digestRow_174 : decode cX7_digestRow 174 = .ok (.istore 4, 2) := by decide +kernel
theorem dX7_digestRow_176 : decode cX7_digestRow 176 = .ok (.iload 4, 2) := by decide +kernel
theorem dX7_digestRow_178 : decode cX7_digestRow 178 = .ok (.iload_n 2, 1) := by decide +kernel
theorem dX7_digestRow_179 : decode cX7_digestRow 179 = .ok (.if_icmp .ge 19, 3) := by decide +kernel
theorem dX7_digestRow_182 : decode cX7_digestRow 182 = .ok (.aload_n 0, 1) := by decide +kernel
theorem dX7_digestRow_183 : decode cX7_digestRow 183 = .ok (.iload 4, 2) := by decide +kernel
theorem dX7_digestRow_185 : decode cX7_digestRow 185 = .ok (.invokevirtual 168, 3) := by decide +kernel
theorem dX7_digestRow_188 : decode cX7_digestRow 188 = .ok (.iload 4, 2) := by decide +kernel
theorem dX7_digestRow_190 : decode cX7_digestRow 190 = .ok (.bipush 64, 2) := by decide +kernel
theorem dX7_digestRow_192 : decode cX7_digestRow 192 = .ok (.iadd, 1) := by decide +kernel
theorem dX7_digestRow_193 : decode cX7_digestRow 193 = .ok (.istore 4, 2) := by decide +kernel
theorem dX7_digestRow_195 : decode cX7_digestRow 195 = .ok (.goto (-19), 3) := by decide +kernel
theorem dX7_digestRow_198 : decode cX7_digestRow 198 = .ok (.iconst 0, 1) := by decide +kernel
theorem dX7_digestRow_199 : decode cX7_digestRow 199 = .ok (.istore 4, 2) := by decide +kernel
theorem dX7_digestRow_201 : decode cX7_digestRow 201 = .ok (.iload 4, 2) := by decide +kernel
theorem dX7_digestRow_203 : decode cX7_digestRow 203 = .ok (.bipush 32, 2) := by decide +kernel
theorem dX7_digestRow_205 : decode cX7_digestRow 205 = .ok (.if_icmp .ge 40, 3) := by decide +kernel
theorem dX7_digestRow_208 : decode cX7_digestRow 208 = .ok (.aload_n 0, 1) := by decide +kernel
theorem dX7_digestRow_209 : decode cX7_digestRow 209 = .ok (.getfield 57, 3) := by decide +kernel
theorem dX7_digestRow_212 : decode cX7_digestRow 212 = .ok (.iload 4, 2) := by decide +kernel
theorem dX7_digestRow_214 : decode cX7_digestRow 214 = .ok (.aload_n 0, 1) := by decide +kernel
theorem dX7_digestRow_215 : decode cX7_digestRow 215 = .ok (.getfield 48, 3) := by decide +kernel
theorem dX7_digestRow_218 : decode cX7_digestRow 218 = .ok (.iload 4, 2) := by decide +kernel
theorem dX7_digestRow_220 : decode cX7_digestRow 220 = .ok (.iconst 4, 1) := by decide +kernel

set_option maxRecDepth 20000 in
theorem ggX7_wireAt_X7_isSlot : GoodIn wsX7_wireAt wsX7_isSlot := goodIn_r _ [7, 1, 8, 9, 10, 11, 12, 13, 14, 15, 16, 17, 18, 19, 20, 21, 22, 23, 24, 25, 26, 27, 28, 29, 30, 31, 32] (by decide +kernel) (by decide +kernel)
set_option maxRecDepth 20000 in
theorem gX7_wireAt_X7_isSlot : GoodIn wsX7_wireAt (wsV RX7 215 RX7 yX7_isSlot wsX7_isSlot) := goodIn_app (goodIn_of _ (by decide +kernel)) ggX7_wireAt_X7_isSlot
theorem dX7_wireAt_0 : decode cX7_wireAt 0 = .ok (.aload_n 0, 1) := by decide +kernel
theorem dX7_wireAt_1 : decode cX7_wireAt 1 = .ok (.iload_n 1, 1) := by decide +kernel
theorem dX7_wireAt_2 : decode cX7_wireAt 2 = .ok (.invokevirtual 215, 3) := by decide +kernel
theorem dX7_wireAt_5 : decode cX7_wireAt 5 = .ok (.ifCond .eq 32, 3) := by decide +kernel
theorem dX7_wireAt_8 : decode cX7_wireAt 8 = .ok (.iload_n 2, 1) := by decide +kernel
theorem dX7_wireAt_9 : decode cX7_wireAt 9 = .ok (.ifCond .lt 28, 3) := by decide +kernel
theorem dX7_wireAt_12 : decode cX7_wireAt 12 = .ok (.iload_n 2, 1) := by decide +kernel
theorem dX7_wireAt_13 : decode cX7_wireAt 13 = .ok (.aload_n 0, 1) := by decide +kernel
theorem dX7_wireAt_14 : decode cX7_wireAt 14 = .ok (.getfield 39, 3) := by decide +kernel
theorem dX7_wireAt_17 : decode cX7_wireAt 17 = .ok (.iload_n 1, 1) := by decide +kernel
theorem dX7_wireAt_18 : decode cX7_wireAt 18 = .ok (.iaload, 1) := by decide +kernel
theorem dX7_wireAt_19 : decode cX7_wireAt 19 = .ok (.if_icmp .ge 18, 3) := by decide +kernel
theorem dX7_wireAt_22 : decode cX7_wireAt 22 = .ok (.aload_n 0, 1) := by decide +kernel
theorem dX7_wireAt_23 : decode cX7_wireAt 23 = .ok (.getfield 36, 3) := by decide +kernel
theorem dX7_wireAt_26 : decode cX7_wireAt 26 = .ok (.sipush 128, 3) := by decide +kernel
theorem dX7_wireAt_29 : decode cX7_wireAt 29 = .ok (.iload_n 1, 1) := by decide +kernel
theorem dX7_wireAt_30 : decode cX7_wireAt 30 = .ok (.imul, 1) := by decide +kernel
theorem dX7_wireAt_31 : decode cX7_wireAt 31 = .ok (.iload_n 2, 1) := by decide +kernel
theorem dX7_wireAt_32 : decode cX7_wireAt 32 = .ok (.iadd, 1) := by decide +kernel
theorem dX7_wireAt_33 : decode cX7_wireAt 33 = .ok (.iaload, 1) := by decide +kernel
theorem dX7_wireAt_34 : decode cX7_wireAt 34 = .ok (.goto 4, 3) := by decide +kernel
theorem dX7_wireAt_37 : decode cX7_wireAt 37 = .ok (.iconst (-1), 1) := by decide +kernel
theorem dX7_wireAt_38 : decode cX7_wireAt 38 = .ok (.ireturn, 1) := by decide +kernel
theorem dX7_count_0 : decode cX7_count 0 = .ok (.iconst 0, 1) := by decide +kernel
theorem dX7_count_1 : decode cX7_count 1 = .ok (.istore_n 2, 1) := by decide +kernel
theorem dX7_count_2 : decode cX7_count 2 = .ok (.iload_n 1, 1) := by decide +kernel
theorem dX7_count_3 : decode cX7_count 3 = .ok (.ifCond .ne 36, 3) := by decide +kernel
theorem dX7_count_6 : decode cX7_count 6 = .ok (.iconst 0, 1) := by decide +kernel
theorem dX7_count_7 : decode cX7_count 7 = .ok (.istore_n 3, 1) := by decide +kernel
theorem dX7_count_8 : decode cX7_count 8 = .ok (.iload_n 3, 1) := by decide +kernel
theorem dX7_count_9 : decode cX7_count 9 = .ok (.bipush 8, 2) := by decide +kernel
theorem dX7_count_11 : decode cX7_count 11 = .ok (.if_icmp .ge 26, 3) := by decide +kernel
theorem dX7_count_14 : decode cX7_count 14 = .ok (.aload_n 0, 1) := by decide +kernel
theorem dX7_count_15 : decode cX7_count 15 = .ok (.getfield 39, 3) := by decide +kernel
theorem dX7_count_18 : decode cX7_count 18 = .ok (.iload_n 3, 1) := by decide +kernel
theorem dX7_count_19 : decode cX7_count 19 = .ok (.iaload, 1) := by decide +kernel
theorem dX7_count_20 : decode cX7_count 20 = .ok (.ifCond .le 9, 3) := by decide +kernel
theorem dX7_count_23 : decode cX7_count 23 = .ok (.iload_n 2, 1) := by decide +kernel
theorem dX7_count_24 : decode cX7_count 24 = .ok (.iconst 1, 1) := by decide +kernel
theorem dX7_count_25 : decode cX7_count 25 = .ok (.iadd, 1) := by decide +kernel
theorem dX7_count_26 : decode cX7_count 26 = .ok (.goto 4, 3) := by decide +kernel
theorem dX7_count_29 : decode cX7_count 29 = .ok (.iload_n 2, 1) := by decide +kernel
theorem dX7_count_30 : decode cX7_count 30 = .ok (.istore_n 2, 1) := by decide +kernel
theorem dX7_count_31 : decode cX7_count 31 = .ok (.iinc 3 1, 3) := by decide +kernel
theorem dX7_count_34 : decode cX7_count 34 = .ok (.goto (-26), 3) := by decide +kernel
theorem dX7_count_37 : decode cX7_count 37 = .ok (.iload_n 2, 1) := by decide +kernel
theorem dX7_count_38 : decode cX7_count 38 = .ok (.ireturn, 1) := by decide +kernel
theorem dX7_count_39 : decode cX7_count 39 = .ok (.iload_n 1, 1) := by decide +kernel
theorem dX7_count_40 : decode cX7_count 40 = .ok (.iconst 4, 1) := by decide +kernel
theorem dX7_count_41 : decode cX7_count 41 = .ok (.if_icmp .eq 8, 3) := by decide +kernel
theorem dX7_count_44 : decode cX7_count 44 = .ok (.iload_n 1, 1) := by decide +kernel
theorem dX7_count_45 : decode cX7_count 45 = .ok (.iconst 5, 1) := by decide +kernel
theorem dX7_count_46 : decode cX7_count 46 = .ok (.if_icmp .ne 61, 3) := by decide +kernel
theorem dX7_count_49 : decode cX7_count 49 = .ok (.iconst 0, 1) := by decide +kernel
theorem dX7_count_50 : decode cX7_count 50 = .ok (.istore_n 3, 1) := by decide +kernel
theorem dX7_count_51 : decode cX7_count 51 = .ok (.iload_n 3, 1) := by decide +kernel
theorem dX7_count_52 : decode cX7_count 52 = .ok (.bipush 64, 2) := by decide +kernel
theorem dX7_count_54 : decode cX7_count 54 = .ok (.if_icmp .ge 51, 3) := by decide +kernel
theorem dX7_count_57 : decode cX7_count 57 = .ok (.aload_n 0, 1) := by decide +kernel
theorem dX7_count_58 : decode cX7_count 58 = .ok (.getfield 145, 3) := by decide +kernel
theorem dX7_count_61 : decode cX7_count 61 = .ok (.ifCond .eq 36, 3) := by decide +kernel
theorem dX7_count_64 : decode cX7_count 64 = .ok (.aload_n 0, 1) := by decide +kernel
theorem dX7_count_65 : decode cX7_count 65 = .ok (.getfield 26, 3) := by decide +kernel
theorem dX7_count_68 : decode cX7_count 68 = .ok (.iload_n 1, 1) := by decide +kernel
theorem dX7_count_69 : decode cX7_count 69 = .ok (.iconst 4, 1) := by decide +kernel
theorem dX7_count_70 : decode cX7_count 70 = .ok (.isub, 1) := by decide +kernel
theorem dX7_count_71 : decode cX7_count 71 = .ok (.baload, 1) := by decide +kernel
theorem dX7_count_72 : decode cX7_count 72 = .ok (.ifCond .eq 25, 3) := by decide +kernel
theorem dX7_count_75 : decode cX7_count 75 = .ok (.aload_n 0, 1) := by decide +kernel
theorem dX7_count_76 : decode cX7_count 76 = .ok (.getfield 33, 3) := by decide +kernel
theorem dX7_count_79 : decode cX7_count 79 = .ok (.bipush 64, 2) := by decide +kernel
theorem dX7_count_81 : decode cX7_count 81 = .ok (.iload_n 1, 1) := by decide +kernel
theorem dX7_count_82 : decode cX7_count 82 = .ok (.iconst 4, 1) := by decide +kernel
theorem dX7_count_83 : decode cX7_count 83 = .ok (.isub, 1) := by decide +kernel
theorem dX7_count_84 : decode cX7_count 84 = .ok (.imul, 1) := by decide +kernel
theorem dX7_count_85 : decode cX7_count 85 = .ok (.iload_n 3, 1) := by decide +kernel
theorem dX7_count_86 : decode cX7_count 86 = .ok (.iadd, 1) := by decide +kernel
theorem dX7_count_87 : decode cX7_count 87 = .ok (.baload, 1) := by decide +kernel
theorem dX7_count_88 : decode cX7_count 88 = .ok (.ifCond .eq 9, 3) := by decide +kernel
theorem dX7_count_91 : decode cX7_count 91 = .ok (.iload_n 2, 1) := by decide +kernel
theorem dX7_count_92 : decode cX7_count 92 = .ok (.iconst 1, 1) := by decide +kernel
theorem dX7_count_93 : decode cX7_count 93 = .ok (.iadd, 1) := by decide +kernel
theorem dX7_count_94 : decode cX7_count 94 = .ok (.goto 4, 3) := by decide +kernel
theorem dX7_count_97 : decode cX7_count 97 = .ok (.iload_n 2, 1) := by decide +kernel
theorem dX7_count_98 : decode cX7_count 98 = .ok (.istore_n 2, 1) := by decide +kernel
theorem dX7_count_99 : decode cX7_count 99 = .ok (.iinc 3 1, 3) := by decide +kernel
theorem dX7_count_102 : decode cX7_count 102 = .ok (.goto (-51), 3) := by decide +kernel
theorem dX7_count_105 : decode cX7_count 105 = .ok (.iload_n 2, 1) := by decide +kernel
theorem dX7_count_106 : decode cX7_count 106 = .ok (.ireturn, 1) := by decide +kernel
theorem dX7_count_107 : decode cX7_count 107 = .ok (.iload_n 1, 1) := by decide +kernel
theorem dX7_count_108 : decode cX7_count 108 = .ok (.iconst 2, 1) := by decide +kernel
theorem dX7_count_109 : decode cX7_count 109 = .ok (.if_icmp .eq 8, 3) := by decide +kernel
theorem dX7_count_112 : decode cX7_count 112 = .ok (.iload_n 1, 1) := by decide +kernel
theorem dX7_count_113 : decode cX7_count 113 = .ok (.iconst 3, 1) := by decide +kernel
theorem dX7_count_114 : decode cX7_count 114 = .ok (.if_icmp .ne 23, 3) := by decide +kernel
theorem dX7_count_117 : decode cX7_count 117 = .ok (.aload_n 0, 1) := by decide +kernel
theorem dX7_count_118 : decode cX7_count 118 = .ok (.getfield 145, 3) := by decide +kernel
theorem dX7_count_121 : decode cX7_count 121 = .ok (.ifCond .eq 14, 3) := by decide +kernel
theorem dX7_count_124 : decode cX7_count 124 = .ok (.aload_n 0, 1) := by decide +kernel
theorem dX7_count_125 : decode cX7_count 125 = .ok (.getfield 19, 3) := by decide +kernel
theorem dX7_count_128 : decode cX7_count 128 = .ok (.iload_n 1, 1) := by decide +kernel
theorem dX7_count_129 : decode cX7_count 129 = .ok (.iconst 2, 1) := by decide +kernel
theorem dX7_count_130 : decode cX7_count 130 = .ok (.isub, 1) := by decide +kernel
theorem dX7_count_131 : decode cX7_count 131 = .ok (.iaload, 1) := by decide +kernel
theorem dX7_count_132 : decode cX7_count 132 = .ok (.goto 4, 3) := by decide +kernel
theorem dX7_count_135 : decode cX7_count 135 = .ok (.iconst (-1), 1) := by decide +kernel
theorem dX7_count_136 : decode cX7_count 136 = .ok (.ireturn, 1) := by decide +kernel
theorem dX7_count_137 : decode cX7_count 137 = .ok (.iload_n 1, 1) := by decide +kernel

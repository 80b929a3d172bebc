theorem dX7_makeKeys_3 : decode cX7_makeKeys 3 = .ok (.bipush 32, 2) := by decide +kernel
theorem dX7_makeKeys_5 : decode cX7_makeKeys 5 = .ok (.if_icmp .ge 21, 3) := by decide +kernel
theorem dX7_makeKeys_8 : decode cX7_makeKeys 8 = .ok (.aload_n 0, 1) := by decide +kernel
theorem dX7_makeKeys_9 : decode cX7_makeKeys 9 = .ok (.getfield 63, 3) := by decide +kernel
theorem dX7_makeKeys_12 : decode cX7_makeKeys 12 = .ok (.iload_n 2, 1) := by decide +kernel
theorem dX7_makeKeys_13 : decode cX7_makeKeys 13 = .ok (.aload_n 0, 1) := by decide +kernel
theorem dX7_makeKeys_14 : decode cX7_makeKeys 14 = .ok (.getfield 57, 3) := by decide +kernel
theorem dX7_makeKeys_17 : decode cX7_makeKeys 17 = .ok (.iload_n 2, 1) := by decide +kernel
theorem dX7_makeKeys_18 : decode cX7_makeKeys 18 = .ok (.iaload, 1) := by decide +kernel
theorem dX7_makeKeys_19 : decode cX7_makeKeys 19 = .ok (.iastore, 1) := by decide +kernel
theorem dX7_makeKeys_20 : decode cX7_makeKeys 20 = .ok (.iinc 2 1, 3) := by decide +kernel
theorem dX7_makeKeys_23 : decode cX7_makeKeys 23 = .ok (.goto (-21), 3) := by decide +kernel
theorem dX7_makeKeys_26 : decode cX7_makeKeys 26 = .ok (.iconst 0, 1) := by decide +kernel
theorem dX7_makeKeys_27 : decode cX7_makeKeys 27 = .ok (.istore_n 2, 1) := by decide +kernel
theorem dX7_makeKeys_28 : decode cX7_makeKeys 28 = .ok (.iload_n 2, 1) := by decide +kernel
theorem dX7_makeKeys_29 : decode cX7_makeKeys 29 = .ok (.iconst 2, 1) := by decide +kernel
theorem dX7_makeKeys_30 : decode cX7_makeKeys 30 = .ok (.if_icmp .ge 116, 3) := by decide +kernel
theorem dX7_makeKeys_33 : decode cX7_makeKeys 33 = .ok (.iconst 0, 1) := by decide +kernel
theorem dX7_makeKeys_34 : decode cX7_makeKeys 34 = .ok (.istore_n 3, 1) := by decide +kernel
theorem dX7_makeKeys_35 : decode cX7_makeKeys 35 = .ok (.iload_n 3, 1) := by decide +kernel
theorem dX7_makeKeys_36 : decode cX7_makeKeys 36 = .ok (.bipush 32, 2) := by decide +kernel
theorem dX7_makeKeys_38 : decode cX7_makeKeys 38 = .ok (.if_icmp .ge 21, 3) := by decide +kernel
theorem dX7_makeKeys_41 : decode cX7_makeKeys 41 = .ok (.aload_n 0, 1) := by decide +kernel
theorem dX7_makeKeys_42 : decode cX7_makeKeys 42 = .ok (.getfield 60, 3) := by decide +kernel
theorem dX7_makeKeys_45 : decode cX7_makeKeys 45 = .ok (.iload_n 3, 1) := by decide +kernel
theorem dX7_makeKeys_46 : decode cX7_makeKeys 46 = .ok (.aload_n 0, 1) := by decide +kernel
theorem dX7_makeKeys_47 : decode cX7_makeKeys 47 = .ok (.getfield 63, 3) := by decide +kernel
theorem dX7_makeKeys_50 : decode cX7_makeKeys 50 = .ok (.iload_n 3, 1) := by decide +kernel
theorem dX7_makeKeys_51 : decode cX7_makeKeys 51 = .ok (.iaload, 1) := by decide +kernel
theorem dX7_makeKeys_52 : decode cX7_makeKeys 52 = .ok (.iastore, 1) := by decide +kernel
theorem dX7_makeKeys_53 : decode cX7_makeKeys 53 = .ok (.iinc 3 1, 3) := by decide +kernel
theorem dX7_makeKeys_56 : decode cX7_makeKeys 56 = .ok (.goto (-21), 3) := by decide +kernel
theorem dX7_makeKeys_59 : decode cX7_makeKeys 59 = .ok (.aload_n 0, 1) := by decide +kernel
theorem dX7_makeKeys_60 : decode cX7_makeKeys 60 = .ok (.getfield 66, 3) := by decide +kernel
theorem dX7_makeKeys_63 : decode cX7_makeKeys 63 = .ok (.iconst 0, 1) := by decide +kernel
theorem dX7_makeKeys_64 : decode cX7_makeKeys 64 = .ok (.iload_n 1, 1) := by decide +kernel
theorem dX7_makeKeys_65 : decode cX7_makeKeys 65 = .ok (.iastore, 1) := by decide +kernel
theorem dX7_makeKeys_66 : decode cX7_makeKeys 66 = .ok (.aload_n 0, 1) := by decide +kernel
theorem dX7_makeKeys_67 : decode cX7_makeKeys 67 = .ok (.getfield 66, 3) := by decide +kernel
theorem dX7_makeKeys_70 : decode cX7_makeKeys 70 = .ok (.iconst 1, 1) := by decide +kernel
theorem dX7_makeKeys_71 : decode cX7_makeKeys 71 = .ok (.iload_n 2, 1) := by decide +kernel
theorem dX7_makeKeys_72 : decode cX7_makeKeys 72 = .ok (.iastore, 1) := by decide +kernel
theorem dX7_makeKeys_73 : decode cX7_makeKeys 73 = .ok (.aload_n 0, 1) := by decide +kernel
theorem dX7_makeKeys_74 : decode cX7_makeKeys 74 = .ok (.getfield 66, 3) := by decide +kernel
theorem dX7_makeKeys_77 : decode cX7_makeKeys 77 = .ok (.iconst 2, 1) := by decide +kernel
theorem dX7_makeKeys_78 : decode cX7_makeKeys 78 = .ok (.iconst 1, 1) := by decide +kernel
theorem dX7_makeKeys_79 : decode cX7_makeKeys 79 = .ok (.iastore, 1) := by decide +kernel
theorem dX7_makeKeys_80 : decode cX7_makeKeys 80 = .ok (.aload_n 0, 1) := by decide +kernel
theorem dX7_makeKeys_81 : decode cX7_makeKeys 81 = .ok (.iconst 3, 1) := by decide +kernel
theorem dX7_makeKeys_82 : decode cX7_makeKeys 82 = .ok (.invokevirtual 175, 3) := by decide +kernel
theorem dX7_makeKeys_85 : decode cX7_makeKeys 85 = .ok (.iconst 0, 1) := by decide +kernel
theorem dX7_makeKeys_86 : decode cX7_makeKeys 86 = .ok (.istore_n 3, 1) := by decide +kernel
theorem dX7_makeKeys_87 : decode cX7_makeKeys 87 = .ok (.iload_n 3, 1) := by decide +kernel
theorem dX7_makeKeys_88 : decode cX7_makeKeys 88 = .ok (.bipush 32, 2) := by decide +kernel
theorem dX7_makeKeys_90 : decode cX7_makeKeys 90 = .ok (.if_icmp .ge 50, 3) := by decide +kernel
theorem dX7_makeKeys_93 : decode cX7_makeKeys 93 = .ok (.iload_n 2, 1) := by decide +kernel
theorem dX7_makeKeys_94 : decode cX7_makeKeys 94 = .ok (.ifCond .ne 23, 3) := by decide +kernel
theorem dX7_makeKeys_97 : decode cX7_makeKeys 97 = .ok (.aload_n 0, 1) := by decide +kernel
theorem dX7_makeKeys_98 : decode cX7_makeKeys 98 = .ok (.getfield 13, 3) := by decide +kernel
theorem dX7_makeKeys_101 : decode cX7_makeKeys 101 = .ok (.bipush 32, 2) := by decide +kernel
theorem dX7_makeKeys_103 : decode cX7_makeKeys 103 = .ok (.iload_n 1, 1) := by decide +kernel
theorem dX7_makeKeys_104 : decode cX7_makeKeys 104 = .ok (.imul, 1) := by decide +kernel
theorem dX7_makeKeys_105 : decode cX7_makeKeys 105 = .ok (.iload_n 3, 1) := by decide +kernel
theorem dX7_makeKeys_106 : decode cX7_makeKeys 106 = .ok (.iadd, 1) := by decide +kernel
theorem dX7_makeKeys_107 : decode cX7_makeKeys 107 = .ok (.aload_n 0, 1) := by decide +kernel
theorem dX7_makeKeys_108 : decode cX7_makeKeys 108 = .ok (.getfield 57, 3) := by decide +kernel
theorem dX7_makeKeys_111 : decode cX7_makeKeys 111 = .ok (.iload_n 3, 1) := by decide +kernel
theorem dX7_makeKeys_112 : decode cX7_makeKeys 112 = .ok (.iaload, 1) := by decide +kernel
theorem dX7_makeKeys_113 : decode cX7_makeKeys 113 = .ok (.iastore, 1) := by decide +kernel
theorem dX7_makeKeys_114 : decode cX7_makeKeys 114 = .ok (.goto 20, 3) := by decide +kernel
theorem dX7_makeKeys_117 : decode cX7_makeKeys 117 = .ok (.aload_n 0, 1) := by decide +kernel
theorem dX7_makeKeys_118 : decode cX7_makeKeys 118 = .ok (.getfield 16, 3) := by decide +kernel
theorem dX7_makeKeys_121 : decode cX7_makeKeys 121 = .ok (.bipush 32, 2) := by decide +kernel
theorem dX7_makeKeys_123 : decode cX7_makeKeys 123 = .ok (.iload_n 1, 1) := by decide +kernel
theorem dX7_makeKeys_124 : decode cX7_makeKeys 124 = .ok (.imul, 1) := by decide +kernel
theorem dX7_makeKeys_125 : decode cX7_makeKeys 125 = .ok (.iload_n 3, 1) := by decide +kernel
theorem dX7_makeKeys_126 : decode cX7_makeKeys 126 = .ok (.iadd, 1) := by decide +kernel
theorem dX7_makeKeys_127 : decode cX7_makeKeys 127 = .ok (.aload_n 0, 1) := by decide +kernel
theorem dX7_makeKeys_128 : decode cX7_makeKeys 128 = .ok (.getfield 57, 3) := by decide +kernel
theorem dX7_makeKeys_131 : decode cX7_makeKeys 131 = .ok (.iload_n 3, 1) := by decide +kernel
theorem dX7_makeKeys_132 : decode cX7_makeKeys 132 = .ok (.iaload, 1) := by decide +kernel
theorem dX7_makeKeys_133 : decode cX7_makeKeys 133 = .ok (.iastore, 1) := by decide +kernel
theorem dX7_makeKeys_134 : decode cX7_makeKeys 134 = .ok (.iinc 3 1, 3) := by decide +kernel
theorem dX7_makeKeys_137 : decode cX7_makeKeys 137 = .ok (.goto (-50), 3) := by decide +kernel
theorem dX7_makeKeys_140 : decode cX7_makeKeys 140 = .ok (.iinc 2 1, 3) := by decide +kernel
theorem dX7_makeKeys_143 : decode cX7_makeKeys 143 = .ok (.goto (-115), 3) := by decide +kernel
theorem dX7_makeKeys_146 : decode cX7_makeKeys 146 = .ok (.aload_n 0, 1) := by decide +kernel
theorem dX7_makeKeys_147 : decode cX7_makeKeys 147 = .ok (.getfield 22, 3) := by decide +kernel
theorem dX7_makeKeys_150 : decode cX7_makeKeys 150 = .ok (.iload_n 1, 1) := by decide +kernel
theorem dX7_makeKeys_151 : decode cX7_makeKeys 151 = .ok (.lconst 0, 1) := by decide +kernel
theorem dX7_makeKeys_152 : decode cX7_makeKeys 152 = .ok (.lastore, 1) := by decide +kernel
theorem dX7_makeKeys_153 : decode cX7_makeKeys 153 = .ok (.aload_n 0, 1) := by decide +kernel
theorem dX7_makeKeys_154 : decode cX7_makeKeys 154 = .ok (.getfield 26, 3) := by decide +kernel
theorem dX7_makeKeys_157 : decode cX7_makeKeys 157 = .ok (.iload_n 1, 1) := by decide +kernel
theorem dX7_makeKeys_158 : decode cX7_makeKeys 158 = .ok (.iconst 0, 1) := by decide +kernel
theorem dX7_makeKeys_159 : decode cX7_makeKeys 159 = .ok (.bastore, 1) := by decide +kernel
theorem dX7_makeKeys_160 : decode cX7_makeKeys 160 = .ok (.return_, 1) := by decide +kernel
theorem dX7_setPsk_0 : decode cX7_setPsk 0 = .ok (.iload_n 1, 1) := by decide +kernel
theorem dX7_setPsk_1 : decode cX7_setPsk 1 = .ok (.ifCond .lt 31, 3) := by decide +kernel
theorem dX7_setPsk_4 : decode cX7_setPsk 4 = .ok (.iload_n 1, 1) := by decide +kernel
theorem dX7_setPsk_5 : decode cX7_setPsk 5 = .ok (.bipush 32, 2) := by decide +kernel
theorem dX7_setPsk_7 : decode cX7_setPsk 7 = .ok (.if_icmp .ge 25, 3) := by decide +kernel
theorem dX7_setPsk_10 : decode cX7_setPsk 10 = .ok (.iload_n 2, 1) := by decide +kernel
theorem dX7_setPsk_11 : decode cX7_setPsk 11 = .ok (.ifCond .lt 21, 3) := by decide +kernel
theorem dX7_setPsk_14 : decode cX7_setPsk 14 = .ok (.iload_n 2, 1) := by decide +kernel
theorem dX7_setPsk_15 : decode cX7_setPsk 15 = .ok (.sipush 256, 3) := by decide +kernel
theorem dX7_setPsk_18 : decode cX7_setPsk 18 = .ok (.if_icmp .ge 14, 3) := by decide +kernel
theorem dX7_setPsk_21 : decode cX7_setPsk 21 = .ok (.aload_n 0, 1) := by decide +kernel
theorem dX7_setPsk_22 : decode cX7_setPsk 22 = .ok (.getfield 145, 3) := by decide +kernel
theorem dX7_setPsk_25 : decode cX7_setPsk 25 = .ok (.ifCond .ne 7, 3) := by decide +kernel

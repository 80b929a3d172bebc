set_option maxRecDepth 20000 in
theorem ggX7_send_X7_tag : GoodIn wsX7_send wsX7_tag := goodIn_r _ [47, 48, 49, 50, 3, 51, 52, 53, 12, 54, 55, 8, 56, 57, 58, 59, 60, 61, 62, 63, 64, 65, 66, 67, 68, 69, 70, 71, 72, 73, 74, 75, 76, 77, 78, 79, 80, 81, 82, 83, 84, 85, 86, 87, 88, 89, 90, 91, 92, 93, 94, 95, 96, 97, 98, 99, 100, 101, 102] (by decide +kernel) (by decide +kernel)
set_option maxRecDepth 20000 in
theorem gX7_send_X7_tag : GoodIn wsX7_send (wsV RX7 210 RX7 yX7_tag wsX7_tag) := goodIn_app (goodIn_of _ (by decide +kernel)) ggX7_send_X7_tag
theorem dX7_send_0 : decode cX7_send 0 = .ok (.iload_n 1, 1) := by decide +kernel
theorem dX7_send_1 : decode cX7_send 1 = .ok (.ifCond .eq 8, 3) := by decide +kernel
theorem dX7_send_4 : decode cX7_send 4 = .ok (.iload_n 1, 1) := by decide +kernel
theorem dX7_send_5 : decode cX7_send 5 = .ok (.iconst 1, 1) := by decide +kernel
theorem dX7_send_6 : decode cX7_send 6 = .ok (.if_icmp .ne 10, 3) := by decide +kernel
theorem dX7_send_9 : decode cX7_send 9 = .ok (.aload_n 0, 1) := by decide +kernel
theorem dX7_send_10 : decode cX7_send 10 = .ok (.getfield 145, 3) := by decide +kernel
theorem dX7_send_13 : decode cX7_send 13 = .ok (.ifCond .ne 5, 3) := by decide +kernel
theorem dX7_send_16 : decode cX7_send 16 = .ok (.iconst (-1), 1) := by decide +kernel
theorem dX7_send_17 : decode cX7_send 17 = .ok (.ireturn, 1) := by decide +kernel
theorem dX7_send_18 : decode cX7_send 18 = .ok (.iconst 0, 1) := by decide +kernel
theorem dX7_send_19 : decode cX7_send 19 = .ok (.istore_n 2, 1) := by decide +kernel
theorem dX7_send_20 : decode cX7_send 20 = .ok (.iload_n 2, 1) := by decide +kernel
theorem dX7_send_21 : decode cX7_send 21 = .ok (.bipush 8, 2) := by decide +kernel
theorem dX7_send_23 : decode cX7_send 23 = .ok (.if_icmp .ge 18, 3) := by decide +kernel
theorem dX7_send_26 : decode cX7_send 26 = .ok (.aload_n 0, 1) := by decide +kernel
theorem dX7_send_27 : decode cX7_send 27 = .ok (.getfield 39, 3) := by decide +kernel
theorem dX7_send_30 : decode cX7_send 30 = .ok (.iload_n 2, 1) := by decide +kernel
theorem dX7_send_31 : decode cX7_send 31 = .ok (.iaload, 1) := by decide +kernel
theorem dX7_send_32 : decode cX7_send 32 = .ok (.ifCond .le 9, 3) := by decide +kernel
theorem dX7_send_35 : decode cX7_send 35 = .ok (.iinc 2 1, 3) := by decide +kernel
theorem dX7_send_38 : decode cX7_send 38 = .ok (.goto (-18), 3) := by decide +kernel
theorem dX7_send_41 : decode cX7_send 41 = .ok (.iload_n 2, 1) := by decide +kernel
theorem dX7_send_42 : decode cX7_send 42 = .ok (.bipush 8, 2) := by decide +kernel
theorem dX7_send_44 : decode cX7_send 44 = .ok (.if_icmp .ne 6, 3) := by decide +kernel
theorem dX7_send_47 : decode cX7_send 47 = .ok (.bipush (-2), 2) := by decide +kernel
theorem dX7_send_49 : decode cX7_send 49 = .ok (.ireturn, 1) := by decide +kernel
theorem dX7_send_50 : decode cX7_send 50 = .ok (.sipush 128, 3) := by decide +kernel
theorem dX7_send_53 : decode cX7_send 53 = .ok (.iload_n 2, 1) := by decide +kernel
theorem dX7_send_54 : decode cX7_send 54 = .ok (.imul, 1) := by decide +kernel
theorem dX7_send_55 : decode cX7_send 55 = .ok (.istore_n 3, 1) := by decide +kernel
theorem dX7_send_56 : decode cX7_send 56 = .ok (.aload_n 0, 1) := by decide +kernel
theorem dX7_send_57 : decode cX7_send 57 = .ok (.getfield 36, 3) := by decide +kernel
theorem dX7_send_60 : decode cX7_send 60 = .ok (.iload_n 3, 1) := by decide +kernel
theorem dX7_send_61 : decode cX7_send 61 = .ok (.iload_n 1, 1) := by decide +kernel
theorem dX7_send_62 : decode cX7_send 62 = .ok (.iastore, 1) := by decide +kernel
theorem dX7_send_63 : decode cX7_send 63 = .ok (.aload_n 0, 1) := by decide +kernel
theorem dX7_send_64 : decode cX7_send 64 = .ok (.iload_n 3, 1) := by decide +kernel
theorem dX7_send_65 : decode cX7_send 65 = .ok (.iconst 1, 1) := by decide +kernel
theorem dX7_send_66 : decode cX7_send 66 = .ok (.iadd, 1) := by decide +kernel
theorem dX7_send_67 : decode cX7_send 67 = .ok (.aload_n 0, 1) := by decide +kernel
theorem dX7_send_68 : decode cX7_send 68 = .ok (.getfield 19, 3) := by decide +kernel
theorem dX7_send_71 : decode cX7_send 71 = .ok (.iload_n 1, 1) := by decide +kernel
theorem dX7_send_72 : decode cX7_send 72 = .ok (.iaload, 1) := by decide +kernel
theorem dX7_send_73 : decode cX7_send 73 = .ok (.i2l, 1) := by decide +kernel
theorem dX7_send_74 : decode cX7_send 74 = .ok (.iconst 4, 1) := by decide +kernel
theorem dX7_send_75 : decode cX7_send 75 = .ok (.invokevirtual 202, 3) := by decide +kernel
theorem dX7_send_78 : decode cX7_send 78 = .ok (.aload_n 0, 1) := by decide +kernel
theorem dX7_send_79 : decode cX7_send 79 = .ok (.iload_n 3, 1) := by decide +kernel
theorem dX7_send_80 : decode cX7_send 80 = .ok (.iconst 5, 1) := by decide +kernel
theorem dX7_send_81 : decode cX7_send 81 = .ok (.iadd, 1) := by decide +kernel
theorem dX7_send_82 : decode cX7_send 82 = .ok (.aload_n 0, 1) := by decide +kernel
theorem dX7_send_83 : decode cX7_send 83 = .ok (.getfield 22, 3) := by decide +kernel
theorem dX7_send_86 : decode cX7_send 86 = .ok (.iload_n 1, 1) := by decide +kernel
theorem dX7_send_87 : decode cX7_send 87 = .ok (.laload, 1) := by decide +kernel
theorem dX7_send_88 : decode cX7_send 88 = .ok (.bipush 8, 2) := by decide +kernel
theorem dX7_send_90 : decode cX7_send 90 = .ok (.invokevirtual 202, 3) := by decide +kernel
theorem dX7_send_93 : decode cX7_send 93 = .ok (.aload_n 0, 1) := by decide +kernel
theorem dX7_send_94 : decode cX7_send 94 = .ok (.iload_n 3, 1) := by decide +kernel
theorem dX7_send_95 : decode cX7_send 95 = .ok (.bipush 13, 2) := by decide +kernel
theorem dX7_send_97 : decode cX7_send 97 = .ok (.iadd, 1) := by decide +kernel
theorem dX7_send_98 : decode cX7_send 98 = .ok (.aload_n 0, 1) := by decide +kernel
theorem dX7_send_99 : decode cX7_send 99 = .ok (.getfield 149, 3) := by decide +kernel
theorem dX7_send_102 : decode cX7_send 102 = .ok (.i2l, 1) := by decide +kernel
theorem dX7_send_103 : decode cX7_send 103 = .ok (.iconst 2, 1) := by decide +kernel
theorem dX7_send_104 : decode cX7_send 104 = .ok (.invokevirtual 202, 3) := by decide +kernel
theorem dX7_send_107 : decode cX7_send 107 = .ok (.iconst 0, 1) := by decide +kernel
theorem dX7_send_108 : decode cX7_send 108 = .ok (.istore 4, 2) := by decide +kernel
theorem dX7_send_110 : decode cX7_send 110 = .ok (.iload 4, 2) := by decide +kernel
theorem dX7_send_112 : decode cX7_send 112 = .ok (.aload_n 0, 1) := by decide +kernel
theorem dX7_send_113 : decode cX7_send 113 = .ok (.getfield 149, 3) := by decide +kernel
theorem dX7_send_116 : decode cX7_send 116 = .ok (.if_icmp .ge 37, 3) := by decide +kernel
theorem dX7_send_119 : decode cX7_send 119 = .ok (.aload_n 0, 1) := by decide +kernel
theorem dX7_send_120 : decode cX7_send 120 = .ok (.getfield 36, 3) := by decide +kernel
theorem dX7_send_123 : decode cX7_send 123 = .ok (.iload_n 3, 1) := by decide +kernel
theorem dX7_send_124 : decode cX7_send 124 = .ok (.bipush 15, 2) := by decide +kernel
theorem dX7_send_126 : decode cX7_send 126 = .ok (.iadd, 1) := by decide +kernel
theorem dX7_send_127 : decode cX7_send 127 = .ok (.iload 4, 2) := by decide +kernel
theorem dX7_send_129 : decode cX7_send 129 = .ok (.iadd, 1) := by decide +kernel
theorem dX7_send_130 : decode cX7_send 130 = .ok (.aload_n 0, 1) := by decide +kernel
theorem dX7_send_131 : decode cX7_send 131 = .ok (.getfield 42, 3) := by decide +kernel
theorem dX7_send_134 : decode cX7_send 134 = .ok (.iload 4, 2) := by decide +kernel
theorem dX7_send_136 : decode cX7_send 136 = .ok (.iaload, 1) := by decide +kernel
theorem dX7_send_137 : decode cX7_send 137 = .ok (.aload_n 0, 1) := by decide +kernel
theorem dX7_send_138 : decode cX7_send 138 = .ok (.iload_n 1, 1) := by decide +kernel
theorem dX7_send_139 : decode cX7_send 139 = .ok (.iload_n 2, 1) := by decide +kernel
theorem dX7_send_140 : decode cX7_send 140 = .ok (.iload 4, 2) := by decide +kernel
theorem dX7_send_142 : decode cX7_send 142 = .ok (.invokevirtual 206, 3) := by decide +kernel
theorem dX7_send_145 : decode cX7_send 145 = .ok (.ixor, 1) := by decide +kernel
theorem dX7_send_146 : decode cX7_send 146 = .ok (.iastore, 1) := by decide +kernel
theorem dX7_send_147 : decode cX7_send 147 = .ok (.iinc 4 1, 3) := by decide +kernel
theorem dX7_send_150 : decode cX7_send 150 = .ok (.goto (-40), 3) := by decide +kernel
theorem dX7_send_153 : decode cX7_send 153 = .ok (.aload_n 0, 1) := by decide +kernel
theorem dX7_send_154 : decode cX7_send 154 = .ok (.iload_n 1, 1) := by decide +kernel
theorem dX7_send_155 : decode cX7_send 155 = .ok (.iload_n 2, 1) := by decide +kernel
theorem dX7_send_156 : decode cX7_send 156 = .ok (.bipush 15, 2) := by decide +kernel
theorem dX7_send_158 : decode cX7_send 158 = .ok (.aload_n 0, 1) := by decide +kernel
theorem dX7_send_159 : decode cX7_send 159 = .ok (.getfield 149, 3) := by decide +kernel
theorem dX7_send_162 : decode cX7_send 162 = .ok (.iadd, 1) := by decide +kernel
theorem dX7_send_163 : decode cX7_send 163 = .ok (.invokevirtual 210, 3) := by decide +kernel
theorem dX7_send_166 : decode cX7_send 166 = .ok (.iconst 0, 1) := by decide +kernel
theorem dX7_send_167 : decode cX7_send 167 = .ok (.istore 4, 2) := by decide +kernel
theorem dX7_send_169 : decode cX7_send 169 = .ok (.iload 4, 2) := by decide +kernel
theorem dX7_send_171 : decode cX7_send 171 = .ok (.bipush 16, 2) := by decide +kernel
theorem dX7_send_173 : decode cX7_send 173 = .ok (.if_icmp .ge 33, 3) := by decide +kernel
theorem dX7_send_176 : decode cX7_send 176 = .ok (.aload_n 0, 1) := by decide +kernel
theorem dX7_send_177 : decode cX7_send 177 = .ok (.getfield 36, 3) := by decide +kernel
theorem dX7_send_180 : decode cX7_send 180 = .ok (.iload_n 3, 1) := by decide +kernel

set_option maxRecDepth 20000 in
theorem ggX7_deliver_X7_streamByte : GoodIn wsX7_deliver wsX7_streamByte := goodIn_r _ [62, 63, 64, 65, 66, 67, 15, 68, 69, 70, 71, 72, 73, 74, 75, 76, 77, 78, 79, 80, 81, 2, 82, 83, 84, 85, 86, 87, 88, 89, 90, 91, 92, 93, 94, 95, 96, 97, 98, 99, 100, 101, 102, 103, 104, 105, 106, 107, 108, 109, 110, 111, 112, 113] (by decide +kernel) (by decide +kernel)
set_option maxRecDepth 20000 in
theorem gX7_deliver_X7_streamByte : GoodIn wsX7_deliver (wsV RX7 206 RX7 yX7_streamByte wsX7_streamByte) := goodIn_app (goodIn_of _ (by decide +kernel)) ggX7_deliver_X7_streamByte
theorem dX7_deliver_0 : decode cX7_deliver 0 = .ok (.aload_n 0, 1) := by decide +kernel
theorem dX7_deliver_1 : decode cX7_deliver 1 = .ok (.iload_n 1, 1) := by decide +kernel
theorem dX7_deliver_2 : decode cX7_deliver 2 = .ok (.invokevirtual 215, 3) := by decide +kernel
theorem dX7_deliver_5 : decode cX7_deliver 5 = .ok (.ifCond .eq 19, 3) := by decide +kernel
theorem dX7_deliver_8 : decode cX7_deliver 8 = .ok (.iload_n 2, 1) := by decide +kernel
theorem dX7_deliver_9 : decode cX7_deliver 9 = .ok (.ifCond .eq 8, 3) := by decide +kernel
theorem dX7_deliver_12 : decode cX7_deliver 12 = .ok (.iload_n 2, 1) := by decide +kernel
theorem dX7_deliver_13 : decode cX7_deliver 13 = .ok (.iconst 1, 1) := by decide +kernel
theorem dX7_deliver_14 : decode cX7_deliver 14 = .ok (.if_icmp .ne 10, 3) := by decide +kernel
theorem dX7_deliver_17 : decode cX7_deliver 17 = .ok (.aload_n 0, 1) := by decide +kernel
theorem dX7_deliver_18 : decode cX7_deliver 18 = .ok (.getfield 145, 3) := by decide +kernel
theorem dX7_deliver_21 : decode cX7_deliver 21 = .ok (.ifCond .ne 5, 3) := by decide +kernel
theorem dX7_deliver_24 : decode cX7_deliver 24 = .ok (.iconst 1, 1) := by decide +kernel
theorem dX7_deliver_25 : decode cX7_deliver 25 = .ok (.ireturn, 1) := by decide +kernel
theorem dX7_deliver_26 : decode cX7_deliver 26 = .ok (.sipush 128, 3) := by decide +kernel
theorem dX7_deliver_29 : decode cX7_deliver 29 = .ok (.iload_n 1, 1) := by decide +kernel
theorem dX7_deliver_30 : decode cX7_deliver 30 = .ok (.imul, 1) := by decide +kernel
theorem dX7_deliver_31 : decode cX7_deliver 31 = .ok (.istore_n 3, 1) := by decide +kernel
theorem dX7_deliver_32 : decode cX7_deliver 32 = .ok (.iconst 1, 1) := by decide +kernel
theorem dX7_deliver_33 : decode cX7_deliver 33 = .ok (.iload_n 2, 1) := by decide +kernel
theorem dX7_deliver_34 : decode cX7_deliver 34 = .ok (.isub, 1) := by decide +kernel
theorem dX7_deliver_35 : decode cX7_deliver 35 = .ok (.istore 4, 2) := by decide +kernel
theorem dX7_deliver_37 : decode cX7_deliver 37 = .ok (.aload_n 0, 1) := by decide +kernel
theorem dX7_deliver_38 : decode cX7_deliver 38 = .ok (.iload_n 3, 1) := by decide +kernel
theorem dX7_deliver_39 : decode cX7_deliver 39 = .ok (.bipush 13, 2) := by decide +kernel
theorem dX7_deliver_41 : decode cX7_deliver 41 = .ok (.iadd, 1) := by decide +kernel
theorem dX7_deliver_42 : decode cX7_deliver 42 = .ok (.iconst 2, 1) := by decide +kernel
theorem dX7_deliver_43 : decode cX7_deliver 43 = .ok (.invokevirtual 219, 3) := by decide +kernel
theorem dX7_deliver_46 : decode cX7_deliver 46 = .ok (.l2i, 1) := by decide +kernel
theorem dX7_deliver_47 : decode cX7_deliver 47 = .ok (.istore 5, 2) := by decide +kernel
theorem dX7_deliver_49 : decode cX7_deliver 49 = .ok (.aload_n 0, 1) := by decide +kernel
theorem dX7_deliver_50 : decode cX7_deliver 50 = .ok (.getfield 36, 3) := by decide +kernel
theorem dX7_deliver_53 : decode cX7_deliver 53 = .ok (.iload_n 3, 1) := by decide +kernel
theorem dX7_deliver_54 : decode cX7_deliver 54 = .ok (.iaload, 1) := by decide +kernel
theorem dX7_deliver_55 : decode cX7_deliver 55 = .ok (.iload 4, 2) := by decide +kernel
theorem dX7_deliver_57 : decode cX7_deliver 57 = .ok (.if_icmp .ne 27, 3) := by decide +kernel
theorem dX7_deliver_60 : decode cX7_deliver 60 = .ok (.iload 5, 2) := by decide +kernel
theorem dX7_deliver_62 : decode cX7_deliver 62 = .ok (.bipush 96, 2) := by decide +kernel
theorem dX7_deliver_64 : decode cX7_deliver 64 = .ok (.if_icmp .gt 20, 3) := by decide +kernel
theorem dX7_deliver_67 : decode cX7_deliver 67 = .ok (.aload_n 0, 1) := by decide +kernel
theorem dX7_deliver_68 : decode cX7_deliver 68 = .ok (.getfield 39, 3) := by decide +kernel
theorem dX7_deliver_71 : decode cX7_deliver 71 = .ok (.iload_n 1, 1) := by decide +kernel
theorem dX7_deliver_72 : decode cX7_deliver 72 = .ok (.iaload, 1) := by decide +kernel
theorem dX7_deliver_73 : decode cX7_deliver 73 = .ok (.bipush 15, 2) := by decide +kernel
theorem dX7_deliver_75 : decode cX7_deliver 75 = .ok (.iload 5, 2) := by decide +kernel
theorem dX7_deliver_77 : decode cX7_deliver 77 = .ok (.iadd, 1) := by decide +kernel
theorem dX7_deliver_78 : decode cX7_deliver 78 = .ok (.bipush 16, 2) := by decide +kernel
theorem dX7_deliver_80 : decode cX7_deliver 80 = .ok (.iadd, 1) := by decide +kernel
theorem dX7_deliver_81 : decode cX7_deliver 81 = .ok (.if_icmp .eq 5, 3) := by decide +kernel
theorem dX7_deliver_84 : decode cX7_deliver 84 = .ok (.iconst 2, 1) := by decide +kernel
theorem dX7_deliver_85 : decode cX7_deliver 85 = .ok (.ireturn, 1) := by decide +kernel
theorem dX7_deliver_86 : decode cX7_deliver 86 = .ok (.aload_n 0, 1) := by decide +kernel
theorem dX7_deliver_87 : decode cX7_deliver 87 = .ok (.iload_n 3, 1) := by decide +kernel
theorem dX7_deliver_88 : decode cX7_deliver 88 = .ok (.iconst 1, 1) := by decide +kernel
theorem dX7_deliver_89 : decode cX7_deliver 89 = .ok (.iadd, 1) := by decide +kernel
theorem dX7_deliver_90 : decode cX7_deliver 90 = .ok (.iconst 4, 1) := by decide +kernel
theorem dX7_deliver_91 : decode cX7_deliver 91 = .ok (.invokevirtual 219, 3) := by decide +kernel
theorem dX7_deliver_94 : decode cX7_deliver 94 = .ok (.aload_n 0, 1) := by decide +kernel
theorem dX7_deliver_95 : decode cX7_deliver 95 = .ok (.getfield 19, 3) := by decide +kernel
theorem dX7_deliver_98 : decode cX7_deliver 98 = .ok (.iload 4, 2) := by decide +kernel
theorem dX7_deliver_100 : decode cX7_deliver 100 = .ok (.iaload, 1) := by decide +kernel
theorem dX7_deliver_101 : decode cX7_deliver 101 = .ok (.i2l, 1) := by decide +kernel
theorem dX7_deliver_102 : decode cX7_deliver 102 = .ok (.lcmp, 1) := by decide +kernel
theorem dX7_deliver_103 : decode cX7_deliver 103 = .ok (.ifCond .eq 5, 3) := by decide +kernel
theorem dX7_deliver_106 : decode cX7_deliver 106 = .ok (.iconst 3, 1) := by decide +kernel
theorem dX7_deliver_107 : decode cX7_deliver 107 = .ok (.ireturn, 1) := by decide +kernel
theorem dX7_deliver_108 : decode cX7_deliver 108 = .ok (.aload_n 0, 1) := by decide +kernel
theorem dX7_deliver_109 : decode cX7_deliver 109 = .ok (.iload 4, 2) := by decide +kernel
theorem dX7_deliver_111 : decode cX7_deliver 111 = .ok (.iload_n 1, 1) := by decide +kernel
theorem dX7_deliver_112 : decode cX7_deliver 112 = .ok (.bipush 15, 2) := by decide +kernel
theorem dX7_deliver_114 : decode cX7_deliver 114 = .ok (.iload 5, 2) := by decide +kernel
theorem dX7_deliver_116 : decode cX7_deliver 116 = .ok (.iadd, 1) := by decide +kernel
theorem dX7_deliver_117 : decode cX7_deliver 117 = .ok (.invokevirtual 210, 3) := by decide +kernel
theorem dX7_deliver_120 : decode cX7_deliver 120 = .ok (.iconst 0, 1) := by decide +kernel
theorem dX7_deliver_121 : decode cX7_deliver 121 = .ok (.istore 6, 2) := by decide +kernel
theorem dX7_deliver_123 : decode cX7_deliver 123 = .ok (.iload 6, 2) := by decide +kernel
theorem dX7_deliver_125 : decode cX7_deliver 125 = .ok (.bipush 16, 2) := by decide +kernel
theorem dX7_deliver_127 : decode cX7_deliver 127 = .ok (.if_icmp .ge 36, 3) := by decide +kernel
theorem dX7_deliver_130 : decode cX7_deliver 130 = .ok (.aload_n 0, 1) := by decide +kernel
theorem dX7_deliver_131 : decode cX7_deliver 131 = .ok (.getfield 36, 3) := by decide +kernel
theorem dX7_deliver_134 : decode cX7_deliver 134 = .ok (.iload_n 3, 1) := by decide +kernel
theorem dX7_deliver_135 : decode cX7_deliver 135 = .ok (.bipush 15, 2) := by decide +kernel
theorem dX7_deliver_137 : decode cX7_deliver 137 = .ok (.iadd, 1) := by decide +kernel
theorem dX7_deliver_138 : decode cX7_deliver 138 = .ok (.iload 5, 2) := by decide +kernel
theorem dX7_deliver_140 : decode cX7_deliver 140 = .ok (.iadd, 1) := by decide +kernel
theorem dX7_deliver_141 : decode cX7_deliver 141 = .ok (.iload 6, 2) := by decide +kernel
theorem dX7_deliver_143 : decode cX7_deliver 143 = .ok (.iadd, 1) := by decide +kernel
theorem dX7_deliver_144 : decode cX7_deliver 144 = .ok (.iaload, 1) := by decide +kernel
theorem dX7_deliver_145 : decode cX7_deliver 145 = .ok (.aload_n 0, 1) := by decide +kernel
theorem dX7_deliver_146 : decode cX7_deliver 146 = .ok (.getfield 57, 3) := by decide +kernel
theorem dX7_deliver_149 : decode cX7_deliver 149 = .ok (.iload 6, 2) := by decide +kernel
theorem dX7_deliver_151 : decode cX7_deliver 151 = .ok (.iaload, 1) := by decide +kernel
theorem dX7_deliver_152 : decode cX7_deliver 152 = .ok (.if_icmp .eq 5, 3) := by decide +kernel
theorem dX7_deliver_155 : decode cX7_deliver 155 = .ok (.iconst 4, 1) := by decide +kernel
theorem dX7_deliver_156 : decode cX7_deliver 156 = .ok (.ireturn, 1) := by decide +kernel
theorem dX7_deliver_157 : decode cX7_deliver 157 = .ok (.iinc 6 1, 3) := by decide +kernel
theorem dX7_deliver_160 : decode cX7_deliver 160 = .ok (.goto (-37), 3) := by decide +kernel
theorem dX7_deliver_163 : decode cX7_deliver 163 = .ok (.aload_n 0, 1) := by decide +kernel
theorem dX7_deliver_164 : decode cX7_deliver 164 = .ok (.iload_n 3, 1) := by decide +kernel
theorem dX7_deliver_165 : decode cX7_deliver 165 = .ok (.iconst 5, 1) := by decide +kernel
theorem dX7_deliver_166 : decode cX7_deliver 166 = .ok (.iadd, 1) := by decide +kernel
theorem dX7_deliver_167 : decode cX7_deliver 167 = .ok (.bipush 8, 2) := by decide +kernel
theorem dX7_deliver_169 : decode cX7_deliver 169 = .ok (.invokevirtual 219, 3) := by decide +kernel
theorem dX7_deliver_172 : decode cX7_deliver 172 = .ok (.lstore 6, 2) := by decide +kernel
theorem dX7_deliver_174 : decode cX7_deliver 174 = .ok (.aload_n 0, 1) := by decide +kernel
theorem dX7_deliver_175 : decode cX7_deliver 175 = .ok (.getfield 26, 3) := by decide +kernel
theorem dX7_deliver_178 : decode cX7_deliver 178 = .ok (.iload 4, 2) := by decide +kernel
theorem dX7_deliver_180 : decode cX7_deliver 180 = .ok (.baload, 1) := by decide +kernel

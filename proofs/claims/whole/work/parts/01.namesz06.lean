set_option maxRecDepth 20000 in
theorem ggX7_stream_X7_quarter : GoodIn wsX7_stream wsX7_quarter := goodIn_r _ [21, 6, 22, 23, 10, 24, 25, 26, 27, 28, 29, 30, 31, 32, 33, 34, 35, 36, 37, 38, 39, 40, 41, 42, 43, 44, 45, 46, 47, 48, 49] (by decide +kernel) (by decide +kernel)
set_option maxRecDepth 20000 in
theorem gX7_stream_X7_quarter : GoodIn wsX7_stream (wsV RX7 194 RX7 yX7_quarter wsX7_quarter) := goodIn_app (goodIn_of _ (by decide +kernel)) ggX7_stream_X7_quarter
theorem dX7_stream_0 : decode cX7_stream 0 = .ok (.aload_n 0, 1) := by decide +kernel
theorem dX7_stream_1 : decode cX7_stream 1 = .ok (.getfield 136, 3) := by decide +kernel
theorem dX7_stream_4 : decode cX7_stream 4 = .ok (.iconst 0, 1) := by decide +kernel
theorem dX7_stream_5 : decode cX7_stream 5 = .ok (.ldc 184, 2) := by decide +kernel
theorem dX7_stream_7 : decode cX7_stream 7 = .ok (.iastore, 1) := by decide +kernel
theorem dX7_stream_8 : decode cX7_stream 8 = .ok (.aload_n 0, 1) := by decide +kernel
theorem dX7_stream_9 : decode cX7_stream 9 = .ok (.getfield 136, 3) := by decide +kernel
theorem dX7_stream_12 : decode cX7_stream 12 = .ok (.iconst 5, 1) := by decide +kernel
theorem dX7_stream_13 : decode cX7_stream 13 = .ok (.ldc 185, 2) := by decide +kernel
theorem dX7_stream_15 : decode cX7_stream 15 = .ok (.iastore, 1) := by decide +kernel
theorem dX7_stream_16 : decode cX7_stream 16 = .ok (.aload_n 0, 1) := by decide +kernel
theorem dX7_stream_17 : decode cX7_stream 17 = .ok (.getfield 136, 3) := by decide +kernel
theorem dX7_stream_20 : decode cX7_stream 20 = .ok (.bipush 10, 2) := by decide +kernel
theorem dX7_stream_22 : decode cX7_stream 22 = .ok (.ldc 186, 2) := by decide +kernel
theorem dX7_stream_24 : decode cX7_stream 24 = .ok (.iastore, 1) := by decide +kernel
theorem dX7_stream_25 : decode cX7_stream 25 = .ok (.aload_n 0, 1) := by decide +kernel
theorem dX7_stream_26 : decode cX7_stream 26 = .ok (.getfield 136, 3) := by decide +kernel
theorem dX7_stream_29 : decode cX7_stream 29 = .ok (.bipush 15, 2) := by decide +kernel
theorem dX7_stream_31 : decode cX7_stream 31 = .ok (.ldc 187, 2) := by decide +kernel
theorem dX7_stream_33 : decode cX7_stream 33 = .ok (.iastore, 1) := by decide +kernel
theorem dX7_stream_34 : decode cX7_stream 34 = .ok (.iconst 0, 1) := by decide +kernel
theorem dX7_stream_35 : decode cX7_stream 35 = .ok (.istore 4, 2) := by decide +kernel
theorem dX7_stream_37 : decode cX7_stream 37 = .ok (.iload 4, 2) := by decide +kernel
theorem dX7_stream_39 : decode cX7_stream 39 = .ok (.iconst 4, 1) := by decide +kernel
theorem dX7_stream_40 : decode cX7_stream 40 = .ok (.if_icmp .ge 44, 3) := by decide +kernel
theorem dX7_stream_43 : decode cX7_stream 43 = .ok (.aload_n 0, 1) := by decide +kernel
theorem dX7_stream_44 : decode cX7_stream 44 = .ok (.getfield 136, 3) := by decide +kernel
theorem dX7_stream_47 : decode cX7_stream 47 = .ok (.iconst 1, 1) := by decide +kernel
theorem dX7_stream_48 : decode cX7_stream 48 = .ok (.iload 4, 2) := by decide +kernel
theorem dX7_stream_50 : decode cX7_stream 50 = .ok (.iadd, 1) := by decide +kernel
theorem dX7_stream_51 : decode cX7_stream 51 = .ok (.aload_n 0, 1) := by decide +kernel
theorem dX7_stream_52 : decode cX7_stream 52 = .ok (.iload_n 1, 1) := by decide +kernel
theorem dX7_stream_53 : decode cX7_stream 53 = .ok (.iload 4, 2) := by decide +kernel
theorem dX7_stream_55 : decode cX7_stream 55 = .ok (.invokevirtual 188, 3) := by decide +kernel
theorem dX7_stream_58 : decode cX7_stream 58 = .ok (.iastore, 1) := by decide +kernel
theorem dX7_stream_59 : decode cX7_stream 59 = .ok (.aload_n 0, 1) := by decide +kernel
theorem dX7_stream_60 : decode cX7_stream 60 = .ok (.getfield 136, 3) := by decide +kernel
theorem dX7_stream_63 : decode cX7_stream 63 = .ok (.bipush 11, 2) := by decide +kernel
theorem dX7_stream_65 : decode cX7_stream 65 = .ok (.iload 4, 2) := by decide +kernel
theorem dX7_stream_67 : decode cX7_stream 67 = .ok (.iadd, 1) := by decide +kernel
theorem dX7_stream_68 : decode cX7_stream 68 = .ok (.aload_n 0, 1) := by decide +kernel
theorem dX7_stream_69 : decode cX7_stream 69 = .ok (.iload_n 1, 1) := by decide +kernel
theorem dX7_stream_70 : decode cX7_stream 70 = .ok (.iconst 4, 1) := by decide +kernel
theorem dX7_stream_71 : decode cX7_stream 71 = .ok (.iload 4, 2) := by decide +kernel
theorem dX7_stream_73 : decode cX7_stream 73 = .ok (.iadd, 1) := by decide +kernel
theorem dX7_stream_74 : decode cX7_stream 74 = .ok (.invokevirtual 188, 3) := by decide +kernel
theorem dX7_stream_77 : decode cX7_stream 77 = .ok (.iastore, 1) := by decide +kernel
theorem dX7_stream_78 : decode cX7_stream 78 = .ok (.iinc 4 1, 3) := by decide +kernel
theorem dX7_stream_81 : decode cX7_stream 81 = .ok (.goto (-44), 3) := by decide +kernel
theorem dX7_stream_84 : decode cX7_stream 84 = .ok (.aload_n 0, 1) := by decide +kernel
theorem dX7_stream_85 : decode cX7_stream 85 = .ok (.getfield 136, 3) := by decide +kernel
theorem dX7_stream_88 : decode cX7_stream 88 = .ok (.bipush 6, 2) := by decide +kernel
theorem dX7_stream_90 : decode cX7_stream 90 = .ok (.aload_n 0, 1) := by decide +kernel
theorem dX7_stream_91 : decode cX7_stream 91 = .ok (.iload_n 2, 1) := by decide +kernel
theorem dX7_stream_92 : decode cX7_stream 92 = .ok (.iconst 5, 1) := by decide +kernel
theorem dX7_stream_93 : decode cX7_stream 93 = .ok (.invokevirtual 191, 3) := by decide +kernel
theorem dX7_stream_96 : decode cX7_stream 96 = .ok (.iastore, 1) := by decide +kernel
theorem dX7_stream_97 : decode cX7_stream 97 = .ok (.aload_n 0, 1) := by decide +kernel
theorem dX7_stream_98 : decode cX7_stream 98 = .ok (.getfield 136, 3) := by decide +kernel
theorem dX7_stream_101 : decode cX7_stream 101 = .ok (.bipush 7, 2) := by decide +kernel
theorem dX7_stream_103 : decode cX7_stream 103 = .ok (.aload_n 0, 1) := by decide +kernel
theorem dX7_stream_104 : decode cX7_stream 104 = .ok (.iload_n 2, 1) := by decide +kernel
theorem dX7_stream_105 : decode cX7_stream 105 = .ok (.bipush 9, 2) := by decide +kernel
theorem dX7_stream_107 : decode cX7_stream 107 = .ok (.invokevirtual 191, 3) := by decide +kernel
theorem dX7_stream_110 : decode cX7_stream 110 = .ok (.iastore, 1) := by decide +kernel
theorem dX7_stream_111 : decode cX7_stream 111 = .ok (.aload_n 0, 1) := by decide +kernel
theorem dX7_stream_112 : decode cX7_stream 112 = .ok (.getfield 136, 3) := by decide +kernel
theorem dX7_stream_115 : decode cX7_stream 115 = .ok (.bipush 8, 2) := by decide +kernel
theorem dX7_stream_117 : decode cX7_stream 117 = .ok (.iload_n 3, 1) := by decide +kernel
theorem dX7_stream_118 : decode cX7_stream 118 = .ok (.iastore, 1) := by decide +kernel
theorem dX7_stream_119 : decode cX7_stream 119 = .ok (.aload_n 0, 1) := by decide +kernel
theorem dX7_stream_120 : decode cX7_stream 120 = .ok (.getfield 136, 3) := by decide +kernel
theorem dX7_stream_123 : decode cX7_stream 123 = .ok (.bipush 9, 2) := by decide +kernel
theorem dX7_stream_125 : decode cX7_stream 125 = .ok (.iconst 0, 1) := by decide +kernel
theorem dX7_stream_126 : decode cX7_stream 126 = .ok (.iastore, 1) := by decide +kernel
theorem dX7_stream_127 : decode cX7_stream 127 = .ok (.iconst 0, 1) := by decide +kernel
theorem dX7_stream_128 : decode cX7_stream 128 = .ok (.istore 4, 2) := by decide +kernel
theorem dX7_stream_130 : decode cX7_stream 130 = .ok (.iload 4, 2) := by decide +kernel
theorem dX7_stream_132 : decode cX7_stream 132 = .ok (.bipush 16, 2) := by decide +kernel
theorem dX7_stream_134 : decode cX7_stream 134 = .ok (.if_icmp .ge 23, 3) := by decide +kernel
theorem dX7_stream_137 : decode cX7_stream 137 = .ok (.aload_n 0, 1) := by decide +kernel
theorem dX7_stream_138 : decode cX7_stream 138 = .ok (.getfield 139, 3) := by decide +kernel
theorem dX7_stream_141 : decode cX7_stream 141 = .ok (.iload 4, 2) := by decide +kernel
theorem dX7_stream_143 : decode cX7_stream 143 = .ok (.aload_n 0, 1) := by decide +kernel
theorem dX7_stream_144 : decode cX7_stream 144 = .ok (.getfield 136, 3) := by decide +kernel
theorem dX7_stream_147 : decode cX7_stream 147 = .ok (.iload 4, 2) := by decide +kernel
theorem dX7_stream_149 : decode cX7_stream 149 = .ok (.iaload, 1) := by decide +kernel
theorem dX7_stream_150 : decode cX7_stream 150 = .ok (.iastore, 1) := by decide +kernel
theorem dX7_stream_151 : decode cX7_stream 151 = .ok (.iinc 4 1, 3) := by decide +kernel
theorem dX7_stream_154 : decode cX7_stream 154 = .ok (.goto (-24), 3) := by decide +kernel
theorem dX7_stream_157 : decode cX7_stream 157 = .ok (.iconst 0, 1) := by decide +kernel
theorem dX7_stream_158 : decode cX7_stream 158 = .ok (.istore 4, 2) := by decide +kernel
theorem dX7_stream_160 : decode cX7_stream 160 = .ok (.iload 4, 2) := by decide +kernel
theorem dX7_stream_162 : decode cX7_stream 162 = .ok (.bipush 10, 2) := by decide +kernel
theorem dX7_stream_164 : decode cX7_stream 164 = .ok (.if_icmp .ge 93, 3) := by decide +kernel
theorem dX7_stream_167 : decode cX7_stream 167 = .ok (.aload_n 0, 1) := by decide +kernel
theorem dX7_stream_168 : decode cX7_stream 168 = .ok (.iconst 0, 1) := by decide +kernel
theorem dX7_stream_169 : decode cX7_stream 169 = .ok (.iconst 4, 1) := by decide +kernel
theorem dX7_stream_170 : decode cX7_stream 170 = .ok (.bipush 8, 2) := by decide +kernel
theorem dX7_stream_172 : decode cX7_stream 172 = .ok (.bipush 12, 2) := by decide +kernel
theorem dX7_stream_174 : decode cX7_stream 174 = .ok (.invokevirtual 194, 3) := by decide +kernel
theorem dX7_stream_177 : decode cX7_stream 177 = .ok (.aload_n 0, 1) := by decide +kernel
theorem dX7_stream_178 : decode cX7_stream 178 = .ok (.iconst 5, 1) := by decide +kernel
theorem dX7_stream_179 : decode cX7_stream 179 = .ok (.bipush 9, 2) := by decide +kernel
theorem dX7_stream_181 : decode cX7_stream 181 = .ok (.bipush 13, 2) := by decide +kernel
theorem dX7_stream_183 : decode cX7_stream 183 = .ok (.iconst 1, 1) := by decide +kernel
theorem dX7_stream_184 : decode cX7_stream 184 = .ok (.invokevirtual 194, 3) := by decide +kernel
theorem dX7_stream_187 : decode cX7_stream 187 = .ok (.aload_n 0, 1) := by decide +kernel

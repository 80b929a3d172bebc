theorem dX7_digestRow_221 : decode cX7_digestRow 221 = .ok (.idiv, 1) := by decide +kernel
theorem dX7_digestRow_222 : decode cX7_digestRow 222 = .ok (.iaload, 1) := by decide +kernel
theorem dX7_digestRow_223 : decode cX7_digestRow 223 = .ok (.bipush 24, 2) := by decide +kernel
theorem dX7_digestRow_225 : decode cX7_digestRow 225 = .ok (.bipush 8, 2) := by decide +kernel
theorem dX7_digestRow_227 : decode cX7_digestRow 227 = .ok (.iload 4, 2) := by decide +kernel
theorem dX7_digestRow_229 : decode cX7_digestRow 229 = .ok (.iconst 4, 1) := by decide +kernel
theorem dX7_digestRow_230 : decode cX7_digestRow 230 = .ok (.irem, 1) := by decide +kernel
theorem dX7_digestRow_231 : decode cX7_digestRow 231 = .ok (.imul, 1) := by decide +kernel
theorem dX7_digestRow_232 : decode cX7_digestRow 232 = .ok (.isub, 1) := by decide +kernel
theorem dX7_digestRow_233 : decode cX7_digestRow 233 = .ok (.iushr, 1) := by decide +kernel
theorem dX7_digestRow_234 : decode cX7_digestRow 234 = .ok (.sipush 255, 3) := by decide +kernel
theorem dX7_digestRow_237 : decode cX7_digestRow 237 = .ok (.iand, 1) := by decide +kernel
theorem dX7_digestRow_238 : decode cX7_digestRow 238 = .ok (.iastore, 1) := by decide +kernel
theorem dX7_digestRow_239 : decode cX7_digestRow 239 = .ok (.iinc 4 1, 3) := by decide +kernel
theorem dX7_digestRow_242 : decode cX7_digestRow 242 = .ok (.goto (-41), 3) := by decide +kernel
theorem dX7_digestRow_245 : decode cX7_digestRow 245 = .ok (.return_, 1) := by decide +kernel
set_option maxRecDepth 20000 in
theorem ggX7_hmac_X7_digestRow : GoodIn wsX7_hmac wsX7_digestRow := goodIn_r _ [9, 10, 11, 12, 13, 14, 15, 16, 17, 18, 1, 4, 19, 20, 21, 8, 22, 23, 24, 25, 26, 27, 28, 29, 30, 31, 32, 33, 34, 35, 36, 37, 38, 39, 40, 41, 42, 43, 44, 45, 46, 47, 48, 49, 50, 51, 52] (by decide +kernel) (by decide +kernel)
set_option maxRecDepth 20000 in
theorem gX7_hmac_X7_digestRow : GoodIn wsX7_hmac (wsV RX7 172 RX7 yX7_digestRow wsX7_digestRow) := goodIn_app (goodIn_of _ (by decide +kernel)) ggX7_hmac_X7_digestRow
theorem dX7_hmac_0 : decode cX7_hmac 0 = .ok (.iconst 0, 1) := by decide +kernel
theorem dX7_hmac_1 : decode cX7_hmac 1 = .ok (.istore_n 2, 1) := by decide +kernel
theorem dX7_hmac_2 : decode cX7_hmac 2 = .ok (.iload_n 2, 1) := by decide +kernel
theorem dX7_hmac_3 : decode cX7_hmac 3 = .ok (.bipush 64, 2) := by decide +kernel
theorem dX7_hmac_5 : decode cX7_hmac 5 = .ok (.if_icmp .ge 34, 3) := by decide +kernel
theorem dX7_hmac_8 : decode cX7_hmac 8 = .ok (.aload_n 0, 1) := by decide +kernel
theorem dX7_hmac_9 : decode cX7_hmac 9 = .ok (.getfield 54, 3) := by decide +kernel
theorem dX7_hmac_12 : decode cX7_hmac 12 = .ok (.iload_n 2, 1) := by decide +kernel
theorem dX7_hmac_13 : decode cX7_hmac 13 = .ok (.iload_n 2, 1) := by decide +kernel
theorem dX7_hmac_14 : decode cX7_hmac 14 = .ok (.bipush 32, 2) := by decide +kernel
theorem dX7_hmac_16 : decode cX7_hmac 16 = .ok (.if_icmp .ge 12, 3) := by decide +kernel
theorem dX7_hmac_19 : decode cX7_hmac 19 = .ok (.aload_n 0, 1) := by decide +kernel
theorem dX7_hmac_20 : decode cX7_hmac 20 = .ok (.getfield 60, 3) := by decide +kernel
theorem dX7_hmac_23 : decode cX7_hmac 23 = .ok (.iload_n 2, 1) := by decide +kernel
theorem dX7_hmac_24 : decode cX7_hmac 24 = .ok (.iaload, 1) := by decide +kernel
theorem dX7_hmac_25 : decode cX7_hmac 25 = .ok (.goto 4, 3) := by decide +kernel
theorem dX7_hmac_28 : decode cX7_hmac 28 = .ok (.iconst 0, 1) := by decide +kernel
theorem dX7_hmac_29 : decode cX7_hmac 29 = .ok (.bipush 54, 2) := by decide +kernel
theorem dX7_hmac_31 : decode cX7_hmac 31 = .ok (.ixor, 1) := by decide +kernel
theorem dX7_hmac_32 : decode cX7_hmac 32 = .ok (.iastore, 1) := by decide +kernel
theorem dX7_hmac_33 : decode cX7_hmac 33 = .ok (.iinc 2 1, 3) := by decide +kernel
theorem dX7_hmac_36 : decode cX7_hmac 36 = .ok (.goto (-34), 3) := by decide +kernel
theorem dX7_hmac_39 : decode cX7_hmac 39 = .ok (.iconst 0, 1) := by decide +kernel
theorem dX7_hmac_40 : decode cX7_hmac 40 = .ok (.istore_n 2, 1) := by decide +kernel
theorem dX7_hmac_41 : decode cX7_hmac 41 = .ok (.iload_n 2, 1) := by decide +kernel
theorem dX7_hmac_42 : decode cX7_hmac 42 = .ok (.iload_n 1, 1) := by decide +kernel
theorem dX7_hmac_43 : decode cX7_hmac 43 = .ok (.if_icmp .ge 24, 3) := by decide +kernel
theorem dX7_hmac_46 : decode cX7_hmac 46 = .ok (.aload_n 0, 1) := by decide +kernel
theorem dX7_hmac_47 : decode cX7_hmac 47 = .ok (.getfield 54, 3) := by decide +kernel
theorem dX7_hmac_50 : decode cX7_hmac 50 = .ok (.bipush 64, 2) := by decide +kernel
theorem dX7_hmac_52 : decode cX7_hmac 52 = .ok (.iload_n 2, 1) := by decide +kernel
theorem dX7_hmac_53 : decode cX7_hmac 53 = .ok (.iadd, 1) := by decide +kernel
theorem dX7_hmac_54 : decode cX7_hmac 54 = .ok (.aload_n 0, 1) := by decide +kernel
theorem dX7_hmac_55 : decode cX7_hmac 55 = .ok (.getfield 66, 3) := by decide +kernel
theorem dX7_hmac_58 : decode cX7_hmac 58 = .ok (.iload_n 2, 1) := by decide +kernel
theorem dX7_hmac_59 : decode cX7_hmac 59 = .ok (.iaload, 1) := by decide +kernel
theorem dX7_hmac_60 : decode cX7_hmac 60 = .ok (.iastore, 1) := by decide +kernel
theorem dX7_hmac_61 : decode cX7_hmac 61 = .ok (.iinc 2 1, 3) := by decide +kernel
theorem dX7_hmac_64 : decode cX7_hmac 64 = .ok (.goto (-23), 3) := by decide +kernel
theorem dX7_hmac_67 : decode cX7_hmac 67 = .ok (.aload_n 0, 1) := by decide +kernel
theorem dX7_hmac_68 : decode cX7_hmac 68 = .ok (.bipush 64, 2) := by decide +kernel
theorem dX7_hmac_70 : decode cX7_hmac 70 = .ok (.iload_n 1, 1) := by decide +kernel
theorem dX7_hmac_71 : decode cX7_hmac 71 = .ok (.iadd, 1) := by decide +kernel
theorem dX7_hmac_72 : decode cX7_hmac 72 = .ok (.invokevirtual 172, 3) := by decide +kernel
theorem dX7_hmac_75 : decode cX7_hmac 75 = .ok (.iconst 0, 1) := by decide +kernel
theorem dX7_hmac_76 : decode cX7_hmac 76 = .ok (.istore_n 2, 1) := by decide +kernel
theorem dX7_hmac_77 : decode cX7_hmac 77 = .ok (.iload_n 2, 1) := by decide +kernel
theorem dX7_hmac_78 : decode cX7_hmac 78 = .ok (.bipush 64, 2) := by decide +kernel
theorem dX7_hmac_80 : decode cX7_hmac 80 = .ok (.if_icmp .ge 34, 3) := by decide +kernel
theorem dX7_hmac_83 : decode cX7_hmac 83 = .ok (.aload_n 0, 1) := by decide +kernel
theorem dX7_hmac_84 : decode cX7_hmac 84 = .ok (.getfield 54, 3) := by decide +kernel
theorem dX7_hmac_87 : decode cX7_hmac 87 = .ok (.iload_n 2, 1) := by decide +kernel
theorem dX7_hmac_88 : decode cX7_hmac 88 = .ok (.iload_n 2, 1) := by decide +kernel
theorem dX7_hmac_89 : decode cX7_hmac 89 = .ok (.bipush 32, 2) := by decide +kernel
theorem dX7_hmac_91 : decode cX7_hmac 91 = .ok (.if_icmp .ge 12, 3) := by decide +kernel
theorem dX7_hmac_94 : decode cX7_hmac 94 = .ok (.aload_n 0, 1) := by decide +kernel
theorem dX7_hmac_95 : decode cX7_hmac 95 = .ok (.getfield 60, 3) := by decide +kernel
theorem dX7_hmac_98 : decode cX7_hmac 98 = .ok (.iload_n 2, 1) := by decide +kernel
theorem dX7_hmac_99 : decode cX7_hmac 99 = .ok (.iaload, 1) := by decide +kernel
theorem dX7_hmac_100 : decode cX7_hmac 100 = .ok (.goto 4, 3) := by decide +kernel
theorem dX7_hmac_103 : decode cX7_hmac 103 = .ok (.iconst 0, 1) := by decide +kernel
theorem dX7_hmac_104 : decode cX7_hmac 104 = .ok (.bipush 92, 2) := by decide +kernel
theorem dX7_hmac_106 : decode cX7_hmac 106 = .ok (.ixor, 1) := by decide +kernel
theorem dX7_hmac_107 : decode cX7_hmac 107 = .ok (.iastore, 1) := by decide +kernel
theorem dX7_hmac_108 : decode cX7_hmac 108 = .ok (.iinc 2 1, 3) := by decide +kernel
theorem dX7_hmac_111 : decode cX7_hmac 111 = .ok (.goto (-34), 3) := by decide +kernel
theorem dX7_hmac_114 : decode cX7_hmac 114 = .ok (.iconst 0, 1) := by decide +kernel
theorem dX7_hmac_115 : decode cX7_hmac 115 = .ok (.istore_n 2, 1) := by decide +kernel
theorem dX7_hmac_116 : decode cX7_hmac 116 = .ok (.iload_n 2, 1) := by decide +kernel
theorem dX7_hmac_117 : decode cX7_hmac 117 = .ok (.bipush 32, 2) := by decide +kernel
theorem dX7_hmac_119 : decode cX7_hmac 119 = .ok (.if_icmp .ge 24, 3) := by decide +kernel
theorem dX7_hmac_122 : decode cX7_hmac 122 = .ok (.aload_n 0, 1) := by decide +kernel
theorem dX7_hmac_123 : decode cX7_hmac 123 = .ok (.getfield 54, 3) := by decide +kernel
theorem dX7_hmac_126 : decode cX7_hmac 126 = .ok (.bipush 64, 2) := by decide +kernel
theorem dX7_hmac_128 : decode cX7_hmac 128 = .ok (.iload_n 2, 1) := by decide +kernel
theorem dX7_hmac_129 : decode cX7_hmac 129 = .ok (.iadd, 1) := by decide +kernel
theorem dX7_hmac_130 : decode cX7_hmac 130 = .ok (.aload_n 0, 1) := by decide +kernel
theorem dX7_hmac_131 : decode cX7_hmac 131 = .ok (.getfield 57, 3) := by decide +kernel
theorem dX7_hmac_134 : decode cX7_hmac 134 = .ok (.iload_n 2, 1) := by decide +kernel
theorem dX7_hmac_135 : decode cX7_hmac 135 = .ok (.iaload, 1) := by decide +kernel
theorem dX7_hmac_136 : decode cX7_hmac 136 = .ok (.iastore, 1) := by decide +kernel
theorem dX7_hmac_137 : decode cX7_hmac 137 = .ok (.iinc 2 1, 3) := by decide +kernel
theorem dX7_hmac_140 : decode cX7_hmac 140 = .ok (.goto (-24), 3) := by decide +kernel
theorem dX7_hmac_143 : decode cX7_hmac 143 = .ok (.aload_n 0, 1) := by decide +kernel
theorem dX7_hmac_144 : decode cX7_hmac 144 = .ok (.bipush 96, 2) := by decide +kernel
theorem dX7_hmac_146 : decode cX7_hmac 146 = .ok (.invokevirtual 172, 3) := by decide +kernel
theorem dX7_hmac_149 : decode cX7_hmac 149 = .ok (.return_, 1) := by decide +kernel
set_option maxRecDepth 20000 in
theorem ggX7_makeKeys_X7_hmac : GoodIn wsX7_makeKeys wsX7_hmac := goodIn_r _ [13, 14, 3, 4, 2, 15, 16, 17, 12, 18, 19, 20, 21, 22, 23, 24, 25, 26, 27, 28, 29, 30, 31, 32, 33, 34, 35, 36, 37, 38, 39, 40, 41, 42, 43, 44, 45, 46, 47, 48, 49, 50, 51, 52, 53, 54, 55, 56, 57, 58, 59, 60, 61] (by decide +kernel) (by decide +kernel)
set_option maxRecDepth 20000 in
theorem gX7_makeKeys_X7_hmac : GoodIn wsX7_makeKeys (wsV RX7 175 RX7 yX7_hmac wsX7_hmac) := goodIn_app (goodIn_of _ (by decide +kernel)) ggX7_makeKeys_X7_hmac
theorem dX7_makeKeys_0 : decode cX7_makeKeys 0 = .ok (.iconst 0, 1) := by decide +kernel
theorem dX7_makeKeys_1 : decode cX7_makeKeys 1 = .ok (.istore_n 2, 1) := by decide +kernel
theorem dX7_makeKeys_2 : decode cX7_makeKeys 2 = .ok (.iload_n 2, 1) := by decide +kernel

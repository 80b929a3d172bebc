theorem dX7_digestRow_221 : decode cX7_digestRow 221 = .ok (.idiv, 1) := by decide +kernel
theorem dX7_digestRow_222 : decode cX7_digestRow 222 = .ok (.iaload, 1) := by decide +kernel
theorem dX7_digestRow_223 : decode cX7_digestRow 223 = .ok (.bipush 24, 2) := by decide +kernel
theorem dX7_digestRow_225 : decode cX7_digestRow 225 = .ok (.bipush 8, 2) := by decide +kernel
theorem dX7_digestRow_227 : decode cX7_digestRow 227 = .ok (.iload 4, 2) := by decide +kernel
theorem dX7_digestRow_229 : decode cX7_digestRow 229 = .ok (.iconst 4, 1) := by decide +kernel
theorem dX7_digestRow_230 : decode cX7_digestRow 230 = .ok (.irem, 1) := by decide +kernel
theorem dX7_digestRow_231 : decode cX7_digestRow 231 = .ok (.imul, 1) := by decide +kernel
theorem dX7_digestRow_232 : decode cX7_digestRow 232 = .ok (.isub, 1) := by decide +kernel
theorem dX7_digestRow_233 : decode cX7_digestRow 233 = .ok (.iushr, 1) := by decide +kernel
theorem dX7_digestRow_234 : decode cX7_digestRow 234 = .ok (.sipush 255, 3) := by decide +kernel
theorem dX7_digestRow_237 : decode cX7_digestRow 237 = .ok (.iand, 1) := by decide +kernel
theorem dX7_digestRow_238 : decode cX7_digestRow 238 = .ok (.iastore, 1) := by decide +kernel
theorem dX7_digestRow_239 : decode cX7_digestRow 239 = .ok (.iinc 4 1, 3) := by decide +kernel
theorem dX7_digestRow_242 : decode cX7_digestRow 242 = .ok (.goto (-41), 3) := by decide +kernel
theorem dX7_digestRow_245 : decode cX7_digestRow 245 = .ok (.return_, 1) := by decide +kernel
set_option maxRecDepth 20000 in
theorem ggX7_hmac_X7_digestRow : GoodIn wsX7_hmac wsX7_digestRow := goodIn_r _ [9, 10, 11, 12, 13, 14, 15, 16, 17, 18, 1, 4, 19, 20, 21, 8, 22, 23, 24, 25, 26, 27, 28, 29, 30, 31, 32, 33, 34, 35, 36, 37, 38, 39, 40, 41, 42, 43, 44, 45, 46, 47, 48, 49, 50, 51, 52] (by decide +kernel) (by decide +kernel)
set_option maxRecDepth 20000 in
theorem gX7_hmac_X7_digestRow : GoodIn wsX7_hmac (wsV RX7 172 RX7 yX7_digestRow wsX7_digestRow) := goodIn_app (goodIn_of _ (by decide +kernel)) ggX7_hmac_X7_digestRow
theorem dX7_hmac_0 : decode cX7_hmac 0 = .ok (.iconst 0, 1) := by decide +kernel
theorem dX7_hmac_1 : decode cX7_hmac 1 = .ok (.istore_n 2, 1) := by decide +kernel
theorem dX7_hmac_2 : decode cX7_hmac 2 = .ok (.iload_n 2, 1) := by decide +kernel
theorem dX7_hmac_3 : decode cX7_hmac 3 = .ok (.bipush 64, 2) := by decide +kernel
theorem dX7_hmac_5 : decode cX7_hmac 5 = .ok (.if_icmp .ge 34, 3) := by decide +kernel
theorem dX7_hmac_8 : decode cX7_hmac 8 = .ok (.aload_n 0, 1) := by decide +kernel
theorem dX7_hmac_9 : decode cX7_hmac 9 = .ok (.getfield 54, 3) := by decide +kernel
theorem dX7_hmac_12 : decode cX7_hmac 12 = .ok (.iload_n 2, 1) := by decide +kernel
theorem dX7_hmac_13 : decode cX7_hmac 13 = .ok (.iload_n 2, 1) := by decide +kernel
theorem dX7_hmac_14 : decode cX7_hmac 14 = .ok (.bipush 32, 2) := by decide +kernel
theorem dX7_hmac_16 : decode cX7_hmac 16 = .ok (.if_icmp .ge 12, 3) := by decide +kernel
theorem dX7_hmac_19 : decode cX7_hmac 19 = .ok (.aload_n 0, 1) := by decide +kernel
theorem dX7_hmac_20 : decode cX7_hmac 20 = .ok (.getfield 60, 3) := by decide +kernel
theorem dX7_hmac_23 : decode cX7_hmac 23 = .ok (.iload_n 2, 1) := by decide +kernel
theorem dX7_hmac_24 : decode cX7_hmac 24 = .ok (.iaload, 1) := by decide +kernel
theorem dX7_hmac_25 : decode cX7_hmac 25 = .ok (.goto 4, 3) := by decide +kernel
theorem dX7_hmac_28 : decode cX7_hmac 28 = .ok (.iconst 0, 1) := by decide +kernel
theorem dX7_hmac_29 : decode cX7_hmac 29 = .ok (.bipush 54, 2) := by decide +kernel
theorem dX7_hmac_31 : decode cX7_hmac 31 = .ok (.ixor, 1) := by decide +kernel
theorem dX7_hmac_32 : decode cX7_hmac 32 = .ok (.iastore, 1) := by decide +kernel
theorem dX7_hmac_33 : decode cX7_hmac 33 = .ok (.iinc 2 1, 3) := by decide +kernel
theorem dX7_hmac_36 : decode cX7_hmac 36 = .ok (.goto (-34), 3) := by decide +kernel
theorem dX7_hmac_39 : decode cX7_hmac 39 = .ok (.iconst 0, 1) := by decide +kernel
theorem dX7_hmac_40 : decode cX7_hmac 40 = .ok (.istore_n 2, 1) := by decide +kernel
theorem dX7_hmac_41 : decode cX7_hmac 41 = .ok (.iload_n 2, 1) := by decide +kernel
theorem dX7_hmac_42 : decode cX7_hmac 42 = .ok (.iload_n 1, 1) := by decide +kernel
theorem dX7_hmac_43 : decode cX7_hmac 43 = .ok (.if_icmp .ge 24, 3) := by decide +kernel
theorem dX7_hmac_46 : decode cX7_hmac 46 = .ok (.aload_n 0, 1) := by decide +kernel
theorem dX7_hmac_47 : decode cX7_hmac 47 = .ok (.getfield 54, 3) := by decide +kernel
theorem dX7_hmac_50 : decode cX7_hmac 50 = .ok (.bipush 64, 2) := by decide +kernel
theorem dX7_hmac_52 : decode cX7_hmac 52 = .ok (.iload_n 2, 1) := by decide +kernel
theorem dX7_hmac_53 : decode cX7_hmac 53 = .ok (.iadd, 1) := by decide +kernel
theorem dX7_hmac_54 : decode cX7_hmac 54 = .ok (.aload_n 0, 1) := by decide +kernel
theorem dX7_hmac_55 : decode cX7_hmac 55 = .ok (.getfield 66, 3) := by decide +kernel
theorem dX7_hmac_58 : decode cX7_hmac 58 = .ok (.iload_n 2, 1) := by decide +kernel
theorem dX7_hmac_59 : decode cX7_hmac 59 = .ok (.iaload, 1) := by decide +kernel
theorem dX7_hmac_60 : decode cX7_hmac 60 = .ok (.iastore, 1) := by decide +kernel
theorem dX7_hmac_61 : decode cX7_hmac 61 = .ok (.iinc 2 1, 3) := by decide +kernel
theorem dX7_hmac_64 : decode cX7_hmac 64 = .ok (.goto (-23), 3) := by decide +kernel
theorem dX7_hmac_67 : decode cX7_hmac 67 = .ok (.aload_n 0, 1) := by decide +kernel
theorem dX7_hmac_68 : decode cX7_hmac 68 = .ok (.bipush 64, 2) := by decide +kernel
theorem dX7_hmac_70 : decode cX7_hmac 70 = .ok (.iload_n 1, 1) := by decide +kernel
theorem dX7_hmac_71 : decode cX7_hmac 71 = .ok (.iadd, 1) := by decide +kernel
theorem dX7_hmac_72 : decode cX7_hmac 72 = .ok (.invokevirtual 172, 3) := by decide +kernel
theorem dX7_hmac_75 : decode cX7_hmac 75 = .ok (.iconst 0, 1) := by decide +kernel
theorem dX7_hmac_76 : decode cX7_hmac 76 = .ok (.istore_n 2, 1) := by decide +kernel
theorem dX7_hmac_77 : decode cX7_hmac 77 = .ok (.iload_n 2, 1) := by decide +kernel
theorem dX7_hmac_78 : decode cX7_hmac 78 = .ok (.bipush 64, 2) := by decide +kernel
theorem dX7_hmac_80 : decode cX7_hmac 80 = .ok (.if_icmp .ge 34, 3) := by decide +kernel
theorem dX7_hmac_83 : decode cX7_hmac 83 = .ok (.aload_n 0, 1) := by decide +kernel
theorem dX7_hmac_84 : decode cX7_hmac 84 = .ok (.getfield 54, 3) := by decide +kernel
theorem dX7_hmac_87 : decode cX7_hmac 87 = .ok (.iload_n 2, 1) := by decide +kernel
theorem dX7_hmac_88 : decode cX7_hmac 88 = .ok (.iload_n 2, 1) := by decide +kernel
theorem dX7_hmac_89 : decode cX7_hmac 89 = .ok (.bipush 32, 2) := by decide +kernel
theorem dX7_hmac_91 : decode cX7_hmac 91 = .ok (.if_icmp .ge 12, 3) := by decide +kernel
theorem dX7_hmac_94 : decode cX7_hmac 94 = .ok (.aload_n 0, 1) := by decide +kernel
theorem dX7_hmac_95 : decode cX7_hmac 95 = .ok (.getfield 60, 3) := by decide +kernel
theorem dX7_hmac_98 : decode cX7_hmac 98 = .ok (.iload_n 2, 1) := by decide +kernel
theorem dX7_hmac_99 : decode cX7_hmac 99 = .ok (.iaload, 1) := by decide +kernel
theorem dX7_hmac_100 : decode cX7_hmac 100 = .ok (.goto 4, 3) := by decide +kernel
theorem dX7_hmac_103 : decode cX7_hmac 103 = .ok (.iconst 0, 1) := by decide +kernel
theorem dX7_hmac_104 : decode cX7_hmac 104 = .ok (.bipush 92, 2) := by decide +kernel
theorem dX7_hmac_106 : decode cX7_hmac 106 = .ok (.ixor, 1) := by decide +kernel
theorem dX7_hmac_107 : decode cX7_hmac 107 = .ok (.iastore, 1) := by decide +kernel
theorem dX7_hmac_108 : decode cX7_hmac 108 = .ok (.iinc 2 1, 3) := by decide +kernel
theorem dX7_hmac_111 : decode cX7_hmac 111 = .ok (.goto (-34), 3) := by decide +kernel
theorem dX7_hmac_114 : decode cX7_hmac 114 = .ok (.iconst 0, 1) := by decide +kernel
theorem dX7_hmac_115 : decode cX7_hmac 115 = .ok (.istore_n 2, 1) := by decide +kernel
theorem dX7_hmac_116 : decode cX7_hmac 116 = .ok (.iload_n 2, 1) := by decide +kernel
theorem dX7_hmac_117 : decode cX7_hmac 117 = .ok (.bipush 32, 2) := by decide +kernel
theorem dX7_hmac_119 : decode cX7_hmac 119 = .ok (.if_icmp .ge 24, 3) := by decide +kernel
theorem dX7_hmac_122 : decode cX7_hmac 122 = .ok (.aload_n 0, 1) := by decide +kernel
theorem dX7_hmac_123 : decode cX7_hmac 123 = .ok (.getfield 54, 3) := by decide +kernel
theorem dX7_hmac_126 : decode cX7_hmac 126 = .ok (.bipush 64, 2) := by decide +kernel
theorem dX7_hmac_128 : decode cX7_hmac 128 = .ok (.iload_n 2, 1) := by decide +kernel
theorem dX7_hmac_129 : decode cX7_hmac 129 = .ok (.iadd, 1) := by decide +kernel
theorem dX7_hmac_130 : decode cX7_hmac 130 = .ok (.aload_n 0, 1) := by decide +kernel
theorem dX7_hmac_131 : decode cX7_hmac 131 = .ok (.getfield 57, 3) := by decide +kernel
theorem dX7_hmac_134 : decode cX7_hmac 134 = .ok (.iload_n 2, 1) := by decide +kernel
theorem dX7_hmac_135 : decode cX7_hmac 135 = .ok (.iaload, 1) := by decide +kernel
theorem dX7_hmac_136 : decode cX7_hmac 136 = .ok (.iastore, 1) := by decide +kernel
theorem dX7_hmac_137 : decode cX7_hmac 137 = .ok (.iinc 2 1, 3) := by decide +kernel
theorem dX7_hmac_140 : decode cX7_hmac 140 = .ok (.goto (-24), 3) := by decide +kernel
theorem dX7_hmac_143 : decode cX7_hmac 143 = .ok (.aload_n 0, 1) := by decide +kernel
theorem dX7_hmac_144 : decode cX7_hmac 144 = .ok (.bipush 96, 2) := by decide +kernel
theorem dX7_hmac_146 : decode cX7_hmac 146 = .ok (.invokevirtual 172, 3) := by decide +kernel
theorem dX7_hmac_149 : decode cX7_hmac 149 = .ok (.return_, 1) := by decide +kernel
set_option maxRecDepth 20000 in
theorem ggX7_makeKeys_X7_hmac : GoodIn wsX7_makeKeys wsX7_hmac := goodIn_r _ [13, 14, 3, 4, 2, 15, 16, 17, 12, 18, 19, 20, 21, 22, 23, 24, 25, 26, 27, 28, 29, 30, 31, 32, 33, 34, 35, 36, 37, 38, 39, 40, 41, 42, 43, 44, 45, 46, 47, 48, 49, 50, 51, 52, 53, 54, 55, 56, 57, 58, 59, 60, 61] (by decide +kernel) (by decide +kernel)
set_option maxRecDepth 20000 in
theorem gX7_makeKeys_X7_hmac : GoodIn wsX7_makeKeys (wsV RX7 175 RX7 yX7_hmac wsX7_hmac) := goodIn_app (goodIn_of _ (by decide +kernel)) ggX7_makeKeys_X7_hmac
theorem dX7_makeKeys_0 : decode cX7_makeKeys 0 = .ok (.iconst 0, 1) := by decide +kernel
theorem dX7_makeKeys_1 : decode cX7_makeKeys 1 = .ok (.istore_n 2, 1) := by decide +kernel
theorem dX7_makeKeys_2 : decode cX7_makeKeys 2 = .ok (.iload_n 2, 1) := by decide +kernel
theorem dX7_makeKeys_3 : decode cX7_makeKeys 3 = .ok (.bipush 32, 2) := by decide +kernel
theorem dX7_makeKeys_5 : decode cX7_makeKeys 5 = .ok (.if_icmp .ge 21, 3) := by decide +kernel
theorem dX7_makeKeys_8 : decode cX7_makeKeys 8 = .ok (.aload_n 0, 1) := by decide +kernel
theorem dX7_makeKeys_9 : decode cX7_makeKeys 9 = .ok (.getfield 63, 3) := by decide +kernel
theorem dX7_makeKeys_12 : decode cX7_makeKeys 12 = .ok (.iload_n 2, 1) := by decide +kernel
theorem dX7_makeKeys_13 : decode cX7_makeKeys 13 = .ok (.aload_n 0, 1) := by decide +kernel
theorem dX7_makeKeys_14 : decode cX7_makeKeys 14 = .ok (.getfield 57, 3) := by decide +kernel
theorem dX7_makeKeys_17 : decode cX7_makeKeys 17 = .ok (.iload_n 2, 1) := by decide +kernel
theorem dX7_makeKeys_18 : decode cX7_makeKeys 18 = .ok (.iaload, 1) := by decide +kernel
theorem dX7_makeKeys_19 : decode cX7_makeKeys 19 = .ok (.iastore, 1) := by decide +kernel
theorem dX7_makeKeys_20 : decode cX7_makeKeys 20 = .ok (.iinc 2 1, 3) := by decide +kernel
theorem dX7_makeKeys_23 : decode cX7_makeKeys 23 = .ok (.goto (-21), 3) := by decide +kernel
theorem dX7_makeKeys_26 : decode cX7_makeKeys 26 = .ok (.iconst 0, 1) := by decide +kernel
theorem dX7_makeKeys_27 : decode cX7_makeKeys 27 = .ok (.istore_n 2, 1) := by decide +kernel
theorem dX7_makeKeys_28 : decode cX7_makeKeys 28 = .ok (.iload_n 2, 1) := by decide +kernel
theorem dX7_makeKeys_29 : decode cX7_makeKeys 29 = .ok (.iconst 2, 1) := by decide +kernel
theorem dX7_makeKeys_30 : decode cX7_makeKeys 30 = .ok (.if_icmp .ge 116, 3) := by decide +kernel
theorem dX7_makeKeys_33 : decode cX7_makeKeys 33 = .ok (.iconst 0, 1) := by decide +kernel
theorem dX7_makeKeys_34 : decode cX7_makeKeys 34 = .ok (.istore_n 3, 1) := by decide +kernel
theorem dX7_makeKeys_35 : decode cX7_makeKeys 35 = .ok (.iload_n 3, 1) := by decide +kernel
theorem dX7_makeKeys_36 : decode cX7_makeKeys 36 = .ok (.bipush 32, 2) := by decide +kernel
theorem dX7_makeKeys_38 : decode cX7_makeKeys 38 = .ok (.if_icmp .ge 21, 3) := by decide +kernel
theorem dX7_makeKeys_41 : decode cX7_makeKeys 41 = .ok (.aload_n 0, 1) := by decide +kernel
theorem dX7_makeKeys_42 : decode cX7_makeKeys 42 = .ok (.getfield 60, 3) := by decide +kernel
theorem dX7_makeKeys_45 : decode cX7_makeKeys 45 = .ok (.iload_n 3, 1) := by decide +kernel
theorem dX7_makeKeys_46 : decode cX7_makeKeys 46 = .ok (.aload_n 0, 1) := by decide +kernel
theorem dX7_makeKeys_47 : decode cX7_makeKeys 47 = .ok (.getfield 63, 3) := by decide +kernel
theorem dX7_makeKeys_50 : decode cX7_makeKeys 50 = .ok (.iload_n 3, 1) := by decide +kernel
theorem dX7_makeKeys_51 : decode cX7_makeKeys 51 = .ok (.iaload, 1) := by decide +kernel
theorem dX7_makeKeys_52 : decode cX7_makeKeys 52 = .ok (.iastore, 1) := by decide +kernel
theorem dX7_makeKeys_53 : decode cX7_makeKeys 53 = .ok (.iinc 3 1, 3) := by decide +kernel
theorem dX7_makeKeys_56 : decode cX7_makeKeys 56 = .ok (.goto (-21), 3) := by decide +kernel
theorem dX7_makeKeys_59 : decode cX7_makeKeys 59 = .ok (.aload_n 0, 1) := by decide +kernel
theorem dX7_makeKeys_60 : decode cX7_makeKeys 60 = .ok (.getfield 66, 3) := by decide +kernel
theorem dX7_makeKeys_63 : decode cX7_makeKeys 63 = .ok (.iconst 0, 1) := by decide +kernel
theorem dX7_makeKeys_64 : decode cX7_makeKeys 64 = .ok (.iload_n 1, 1) := by decide +kernel
theorem dX7_makeKeys_65 : decode cX7_makeKeys 65 = .ok (.iastore, 1) := by decide +kernel
theorem dX7_makeKeys_66 : decode cX7_makeKeys 66 = .ok (.aload_n 0, 1) := by decide +kernel
theorem dX7_makeKeys_67 : decode cX7_makeKeys 67 = .ok (.getfield 66, 3) := by decide +kernel
theorem dX7_makeKeys_70 : decode cX7_makeKeys 70 = .ok (.iconst 1, 1) := by decide +kernel
theorem dX7_makeKeys_71 : decode cX7_makeKeys 71 = .ok (.iload_n 2, 1) := by decide +kernel
theorem dX7_makeKeys_72 : decode cX7_makeKeys 72 = .ok (.iastore, 1) := by decide +kernel
theorem dX7_makeKeys_73 : decode cX7_makeKeys 73 = .ok (.aload_n 0, 1) := by decide +kernel
theorem dX7_makeKeys_74 : decode cX7_makeKeys 74 = .ok (.getfield 66, 3) := by decide +kernel
theorem dX7_makeKeys_77 : decode cX7_makeKeys 77 = .ok (.iconst 2, 1) := by decide +kernel
theorem dX7_makeKeys_78 : decode cX7_makeKeys 78 = .ok (.iconst 1, 1) := by decide +kernel
theorem dX7_makeKeys_79 : decode cX7_makeKeys 79 = .ok (.iastore, 1) := by decide +kernel
theorem dX7_makeKeys_80 : decode cX7_makeKeys 80 = .ok (.aload_n 0, 1) := by decide +kernel
theorem dX7_makeKeys_81 : decode cX7_makeKeys 81 = .ok (.iconst 3, 1) := by decide +kernel
theorem dX7_makeKeys_82 : decode cX7_makeKeys 82 = .ok (.invokevirtual 175, 3) := by decide +kernel
theorem dX7_makeKeys_85 : decode cX7_makeKeys 85 = .ok (.iconst 0, 1) := by decide +kernel
theorem dX7_makeKeys_86 : decode cX7_makeKeys 86 = .ok (.istore_n 3, 1) := by decide +kernel
theorem dX7_makeKeys_87 : decode cX7_makeKeys 87 = .ok (.iload_n 3, 1) := by decide +kernel
theorem dX7_makeKeys_88 : decode cX7_makeKeys 88 = .ok (.bipush 32, 2) := by decide +kernel
theorem dX7_makeKeys_90 : decode cX7_makeKeys 90 = .ok (.if_icmp .ge 50, 3) := by decide +kernel
theorem dX7_makeKeys_93 : decode cX7_makeKeys 93 = .ok (.iload_n 2, 1) := by decide +kernel
theorem dX7_makeKeys_94 : decode cX7_makeKeys 94 = .ok (.ifCond .ne 23, 3) := by decide +kernel
theorem dX7_makeKeys_97 : decode cX7_makeKeys 97 = .ok (.aload_n 0, 1) := by decide +kernel
theorem dX7_makeKeys_98 : decode cX7_makeKeys 98 = .ok (.getfield 13, 3) := by decide +kernel
theorem dX7_makeKeys_101 : decode cX7_makeKeys 101 = .ok (.bipush 32, 2) := by decide +kernel
theorem dX7_makeKeys_103 : decode cX7_makeKeys 103 = .ok (.iload_n 1, 1) := by decide +kernel
theorem dX7_makeKeys_104 : decode cX7_makeKeys 104 = .ok (.imul, 1) := by decide +kernel
theorem dX7_makeKeys_105 : decode cX7_makeKeys 105 = .ok (.iload_n 3, 1) := by decide +kernel
theorem dX7_makeKeys_106 : decode cX7_makeKeys 106 = .ok (.iadd, 1) := by decide +kernel
theorem dX7_makeKeys_107 : decode cX7_makeKeys 107 = .ok (.aload_n 0, 1) := by decide +kernel
theorem dX7_makeKeys_108 : decode cX7_makeKeys 108 = .ok (.getfield 57, 3) := by decide +kernel
theorem dX7_makeKeys_111 : decode cX7_makeKeys 111 = .ok (.iload_n 3, 1) := by decide +kernel
theorem dX7_makeKeys_112 : decode cX7_makeKeys 112 = .ok (.iaload, 1) := by decide +kernel
theorem dX7_makeKeys_113 : decode cX7_makeKeys 113 = .ok (.iastore, 1) := by decide +kernel
theorem dX7_makeKeys_114 : decode cX7_makeKeys 114 = .ok (.goto 20, 3) := by decide +kernel
theorem dX7_makeKeys_117 : decode cX7_makeKeys 117 = .ok (.aload_n 0, 1) := by decide +kernel
theorem dX7_makeKeys_118 : decode cX7_makeKeys 118 = .ok (.getfield 16, 3) := by decide +kernel
theorem dX7_makeKeys_121 : decode cX7_makeKeys 121 = .ok (.bipush 32, 2) := by decide +kernel
theorem dX7_makeKeys_123 : decode cX7_makeKeys 123 = .ok (.iload_n 1, 1) := by decide +kernel
theorem dX7_makeKeys_124 : decode cX7_makeKeys 124 = .ok (.imul, 1) := by decide +kernel
theorem dX7_makeKeys_125 : decode cX7_makeKeys 125 = .ok (.iload_n 3, 1) := by decide +kernel
theorem dX7_makeKeys_126 : decode cX7_makeKeys 126 = .ok (.iadd, 1) := by decide +kernel
theorem dX7_makeKeys_127 : decode cX7_makeKeys 127 = .ok (.aload_n 0, 1) := by decide +kernel
theorem dX7_makeKeys_128 : decode cX7_makeKeys 128 = .ok (.getfield 57, 3) := by decide +kernel
theorem dX7_makeKeys_131 : decode cX7_makeKeys 131 = .ok (.iload_n 3, 1) := by decide +kernel
theorem dX7_makeKeys_132 : decode cX7_makeKeys 132 = .ok (.iaload, 1) := by decide +kernel
theorem dX7_makeKeys_133 : decode cX7_makeKeys 133 = .ok (.iastore, 1) := by decide +kernel
theorem dX7_makeKeys_134 : decode cX7_makeKeys 134 = .ok (.iinc 3 1, 3) := by decide +kernel
theorem dX7_makeKeys_137 : decode cX7_makeKeys 137 = .ok (.goto (-50), 3) := by decide +kernel
theorem dX7_makeKeys_140 : decode cX7_makeKeys 140 = .ok (.iinc 2 1, 3) := by decide +kernel
theorem dX7_makeKeys_143 : decode cX7_makeKeys 143 = .ok (.goto (-115), 3) := by decide +kernel
theorem dX7_makeKeys_146 : decode cX7_makeKeys 146 = .ok (.aload_n 0, 1) := by decide +kernel
theorem dX7_makeKeys_147 : decode cX7_makeKeys 147 = .ok (.getfield 22, 3) := by decide +kernel
theorem dX7_makeKeys_150 : decode cX7_makeKeys 150 = .ok (.iload_n 1, 1) := by decide +kernel
theorem dX7_makeKeys_151 : decode cX7_makeKeys 151 = .ok (.lconst 0, 1) := by decide +kernel
theorem dX7_makeKeys_152 : decode cX7_makeKeys 152 = .ok (.lastore, 1) := by decide +kernel
theorem dX7_makeKeys_153 : decode cX7_makeKeys 153 = .ok (.aload_n 0, 1) := by decide +kernel
theorem dX7_makeKeys_154 : decode cX7_makeKeys 154 = .ok (.getfield 26, 3) := by decide +kernel
theorem dX7_makeKeys_157 : decode cX7_makeKeys 157 = .ok (.iload_n 1, 1) := by decide +kernel
theorem dX7_makeKeys_158 : decode cX7_makeKeys 158 = .ok (.iconst 0, 1) := by decide +kernel
theorem dX7_makeKeys_159 : decode cX7_makeKeys 159 = .ok (.bastore, 1) := by decide +kernel
theorem dX7_makeKeys_160 : decode cX7_makeKeys 160 = .ok (.return_, 1) := by decide +kernel
theorem dX7_setPsk_0 : decode cX7_setPsk 0 = .ok (.iload_n 1, 1) := by decide +kernel
theorem dX7_setPsk_1 : decode cX7_setPsk 1 = .ok (.ifCond .lt 31, 3) := by decide +kernel
theorem dX7_setPsk_4 : decode cX7_setPsk 4 = .ok (.iload_n 1, 1) := by decide +kernel
theorem dX7_setPsk_5 : decode cX7_setPsk 5 = .ok (.bipush 32, 2) := by decide +kernel
theorem dX7_setPsk_7 : decode cX7_setPsk 7 = .ok (.if_icmp .ge 25, 3) := by decide +kernel
theorem dX7_setPsk_10 : decode cX7_setPsk 10 = .ok (.iload_n 2, 1) := by decide +kernel
theorem dX7_setPsk_11 : decode cX7_setPsk 11 = .ok (.ifCond .lt 21, 3) := by decide +kernel
theorem dX7_setPsk_14 : decode cX7_setPsk 14 = .ok (.iload_n 2, 1) := by decide +kernel
theorem dX7_setPsk_15 : decode cX7_setPsk 15 = .ok (.sipush 256, 3) := by decide +kernel
theorem dX7_setPsk_18 : decode cX7_setPsk 18 = .ok (.if_icmp .ge 14, 3) := by decide +kernel
theorem dX7_setPsk_21 : decode cX7_setPsk 21 = .ok (.aload_n 0, 1) := by decide +kernel
theorem dX7_setPsk_22 : decode cX7_setPsk 22 = .ok (.getfield 145, 3) := by decide +kernel
theorem dX7_setPsk_25 : decode cX7_setPsk 25 = .ok (.ifCond .ne 7, 3) := by decide +kernel
theorem dX7_setPsk_28 : decode cX7_setPsk 28 = .ok (.iconst 1, 1) := by decide +kernel
theorem dX7_setPsk_29 : decode cX7_setPsk 29 = .ok (.goto 4, 3) := by decide +kernel
theorem dX7_setPsk_32 : decode cX7_setPsk 32 = .ok (.iconst 0, 1) := by decide +kernel
theorem dX7_setPsk_33 : decode cX7_setPsk 33 = .ok (.istore_n 3, 1) := by decide +kernel
theorem dX7_setPsk_34 : decode cX7_setPsk 34 = .ok (.iload_n 3, 1) := by decide +kernel
theorem dX7_setPsk_35 : decode cX7_setPsk 35 = .ok (.ifCond .eq 10, 3) := by decide +kernel
theorem dX7_setPsk_38 : decode cX7_setPsk 38 = .ok (.aload_n 0, 1) := by decide +kernel
theorem dX7_setPsk_39 : decode cX7_setPsk 39 = .ok (.getfield 7, 3) := by decide +kernel
theorem dX7_setPsk_42 : decode cX7_setPsk 42 = .ok (.iload_n 1, 1) := by decide +kernel
theorem dX7_setPsk_43 : decode cX7_setPsk 43 = .ok (.iload_n 2, 1) := by decide +kernel
theorem dX7_setPsk_44 : decode cX7_setPsk 44 = .ok (.iastore, 1) := by decide +kernel
theorem dX7_setPsk_45 : decode cX7_setPsk 45 = .ok (.iload_n 3, 1) := by decide +kernel
theorem dX7_setPsk_46 : decode cX7_setPsk 46 = .ok (.ireturn, 1) := by decide +kernel
set_option maxRecDepth 20000 in
theorem ggX7_open_X7_hmac : GoodIn wsX7_open wsX7_hmac := goodIn_r _ [10, 11, 2, 3, 12, 13, 14, 15, 9, 16, 17, 18, 19, 20, 21, 22, 23, 24, 25, 26, 27, 28, 29, 30, 31, 32, 33, 34, 44, 45, 46, 47, 48, 49, 50, 51, 52, 53, 54, 55, 56, 57, 58, 59, 60, 61, 62, 63, 64, 65, 66, 67, 68] (by decide +kernel) (by decide +kernel)
set_option maxRecDepth 20000 in
theorem gX7_open_X7_hmac : GoodIn wsX7_open (wsV RX7 175 RX7 yX7_hmac wsX7_hmac) := goodIn_app (goodIn_of _ (by decide +kernel)) ggX7_open_X7_hmac
set_option maxRecDepth 20000 in
theorem ggX7_open_X7_makeKeys : GoodIn wsX7_open wsX7_makeKeys := goodIn_r _ [38, 39, 12, 2, 3, 40, 41, 42, 43, 6, 7, 8, 9, 10, 11, 13, 14, 15, 16, 17, 18, 19, 20, 21, 22, 23, 24, 25, 26, 27, 28, 29, 30, 31, 32, 33, 34, 44, 45, 46, 47, 48, 49, 50, 51, 52, 53, 54, 55, 56, 57, 58, 59, 60, 61, 62, 63, 64, 65, 66, 67, 68] (by decide +kernel) (by decide +kernel)
set_option maxRecDepth 20000 in
theorem gX7_open_X7_makeKeys : GoodIn wsX7_open (wsV RX7 178 RX7 yX7_makeKeys wsX7_makeKeys) := goodIn_app (goodIn_of _ (by decide +kernel)) ggX7_open_X7_makeKeys
theorem dX7_open_0 : decode cX7_open 0 = .ok (.iconst 0, 1) := by decide +kernel
theorem dX7_open_1 : decode cX7_open 1 = .ok (.istore_n 1, 1) := by decide +kernel
theorem dX7_open_2 : decode cX7_open 2 = .ok (.iload_n 1, 1) := by decide +kernel
theorem dX7_open_3 : decode cX7_open 3 = .ok (.iconst 2, 1) := by decide +kernel
theorem dX7_open_4 : decode cX7_open 4 = .ok (.if_icmp .ge 67, 3) := by decide +kernel
theorem dX7_open_7 : decode cX7_open 7 = .ok (.aload_n 0, 1) := by decide +kernel
theorem dX7_open_8 : decode cX7_open 8 = .ok (.getfield 145, 3) := by decide +kernel
theorem dX7_open_11 : decode cX7_open 11 = .ok (.ifCond .ne 60, 3) := by decide +kernel
theorem dX7_open_14 : decode cX7_open 14 = .ok (.iconst 0, 1) := by decide +kernel
theorem dX7_open_15 : decode cX7_open 15 = .ok (.istore_n 2, 1) := by decide +kernel
theorem dX7_open_16 : decode cX7_open 16 = .ok (.iload_n 2, 1) := by decide +kernel
theorem dX7_open_17 : decode cX7_open 17 = .ok (.bipush 32, 2) := by decide +kernel
theorem dX7_open_19 : decode cX7_open 19 = .ok (.if_icmp .ge 28, 3) := by decide +kernel
theorem dX7_open_22 : decode cX7_open 22 = .ok (.aload_n 0, 1) := by decide +kernel
theorem dX7_open_23 : decode cX7_open 23 = .ok (.getfield 60, 3) := by decide +kernel
theorem dX7_open_26 : decode cX7_open 26 = .ok (.iload_n 2, 1) := by decide +kernel
theorem dX7_open_27 : decode cX7_open 27 = .ok (.iconst 0, 1) := by decide +kernel
theorem dX7_open_28 : decode cX7_open 28 = .ok (.iastore, 1) := by decide +kernel
theorem dX7_open_29 : decode cX7_open 29 = .ok (.aload_n 0, 1) := by decide +kernel
theorem dX7_open_30 : decode cX7_open 30 = .ok (.getfield 66, 3) := by decide +kernel
theorem dX7_open_33 : decode cX7_open 33 = .ok (.iload_n 2, 1) := by decide +kernel
theorem dX7_open_34 : decode cX7_open 34 = .ok (.aload_n 0, 1) := by decide +kernel
theorem dX7_open_35 : decode cX7_open 35 = .ok (.getfield 7, 3) := by decide +kernel
theorem dX7_open_38 : decode cX7_open 38 = .ok (.iload_n 2, 1) := by decide +kernel
theorem dX7_open_39 : decode cX7_open 39 = .ok (.iaload, 1) := by decide +kernel
theorem dX7_open_40 : decode cX7_open 40 = .ok (.iastore, 1) := by decide +kernel
theorem dX7_open_41 : decode cX7_open 41 = .ok (.iinc 2 1, 3) := by decide +kernel
theorem dX7_open_44 : decode cX7_open 44 = .ok (.goto (-28), 3) := by decide +kernel
theorem dX7_open_47 : decode cX7_open 47 = .ok (.aload_n 0, 1) := by decide +kernel
theorem dX7_open_48 : decode cX7_open 48 = .ok (.bipush 32, 2) := by decide +kernel
theorem dX7_open_50 : decode cX7_open 50 = .ok (.invokevirtual 175, 3) := by decide +kernel
theorem dX7_open_53 : decode cX7_open 53 = .ok (.aload_n 0, 1) := by decide +kernel
theorem dX7_open_54 : decode cX7_open 54 = .ok (.iload_n 1, 1) := by decide +kernel
theorem dX7_open_55 : decode cX7_open 55 = .ok (.invokevirtual 178, 3) := by decide +kernel
theorem dX7_open_58 : decode cX7_open 58 = .ok (.aload_n 0, 1) := by decide +kernel
theorem dX7_open_59 : decode cX7_open 59 = .ok (.getfield 19, 3) := by decide +kernel
theorem dX7_open_62 : decode cX7_open 62 = .ok (.iload_n 1, 1) := by decide +kernel
theorem dX7_open_63 : decode cX7_open 63 = .ok (.iconst 0, 1) := by decide +kernel
theorem dX7_open_64 : decode cX7_open 64 = .ok (.iastore, 1) := by decide +kernel
theorem dX7_open_65 : decode cX7_open 65 = .ok (.iinc 1 1, 3) := by decide +kernel
theorem dX7_open_68 : decode cX7_open 68 = .ok (.goto (-66), 3) := by decide +kernel
theorem dX7_open_71 : decode cX7_open 71 = .ok (.aload_n 0, 1) := by decide +kernel
theorem dX7_open_72 : decode cX7_open 72 = .ok (.iconst 1, 1) := by decide +kernel
theorem dX7_open_73 : decode cX7_open 73 = .ok (.putfield 145, 3) := by decide +kernel
theorem dX7_open_76 : decode cX7_open 76 = .ok (.return_, 1) := by decide +kernel
set_option maxRecDepth 20000 in
theorem ggX7_rekey_X7_hmac : GoodIn wsX7_rekey wsX7_hmac := goodIn_r _ [11, 12, 2, 4, 13, 14, 15, 16, 10, 17, 18, 19, 20, 21, 22, 23, 24, 25, 26, 27, 28, 29, 30, 31, 32, 33, 34, 35, 43, 44, 45, 46, 47, 48, 49, 50, 51, 52, 53, 54, 55, 56, 57, 58, 59, 60, 61, 62, 63, 64, 65, 66, 67] (by decide +kernel) (by decide +kernel)
set_option maxRecDepth 20000 in
theorem gX7_rekey_X7_hmac : GoodIn wsX7_rekey (wsV RX7 175 RX7 yX7_hmac wsX7_hmac) := goodIn_app (goodIn_of _ (by decide +kernel)) ggX7_rekey_X7_hmac
set_option maxRecDepth 20000 in
theorem ggX7_rekey_X7_makeKeys : GoodIn wsX7_rekey wsX7_makeKeys := goodIn_r _ [39, 40, 13, 2, 4, 5, 3, 41, 42, 7, 8, 9, 10, 11, 12, 14, 15, 16, 17, 18, 19, 20, 21, 22, 23, 24, 25, 26, 27, 28, 29, 30, 31, 32, 33, 34, 35, 43, 44, 45, 46, 47, 48, 49, 50, 51, 52, 53, 54, 55, 56, 57, 58, 59, 60, 61, 62, 63, 64, 65, 66, 67] (by decide +kernel) (by decide +kernel)
set_option maxRecDepth 20000 in
theorem gX7_rekey_X7_makeKeys : GoodIn wsX7_rekey (wsV RX7 178 RX7 yX7_makeKeys wsX7_makeKeys) := goodIn_app (goodIn_of _ (by decide +kernel)) ggX7_rekey_X7_makeKeys
theorem dX7_rekey_0 : decode cX7_rekey 0 = .ok (.iload_n 1, 1) := by decide +kernel
theorem dX7_rekey_1 : decode cX7_rekey 1 = .ok (.ifCond .eq 8, 3) := by decide +kernel
theorem dX7_rekey_4 : decode cX7_rekey 4 = .ok (.iload_n 1, 1) := by decide +kernel
theorem dX7_rekey_5 : decode cX7_rekey 5 = .ok (.iconst 1, 1) := by decide +kernel
theorem dX7_rekey_6 : decode cX7_rekey 6 = .ok (.if_icmp .ne 10, 3) := by decide +kernel
theorem dX7_rekey_9 : decode cX7_rekey 9 = .ok (.aload_n 0, 1) := by decide +kernel
theorem dX7_rekey_10 : decode cX7_rekey 10 = .ok (.getfield 145, 3) := by decide +kernel
theorem dX7_rekey_13 : decode cX7_rekey 13 = .ok (.ifCond .ne 5, 3) := by decide +kernel
theorem dX7_rekey_16 : decode cX7_rekey 16 = .ok (.iconst (-1), 1) := by decide +kernel
theorem dX7_rekey_17 : decode cX7_rekey 17 = .ok (.ireturn, 1) := by decide +kernel
theorem dX7_rekey_18 : decode cX7_rekey 18 = .ok (.iconst 0, 1) := by decide +kernel
theorem dX7_rekey_19 : decode cX7_rekey 19 = .ok (.istore_n 2, 1) := by decide +kernel
theorem dX7_rekey_20 : decode cX7_rekey 20 = .ok (.iload_n 2, 1) := by decide +kernel
theorem dX7_rekey_21 : decode cX7_rekey 21 = .ok (.bipush 32, 2) := by decide +kernel
theorem dX7_rekey_23 : decode cX7_rekey 23 = .ok (.if_icmp .ge 43, 3) := by decide +kernel
theorem dX7_rekey_26 : decode cX7_rekey 26 = .ok (.aload_n 0, 1) := by decide +kernel
theorem dX7_rekey_27 : decode cX7_rekey 27 = .ok (.getfield 60, 3) := by decide +kernel
theorem dX7_rekey_30 : decode cX7_rekey 30 = .ok (.iload_n 2, 1) := by decide +kernel
theorem dX7_rekey_31 : decode cX7_rekey 31 = .ok (.aload_n 0, 1) := by decide +kernel
theorem dX7_rekey_32 : decode cX7_rekey 32 = .ok (.getfield 16, 3) := by decide +kernel
theorem dX7_rekey_35 : decode cX7_rekey 35 = .ok (.bipush 32, 2) := by decide +kernel
theorem dX7_rekey_37 : decode cX7_rekey 37 = .ok (.iload_n 1, 1) := by decide +kernel
theorem dX7_rekey_38 : decode cX7_rekey 38 = .ok (.imul, 1) := by decide +kernel
theorem dX7_rekey_39 : decode cX7_rekey 39 = .ok (.iload_n 2, 1) := by decide +kernel
theorem dX7_rekey_40 : decode cX7_rekey 40 = .ok (.iadd, 1) := by decide +kernel
theorem dX7_rekey_41 : decode cX7_rekey 41 = .ok (.iaload, 1) := by decide +kernel
theorem dX7_rekey_42 : decode cX7_rekey 42 = .ok (.iastore, 1) := by decide +kernel
theorem dX7_rekey_43 : decode cX7_rekey 43 = .ok (.aload_n 0, 1) := by decide +kernel
theorem dX7_rekey_44 : decode cX7_rekey 44 = .ok (.getfield 66, 3) := by decide +kernel
theorem dX7_rekey_47 : decode cX7_rekey 47 = .ok (.iload_n 2, 1) := by decide +kernel
theorem dX7_rekey_48 : decode cX7_rekey 48 = .ok (.aload_n 0, 1) := by decide +kernel
theorem dX7_rekey_49 : decode cX7_rekey 49 = .ok (.getfield 13, 3) := by decide +kernel
theorem dX7_rekey_52 : decode cX7_rekey 52 = .ok (.bipush 32, 2) := by decide +kernel
theorem dX7_rekey_54 : decode cX7_rekey 54 = .ok (.iload_n 1, 1) := by decide +kernel
theorem dX7_rekey_55 : decode cX7_rekey 55 = .ok (.imul, 1) := by decide +kernel
theorem dX7_rekey_56 : decode cX7_rekey 56 = .ok (.iload_n 2, 1) := by decide +kernel
theorem dX7_rekey_57 : decode cX7_rekey 57 = .ok (.iadd, 1) := by decide +kernel
theorem dX7_rekey_58 : decode cX7_rekey 58 = .ok (.iaload, 1) := by decide +kernel
theorem dX7_rekey_59 : decode cX7_rekey 59 = .ok (.iastore, 1) := by decide +kernel
theorem dX7_rekey_60 : decode cX7_rekey 60 = .ok (.iinc 2 1, 3) := by decide +kernel
theorem dX7_rekey_63 : decode cX7_rekey 63 = .ok (.goto (-43), 3) := by decide +kernel
theorem dX7_rekey_66 : decode cX7_rekey 66 = .ok (.aload_n 0, 1) := by decide +kernel
theorem dX7_rekey_67 : decode cX7_rekey 67 = .ok (.bipush 32, 2) := by decide +kernel
theorem dX7_rekey_69 : decode cX7_rekey 69 = .ok (.invokevirtual 175, 3) := by decide +kernel
theorem dX7_rekey_72 : decode cX7_rekey 72 = .ok (.aload_n 0, 1) := by decide +kernel
theorem dX7_rekey_73 : decode cX7_rekey 73 = .ok (.iload_n 1, 1) := by decide +kernel
theorem dX7_rekey_74 : decode cX7_rekey 74 = .ok (.invokevirtual 178, 3) := by decide +kernel
theorem dX7_rekey_77 : decode cX7_rekey 77 = .ok (.aload_n 0, 1) := by decide +kernel
theorem dX7_rekey_78 : decode cX7_rekey 78 = .ok (.getfield 19, 3) := by decide +kernel
theorem dX7_rekey_81 : decode cX7_rekey 81 = .ok (.iload_n 1, 1) := by decide +kernel
theorem dX7_rekey_82 : decode cX7_rekey 82 = .ok (.dup2, 1) := by decide +kernel
theorem dX7_rekey_83 : decode cX7_rekey 83 = .ok (.iaload, 1) := by decide +kernel
theorem dX7_rekey_84 : decode cX7_rekey 84 = .ok (.iconst 1, 1) := by decide +kernel
theorem dX7_rekey_85 : decode cX7_rekey 85 = .ok (.iadd, 1) := by decide +kernel
theorem dX7_rekey_86 : decode cX7_rekey 86 = .ok (.iastore, 1) := by decide +kernel
theorem dX7_rekey_87 : decode cX7_rekey 87 = .ok (.aload_n 0, 1) := by decide +kernel
theorem dX7_rekey_88 : decode cX7_rekey 88 = .ok (.getfield 19, 3) := by decide +kernel
theorem dX7_rekey_91 : decode cX7_rekey 91 = .ok (.iload_n 1, 1) := by decide +kernel
theorem dX7_rekey_92 : decode cX7_rekey 92 = .ok (.iaload, 1) := by decide +kernel
theorem dX7_rekey_93 : decode cX7_rekey 93 = .ok (.ireturn, 1) := by decide +kernel
theorem dX7_left_0 : decode cX7_left 0 = .ok (.iload_n 0, 1) := by decide +kernel
theorem dX7_left_1 : decode cX7_left 1 = .ok (.iload_n 1, 1) := by decide +kernel
theorem dX7_left_2 : decode cX7_left 2 = .ok (.ishl, 1) := by decide +kernel
theorem dX7_left_3 : decode cX7_left 3 = .ok (.iload_n 0, 1) := by decide +kernel
theorem dX7_left_4 : decode cX7_left 4 = .ok (.bipush 32, 2) := by decide +kernel
theorem dX7_left_6 : decode cX7_left 6 = .ok (.iload_n 1, 1) := by decide +kernel
theorem dX7_left_7 : decode cX7_left 7 = .ok (.isub, 1) := by decide +kernel
theorem dX7_left_8 : decode cX7_left 8 = .ok (.iushr, 1) := by decide +kernel
theorem dX7_left_9 : decode cX7_left 9 = .ok (.ior, 1) := by decide +kernel
theorem dX7_left_10 : decode cX7_left 10 = .ok (.ireturn, 1) := by decide +kernel
set_option maxRecDepth 20000 in
theorem ggX7_quarter_X7_left : GoodIn wsX7_quarter wsX7_left := goodIn_r _ [5] (by decide +kernel) (by decide +kernel)
set_option maxRecDepth 20000 in
theorem gX7_quarter_X7_left : GoodIn wsX7_quarter (va_wsS RX7 181 yX7_left wsX7_left) := goodIn_app (goodIn_of _ (by decide +kernel)) ggX7_quarter_X7_left
theorem dX7_quarter_0 : decode cX7_quarter 0 = .ok (.aload_n 0, 1) := by decide +kernel
theorem dX7_quarter_1 : decode cX7_quarter 1 = .ok (.getfield 139, 3) := by decide +kernel
theorem dX7_quarter_4 : decode cX7_quarter 4 = .ok (.iload_n 2, 1) := by decide +kernel
theorem dX7_quarter_5 : decode cX7_quarter 5 = .ok (.dup2, 1) := by decide +kernel
theorem dX7_quarter_6 : decode cX7_quarter 6 = .ok (.iaload, 1) := by decide +kernel
theorem dX7_quarter_7 : decode cX7_quarter 7 = .ok (.aload_n 0, 1) := by decide +kernel
theorem dX7_quarter_8 : decode cX7_quarter 8 = .ok (.getfield 139, 3) := by decide +kernel
theorem dX7_quarter_11 : decode cX7_quarter 11 = .ok (.iload_n 1, 1) := by decide +kernel
theorem dX7_quarter_12 : decode cX7_quarter 12 = .ok (.iaload, 1) := by decide +kernel
theorem dX7_quarter_13 : decode cX7_quarter 13 = .ok (.aload_n 0, 1) := by decide +kernel
theorem dX7_quarter_14 : decode cX7_quarter 14 = .ok (.getfield 139, 3) := by decide +kernel
theorem dX7_quarter_17 : decode cX7_quarter 17 = .ok (.iload 4, 2) := by decide +kernel
theorem dX7_quarter_19 : decode cX7_quarter 19 = .ok (.iaload, 1) := by decide +kernel
theorem dX7_quarter_20 : decode cX7_quarter 20 = .ok (.iadd, 1) := by decide +kernel
theorem dX7_quarter_21 : decode cX7_quarter 21 = .ok (.bipush 7, 2) := by decide +kernel
theorem dX7_quarter_23 : decode cX7_quarter 23 = .ok (.invokestatic 181, 3) := by decide +kernel
theorem dX7_quarter_26 : decode cX7_quarter 26 = .ok (.ixor, 1) := by decide +kernel
theorem dX7_quarter_27 : decode cX7_quarter 27 = .ok (.iastore, 1) := by decide +kernel
theorem dX7_quarter_28 : decode cX7_quarter 28 = .ok (.aload_n 0, 1) := by decide +kernel
theorem dX7_quarter_29 : decode cX7_quarter 29 = .ok (.getfield 139, 3) := by decide +kernel
theorem dX7_quarter_32 : decode cX7_quarter 32 = .ok (.iload_n 3, 1) := by decide +kernel
theorem dX7_quarter_33 : decode cX7_quarter 33 = .ok (.dup2, 1) := by decide +kernel
theorem dX7_quarter_34 : decode cX7_quarter 34 = .ok (.iaload, 1) := by decide +kernel
theorem dX7_quarter_35 : decode cX7_quarter 35 = .ok (.aload_n 0, 1) := by decide +kernel
theorem dX7_quarter_36 : decode cX7_quarter 36 = .ok (.getfield 139, 3) := by decide +kernel
theorem dX7_quarter_39 : decode cX7_quarter 39 = .ok (.iload_n 2, 1) := by decide +kernel
theorem dX7_quarter_40 : decode cX7_quarter 40 = .ok (.iaload, 1) := by decide +kernel
theorem dX7_quarter_41 : decode cX7_quarter 41 = .ok (.aload_n 0, 1) := by decide +kernel
theorem dX7_quarter_42 : decode cX7_quarter 42 = .ok (.getfield 139, 3) := by decide +kernel
theorem dX7_quarter_45 : decode cX7_quarter 45 = .ok (.iload_n 1, 1) := by decide +kernel
theorem dX7_quarter_46 : decode cX7_quarter 46 = .ok (.iaload, 1) := by decide +kernel
theorem dX7_quarter_47 : decode cX7_quarter 47 = .ok (.iadd, 1) := by decide +kernel
theorem dX7_quarter_48 : decode cX7_quarter 48 = .ok (.bipush 9, 2) := by decide +kernel
theorem dX7_quarter_50 : decode cX7_quarter 50 = .ok (.invokestatic 181, 3) := by decide +kernel
theorem dX7_quarter_53 : decode cX7_quarter 53 = .ok (.ixor, 1) := by decide +kernel
theorem dX7_quarter_54 : decode cX7_quarter 54 = .ok (.iastore, 1) := by decide +kernel
theorem dX7_quarter_55 : decode cX7_quarter 55 = .ok (.aload_n 0, 1) := by decide +kernel
theorem dX7_quarter_56 : decode cX7_quarter 56 = .ok (.getfield 139, 3) := by decide +kernel
theorem dX7_quarter_59 : decode cX7_quarter 59 = .ok (.iload 4, 2) := by decide +kernel
theorem dX7_quarter_61 : decode cX7_quarter 61 = .ok (.dup2, 1) := by decide +kernel
theorem dX7_quarter_62 : decode cX7_quarter 62 = .ok (.iaload, 1) := by decide +kernel
theorem dX7_quarter_63 : decode cX7_quarter 63 = .ok (.aload_n 0, 1) := by decide +kernel
theorem dX7_quarter_64 : decode cX7_quarter 64 = .ok (.getfield 139, 3) := by decide +kernel
theorem dX7_quarter_67 : decode cX7_quarter 67 = .ok (.iload_n 3, 1) := by decide +kernel
theorem dX7_quarter_68 : decode cX7_quarter 68 = .ok (.iaload, 1) := by decide +kernel
theorem dX7_quarter_69 : decode cX7_quarter 69 = .ok (.aload_n 0, 1) := by decide +kernel
theorem dX7_quarter_70 : decode cX7_quarter 70 = .ok (.getfield 139, 3) := by decide +kernel
theorem dX7_quarter_73 : decode cX7_quarter 73 = .ok (.iload_n 2, 1) := by decide +kernel
theorem dX7_quarter_74 : decode cX7_quarter 74 = .ok (.iaload, 1) := by decide +kernel
theorem dX7_quarter_75 : decode cX7_quarter 75 = .ok (.iadd, 1) := by decide +kernel
theorem dX7_quarter_76 : decode cX7_quarter 76 = .ok (.bipush 13, 2) := by decide +kernel
theorem dX7_quarter_78 : decode cX7_quarter 78 = .ok (.invokestatic 181, 3) := by decide +kernel
theorem dX7_quarter_81 : decode cX7_quarter 81 = .ok (.ixor, 1) := by decide +kernel
theorem dX7_quarter_82 : decode cX7_quarter 82 = .ok (.iastore, 1) := by decide +kernel
theorem dX7_quarter_83 : decode cX7_quarter 83 = .ok (.aload_n 0, 1) := by decide +kernel
theorem dX7_quarter_84 : decode cX7_quarter 84 = .ok (.getfield 139, 3) := by decide +kernel
theorem dX7_quarter_87 : decode cX7_quarter 87 = .ok (.iload_n 1, 1) := by decide +kernel
theorem dX7_quarter_88 : decode cX7_quarter 88 = .ok (.dup2, 1) := by decide +kernel
theorem dX7_quarter_89 : decode cX7_quarter 89 = .ok (.iaload, 1) := by decide +kernel
theorem dX7_quarter_90 : decode cX7_quarter 90 = .ok (.aload_n 0, 1) := by decide +kernel
theorem dX7_quarter_91 : decode cX7_quarter 91 = .ok (.getfield 139, 3) := by decide +kernel
theorem dX7_quarter_94 : decode cX7_quarter 94 = .ok (.iload 4, 2) := by decide +kernel
theorem dX7_quarter_96 : decode cX7_quarter 96 = .ok (.iaload, 1) := by decide +kernel
theorem dX7_quarter_97 : decode cX7_quarter 97 = .ok (.aload_n 0, 1) := by decide +kernel
theorem dX7_quarter_98 : decode cX7_quarter 98 = .ok (.getfield 139, 3) := by decide +kernel
theorem dX7_quarter_101 : decode cX7_quarter 101 = .ok (.iload_n 3, 1) := by decide +kernel
theorem dX7_quarter_102 : decode cX7_quarter 102 = .ok (.iaload, 1) := by decide +kernel
theorem dX7_quarter_103 : decode cX7_quarter 103 = .ok (.iadd, 1) := by decide +kernel
theorem dX7_quarter_104 : decode cX7_quarter 104 = .ok (.bipush 18, 2) := by decide +kernel
theorem dX7_quarter_106 : decode cX7_quarter 106 = .ok (.invokestatic 181, 3) := by decide +kernel
theorem dX7_quarter_109 : decode cX7_quarter 109 = .ok (.ixor, 1) := by decide +kernel
theorem dX7_quarter_110 : decode cX7_quarter 110 = .ok (.iastore, 1) := by decide +kernel
theorem dX7_quarter_111 : decode cX7_quarter 111 = .ok (.return_, 1) := by decide +kernel
theorem dX7_keyWord_0 : decode cX7_keyWord 0 = .ok (.bipush 32, 2) := by decide +kernel
theorem dX7_keyWord_2 : decode cX7_keyWord 2 = .ok (.iload_n 1, 1) := by decide +kernel
theorem dX7_keyWord_3 : decode cX7_keyWord 3 = .ok (.imul, 1) := by decide +kernel
theorem dX7_keyWord_4 : decode cX7_keyWord 4 = .ok (.iconst 4, 1) := by decide +kernel
theorem dX7_keyWord_5 : decode cX7_keyWord 5 = .ok (.iload_n 2, 1) := by decide +kernel
theorem dX7_keyWord_6 : decode cX7_keyWord 6 = .ok (.imul, 1) := by decide +kernel
theorem dX7_keyWord_7 : decode cX7_keyWord 7 = .ok (.iadd, 1) := by decide +kernel
theorem dX7_keyWord_8 : decode cX7_keyWord 8 = .ok (.istore_n 3, 1) := by decide +kernel
theorem dX7_keyWord_9 : decode cX7_keyWord 9 = .ok (.aload_n 0, 1) := by decide +kernel
theorem dX7_keyWord_10 : decode cX7_keyWord 10 = .ok (.getfield 13, 3) := by decide +kernel
theorem dX7_keyWord_13 : decode cX7_keyWord 13 = .ok (.iload_n 3, 1) := by decide +kernel
theorem dX7_keyWord_14 : decode cX7_keyWord 14 = .ok (.iaload, 1) := by decide +kernel
theorem dX7_keyWord_15 : decode cX7_keyWord 15 = .ok (.aload_n 0, 1) := by decide +kernel
theorem dX7_keyWord_16 : decode cX7_keyWord 16 = .ok (.getfield 13, 3) := by decide +kernel
theorem dX7_keyWord_19 : decode cX7_keyWord 19 = .ok (.iload_n 3, 1) := by decide +kernel
theorem dX7_keyWord_20 : decode cX7_keyWord 20 = .ok (.iconst 1, 1) := by decide +kernel
theorem dX7_keyWord_21 : decode cX7_keyWord 21 = .ok (.iadd, 1) := by decide +kernel
theorem dX7_keyWord_22 : decode cX7_keyWord 22 = .ok (.iaload, 1) := by decide +kernel
theorem dX7_keyWord_23 : decode cX7_keyWord 23 = .ok (.bipush 8, 2) := by decide +kernel
theorem dX7_keyWord_25 : decode cX7_keyWord 25 = .ok (.ishl, 1) := by decide +kernel
theorem dX7_keyWord_26 : decode cX7_keyWord 26 = .ok (.ior, 1) := by decide +kernel
theorem dX7_keyWord_27 : decode cX7_keyWord 27 = .ok (.aload_n 0, 1) := by decide +kernel
theorem dX7_keyWord_28 : decode cX7_keyWord 28 = .ok (.getfield 13, 3) := by decide +kernel
theorem dX7_keyWord_31 : decode cX7_keyWord 31 = .ok (.iload_n 3, 1) := by decide +kernel
theorem dX7_keyWord_32 : decode cX7_keyWord 32 = .ok (.iconst 2, 1) := by decide +kernel
theorem dX7_keyWord_33 : decode cX7_keyWord 33 = .ok (.iadd, 1) := by decide +kernel
theorem dX7_keyWord_34 : decode cX7_keyWord 34 = .ok (.iaload, 1) := by decide +kernel
theorem dX7_keyWord_35 : decode cX7_keyWord 35 = .ok (.bipush 16, 2) := by decide +kernel
theorem dX7_keyWord_37 : decode cX7_keyWord 37 = .ok (.ishl, 1) := by decide +kernel
theorem dX7_keyWord_38 : decode cX7_keyWord 38 = .ok (.ior, 1) := by decide +kernel
theorem dX7_keyWord_39 : decode cX7_keyWord 39 = .ok (.aload_n 0, 1) := by decide +kernel
theorem dX7_keyWord_40 : decode cX7_keyWord 40 = .ok (.getfield 13, 3) := by decide +kernel
theorem dX7_keyWord_43 : decode cX7_keyWord 43 = .ok (.iload_n 3, 1) := by decide +kernel
theorem dX7_keyWord_44 : decode cX7_keyWord 44 = .ok (.iconst 3, 1) := by decide +kernel
theorem dX7_keyWord_45 : decode cX7_keyWord 45 = .ok (.iadd, 1) := by decide +kernel
theorem dX7_keyWord_46 : decode cX7_keyWord 46 = .ok (.iaload, 1) := by decide +kernel
theorem dX7_keyWord_47 : decode cX7_keyWord 47 = .ok (.bipush 24, 2) := by decide +kernel
theorem dX7_keyWord_49 : decode cX7_keyWord 49 = .ok (.ishl, 1) := by decide +kernel
theorem dX7_keyWord_50 : decode cX7_keyWord 50 = .ok (.ior, 1) := by decide +kernel
theorem dX7_keyWord_51 : decode cX7_keyWord 51 = .ok (.ireturn, 1) := by decide +kernel
theorem dX7_wireWord_0 : decode cX7_wireWord 0 = .ok (.sipush 128, 3) := by decide +kernel
theorem dX7_wireWord_3 : decode cX7_wireWord 3 = .ok (.iload_n 1, 1) := by decide +kernel
theorem dX7_wireWord_4 : decode cX7_wireWord 4 = .ok (.imul, 1) := by decide +kernel
theorem dX7_wireWord_5 : decode cX7_wireWord 5 = .ok (.iload_n 2, 1) := by decide +kernel
theorem dX7_wireWord_6 : decode cX7_wireWord 6 = .ok (.iadd, 1) := by decide +kernel
theorem dX7_wireWord_7 : decode cX7_wireWord 7 = .ok (.istore_n 3, 1) := by decide +kernel
theorem dX7_wireWord_8 : decode cX7_wireWord 8 = .ok (.aload_n 0, 1) := by decide +kernel
theorem dX7_wireWord_9 : decode cX7_wireWord 9 = .ok (.getfield 36, 3) := by decide +kernel
theorem dX7_wireWord_12 : decode cX7_wireWord 12 = .ok (.iload_n 3, 1) := by decide +kernel
theorem dX7_wireWord_13 : decode cX7_wireWord 13 = .ok (.iaload, 1) := by decide +kernel
theorem dX7_wireWord_14 : decode cX7_wireWord 14 = .ok (.aload_n 0, 1) := by decide +kernel
theorem dX7_wireWord_15 : decode cX7_wireWord 15 = .ok (.getfield 36, 3) := by decide +kernel
theorem dX7_wireWord_18 : decode cX7_wireWord 18 = .ok (.iload_n 3, 1) := by decide +kernel
theorem dX7_wireWord_19 : decode cX7_wireWord 19 = .ok (.iconst 1, 1) := by decide +kernel
theorem dX7_wireWord_20 : decode cX7_wireWord 20 = .ok (.iadd, 1) := by decide +kernel
theorem dX7_wireWord_21 : decode cX7_wireWord 21 = .ok (.iaload, 1) := by decide +kernel
theorem dX7_wireWord_22 : decode cX7_wireWord 22 = .ok (.bipush 8, 2) := by decide +kernel
theorem dX7_wireWord_24 : decode cX7_wireWord 24 = .ok (.ishl, 1) := by decide +kernel
theorem dX7_wireWord_25 : decode cX7_wireWord 25 = .ok (.ior, 1) := by decide +kernel
theorem dX7_wireWord_26 : decode cX7_wireWord 26 = .ok (.aload_n 0, 1) := by decide +kernel
theorem dX7_wireWord_27 : decode cX7_wireWord 27 = .ok (.getfield 36, 3) := by decide +kernel
theorem dX7_wireWord_30 : decode cX7_wireWord 30 = .ok (.iload_n 3, 1) := by decide +kernel
theorem dX7_wireWord_31 : decode cX7_wireWord 31 = .ok (.iconst 2, 1) := by decide +kernel
theorem dX7_wireWord_32 : decode cX7_wireWord 32 = .ok (.iadd, 1) := by decide +kernel
theorem dX7_wireWord_33 : decode cX7_wireWord 33 = .ok (.iaload, 1) := by decide +kernel
theorem dX7_wireWord_34 : decode cX7_wireWord 34 = .ok (.bipush 16, 2) := by decide +kernel
theorem dX7_wireWord_36 : decode cX7_wireWord 36 = .ok (.ishl, 1) := by decide +kernel
theorem dX7_wireWord_37 : decode cX7_wireWord 37 = .ok (.ior, 1) := by decide +kernel
theorem dX7_wireWord_38 : decode cX7_wireWord 38 = .ok (.aload_n 0, 1) := by decide +kernel
theorem dX7_wireWord_39 : decode cX7_wireWord 39 = .ok (.getfield 36, 3) := by decide +kernel
theorem dX7_wireWord_42 : decode cX7_wireWord 42 = .ok (.iload_n 3, 1) := by decide +kernel
theorem dX7_wireWord_43 : decode cX7_wireWord 43 = .ok (.iconst 3, 1) := by decide +kernel
theorem dX7_wireWord_44 : decode cX7_wireWord 44 = .ok (.iadd, 1) := by decide +kernel
theorem dX7_wireWord_45 : decode cX7_wireWord 45 = .ok (.iaload, 1) := by decide +kernel
theorem dX7_wireWord_46 : decode cX7_wireWord 46 = .ok (.bipush 24, 2) := by decide +kernel
theorem dX7_wireWord_48 : decode cX7_wireWord 48 = .ok (.ishl, 1) := by decide +kernel
theorem dX7_wireWord_49 : decode cX7_wireWord 49 = .ok (.ior, 1) := by decide +kernel
theorem dX7_wireWord_50 : decode cX7_wireWord 50 = .ok (.ireturn, 1) := by decide +kernel
set_option maxRecDepth 20000 in
theorem ggX7_stream_X7_keyWord : GoodIn wsX7_stream wsX7_keyWord := goodIn_r _ [11, 12, 25, 26, 27, 28, 29, 30, 31, 32, 33, 34, 35, 36, 37, 38, 39, 40, 41, 42, 43, 44, 45, 46, 47, 48, 49] (by decide +kernel) (by decide +kernel)
set_option maxRecDepth 20000 in
theorem gX7_stream_X7_keyWord : GoodIn wsX7_stream (wsV RX7 188 RX7 yX7_keyWord wsX7_keyWord) := goodIn_app (goodIn_of _ (by decide +kernel)) ggX7_stream_X7_keyWord
set_option maxRecDepth 20000 in
theorem ggX7_stream_X7_wireWord : GoodIn wsX7_stream wsX7_wireWord := goodIn_r _ [16, 17, 25, 26, 27, 28, 29, 30, 31, 32, 33, 34, 35, 36, 37, 38, 39, 40, 41, 42, 43, 44, 45, 46, 47, 48, 49] (by decide +kernel) (by decide +kernel)
set_option maxRecDepth 20000 in
theorem gX7_stream_X7_wireWord : GoodIn wsX7_stream (wsV RX7 191 RX7 yX7_wireWord wsX7_wireWord) := goodIn_app (goodIn_of _ (by decide +kernel)) ggX7_stream_X7_wireWord
set_option maxRecDepth 20000 in
theorem ggX7_stream_X7_quarter : GoodIn wsX7_stream wsX7_quarter := goodIn_r _ [21, 6, 22, 23, 10, 24, 25, 26, 27, 28, 29, 30, 31, 32, 33, 34, 35, 36, 37, 38, 39, 40, 41, 42, 43, 44, 45, 46, 47, 48, 49] (by decide +kernel) (by decide +kernel)
set_option maxRecDepth 20000 in
theorem gX7_stream_X7_quarter : GoodIn wsX7_stream (wsV RX7 194 RX7 yX7_quarter wsX7_quarter) := goodIn_app (goodIn_of _ (by decide +kernel)) ggX7_stream_X7_quarter
theorem dX7_stream_0 : decode cX7_stream 0 = .ok (.aload_n 0, 1) := by decide +kernel
theorem dX7_stream_1 : decode cX7_stream 1 = .ok (.getfield 136, 3) := by decide +kernel
theorem dX7_stream_4 : decode cX7_stream 4 = .ok (.iconst 0, 1) := by decide +kernel
theorem dX7_stream_5 : decode cX7_stream 5 = .ok (.ldc 184, 2) := by decide +kernel
theorem dX7_stream_7 : decode cX7_stream 7 = .ok (.iastore, 1) := by decide +kernel
theorem dX7_stream_8 : decode cX7_stream 8 = .ok (.aload_n 0, 1) := by decide +kernel
theorem dX7_stream_9 : decode cX7_stream 9 = .ok (.getfield 136, 3) := by decide +kernel
theorem dX7_stream_12 : decode cX7_stream 12 = .ok (.iconst 5, 1) := by decide +kernel
theorem dX7_stream_13 : decode cX7_stream 13 = .ok (.ldc 185, 2) := by decide +kernel
theorem dX7_stream_15 : decode cX7_stream 15 = .ok (.iastore, 1) := by decide +kernel
theorem dX7_stream_16 : decode cX7_stream 16 = .ok (.aload_n 0, 1) := by decide +kernel
theorem dX7_stream_17 : decode cX7_stream 17 = .ok (.getfield 136, 3) := by decide +kernel
theorem dX7_stream_20 : decode cX7_stream 20 = .ok (.bipush 10, 2) := by decide +kernel
theorem dX7_stream_22 : decode cX7_stream 22 = .ok (.ldc 186, 2) := by decide +kernel
theorem dX7_stream_24 : decode cX7_stream 24 = .ok (.iastore, 1) := by decide +kernel
theorem dX7_stream_25 : decode cX7_stream 25 = .ok (.aload_n 0, 1) := by decide +kernel
theorem dX7_stream_26 : decode cX7_stream 26 = .ok (.getfield 136, 3) := by decide +kernel
theorem dX7_stream_29 : decode cX7_stream 29 = .ok (.bipush 15, 2) := by decide +kernel
theorem dX7_stream_31 : decode cX7_stream 31 = .ok (.ldc 187, 2) := by decide +kernel
theorem dX7_stream_33 : decode cX7_stream 33 = .ok (.iastore, 1) := by decide +kernel
theorem dX7_stream_34 : decode cX7_stream 34 = .ok (.iconst 0, 1) := by decide +kernel
theorem dX7_stream_35 : decode cX7_stream 35 = .ok (.istore 4, 2) := by decide +kernel
theorem dX7_stream_37 : decode cX7_stream 37 = .ok (.iload 4, 2) := by decide +kernel
theorem dX7_stream_39 : decode cX7_stream 39 = .ok (.iconst 4, 1) := by decide +kernel
theorem dX7_stream_40 : decode cX7_stream 40 = .ok (.if_icmp .ge 44, 3) := by decide +kernel
theorem dX7_stream_43 : decode cX7_stream 43 = .ok (.aload_n 0, 1) := by decide +kernel
theorem dX7_stream_44 : decode cX7_stream 44 = .ok (.getfield 136, 3) := by decide +kernel
theorem dX7_stream_47 : decode cX7_stream 47 = .ok (.iconst 1, 1) := by decide +kernel
theorem dX7_stream_48 : decode cX7_stream 48 = .ok (.iload 4, 2) := by decide +kernel
theorem dX7_stream_50 : decode cX7_stream 50 = .ok (.iadd, 1) := by decide +kernel
theorem dX7_stream_51 : decode cX7_stream 51 = .ok (.aload_n 0, 1) := by decide +kernel
theorem dX7_stream_52 : decode cX7_stream 52 = .ok (.iload_n 1, 1) := by decide +kernel
theorem dX7_stream_53 : decode cX7_stream 53 = .ok (.iload 4, 2) := by decide +kernel
theorem dX7_stream_55 : decode cX7_stream 55 = .ok (.invokevirtual 188, 3) := by decide +kernel
theorem dX7_stream_58 : decode cX7_stream 58 = .ok (.iastore, 1) := by decide +kernel
theorem dX7_stream_59 : decode cX7_stream 59 = .ok (.aload_n 0, 1) := by decide +kernel
theorem dX7_stream_60 : decode cX7_stream 60 = .ok (.getfield 136, 3) := by decide +kernel
theorem dX7_stream_63 : decode cX7_stream 63 = .ok (.bipush 11, 2) := by decide +kernel
theorem dX7_stream_65 : decode cX7_stream 65 = .ok (.iload 4, 2) := by decide +kernel
theorem dX7_stream_67 : decode cX7_stream 67 = .ok (.iadd, 1) := by decide +kernel
theorem dX7_stream_68 : decode cX7_stream 68 = .ok (.aload_n 0, 1) := by decide +kernel
theorem dX7_stream_69 : decode cX7_stream 69 = .ok (.iload_n 1, 1) := by decide +kernel
theorem dX7_stream_70 : decode cX7_stream 70 = .ok (.iconst 4, 1) := by decide +kernel
theorem dX7_stream_71 : decode cX7_stream 71 = .ok (.iload 4, 2) := by decide +kernel
theorem dX7_stream_73 : decode cX7_stream 73 = .ok (.iadd, 1) := by decide +kernel
theorem dX7_stream_74 : decode cX7_stream 74 = .ok (.invokevirtual 188, 3) := by decide +kernel
theorem dX7_stream_77 : decode cX7_stream 77 = .ok (.iastore, 1) := by decide +kernel
theorem dX7_stream_78 : decode cX7_stream 78 = .ok (.iinc 4 1, 3) := by decide +kernel
theorem dX7_stream_81 : decode cX7_stream 81 = .ok (.goto (-44), 3) := by decide +kernel
theorem dX7_stream_84 : decode cX7_stream 84 = .ok (.aload_n 0, 1) := by decide +kernel
theorem dX7_stream_85 : decode cX7_stream 85 = .ok (.getfield 136, 3) := by decide +kernel
theorem dX7_stream_88 : decode cX7_stream 88 = .ok (.bipush 6, 2) := by decide +kernel
theorem dX7_stream_90 : decode cX7_stream 90 = .ok (.aload_n 0, 1) := by decide +kernel
theorem dX7_stream_91 : decode cX7_stream 91 = .ok (.iload_n 2, 1) := by decide +kernel
theorem dX7_stream_92 : decode cX7_stream 92 = .ok (.iconst 5, 1) := by decide +kernel
theorem dX7_stream_93 : decode cX7_stream 93 = .ok (.invokevirtual 191, 3) := by decide +kernel
theorem dX7_stream_96 : decode cX7_stream 96 = .ok (.iastore, 1) := by decide +kernel
theorem dX7_stream_97 : decode cX7_stream 97 = .ok (.aload_n 0, 1) := by decide +kernel
theorem dX7_stream_98 : decode cX7_stream 98 = .ok (.getfield 136, 3) := by decide +kernel
theorem dX7_stream_101 : decode cX7_stream 101 = .ok (.bipush 7, 2) := by decide +kernel
theorem dX7_stream_103 : decode cX7_stream 103 = .ok (.aload_n 0, 1) := by decide +kernel
theorem dX7_stream_104 : decode cX7_stream 104 = .ok (.iload_n 2, 1) := by decide +kernel
theorem dX7_stream_105 : decode cX7_stream 105 = .ok (.bipush 9, 2) := by decide +kernel
theorem dX7_stream_107 : decode cX7_stream 107 = .ok (.invokevirtual 191, 3) := by decide +kernel
theorem dX7_stream_110 : decode cX7_stream 110 = .ok (.iastore, 1) := by decide +kernel
theorem dX7_stream_111 : decode cX7_stream 111 = .ok (.aload_n 0, 1) := by decide +kernel
theorem dX7_stream_112 : decode cX7_stream 112 = .ok (.getfield 136, 3) := by decide +kernel
theorem dX7_stream_115 : decode cX7_stream 115 = .ok (.bipush 8, 2) := by decide +kernel
theorem dX7_stream_117 : decode cX7_stream 117 = .ok (.iload_n 3, 1) := by decide +kernel
theorem dX7_stream_118 : decode cX7_stream 118 = .ok (.iastore, 1) := by decide +kernel
theorem dX7_stream_119 : decode cX7_stream 119 = .ok (.aload_n 0, 1) := by decide +kernel
theorem dX7_stream_120 : decode cX7_stream 120 = .ok (.getfield 136, 3) := by decide +kernel
theorem dX7_stream_123 : decode cX7_stream 123 = .ok (.bipush 9, 2) := by decide +kernel
theorem dX7_stream_125 : decode cX7_stream 125 = .ok (.iconst 0, 1) := by decide +kernel
theorem dX7_stream_126 : decode cX7_stream 126 = .ok (.iastore, 1) := by decide +kernel
theorem dX7_stream_127 : decode cX7_stream 127 = .ok (.iconst 0, 1) := by decide +kernel
theorem dX7_stream_128 : decode cX7_stream 128 = .ok (.istore 4, 2) := by decide +kernel
theorem dX7_stream_130 : decode cX7_stream 130 = .ok (.iload 4, 2) := by decide +kernel
theorem dX7_stream_132 : decode cX7_stream 132 = .ok (.bipush 16, 2) := by decide +kernel
theorem dX7_stream_134 : decode cX7_stream 134 = .ok (.if_icmp .ge 23, 3) := by decide +kernel
theorem dX7_stream_137 : decode cX7_stream 137 = .ok (.aload_n 0, 1) := by decide +kernel
theorem dX7_stream_138 : decode cX7_stream 138 = .ok (.getfield 139, 3) := by decide +kernel
theorem dX7_stream_141 : decode cX7_stream 141 = .ok (.iload 4, 2) := by decide +kernel
theorem dX7_stream_143 : decode cX7_stream 143 = .ok (.aload_n 0, 1) := by decide +kernel
theorem dX7_stream_144 : decode cX7_stream 144 = .ok (.getfield 136, 3) := by decide +kernel
theorem dX7_stream_147 : decode cX7_stream 147 = .ok (.iload 4, 2) := by decide +kernel
theorem dX7_stream_149 : decode cX7_stream 149 = .ok (.iaload, 1) := by decide +kernel
theorem dX7_stream_150 : decode cX7_stream 150 = .ok (.iastore, 1) := by decide +kernel
theorem dX7_stream_151 : decode cX7_stream 151 = .ok (.iinc 4 1, 3) := by decide +kernel
theorem dX7_stream_154 : decode cX7_stream 154 = .ok (.goto (-24), 3) := by decide +kernel
theorem dX7_stream_157 : decode cX7_stream 157 = .ok (.iconst 0, 1) := by decide +kernel
theorem dX7_stream_158 : decode cX7_stream 158 = .ok (.istore 4, 2) := by decide +kernel
theorem dX7_stream_160 : decode cX7_stream 160 = .ok (.iload 4, 2) := by decide +kernel
theorem dX7_stream_162 : decode cX7_stream 162 = .ok (.bipush 10, 2) := by decide +kernel
theorem dX7_stream_164 : decode cX7_stream 164 = .ok (.if_icmp .ge 93, 3) := by decide +kernel
theorem dX7_stream_167 : decode cX7_stream 167 = .ok (.aload_n 0, 1) := by decide +kernel
theorem dX7_stream_168 : decode cX7_stream 168 = .ok (.iconst 0, 1) := by decide +kernel
theorem dX7_stream_169 : decode cX7_stream 169 = .ok (.iconst 4, 1) := by decide +kernel
theorem dX7_stream_170 : decode cX7_stream 170 = .ok (.bipush 8, 2) := by decide +kernel
theorem dX7_stream_172 : decode cX7_stream 172 = .ok (.bipush 12, 2) := by decide +kernel
theorem dX7_stream_174 : decode cX7_stream 174 = .ok (.invokevirtual 194, 3) := by decide +kernel
theorem dX7_stream_177 : decode cX7_stream 177 = .ok (.aload_n 0, 1) := by decide +kernel
theorem dX7_stream_178 : decode cX7_stream 178 = .ok (.iconst 5, 1) := by decide +kernel
theorem dX7_stream_179 : decode cX7_stream 179 = .ok (.bipush 9, 2) := by decide +kernel
theorem dX7_stream_181 : decode cX7_stream 181 = .ok (.bipush 13, 2) := by decide +kernel
theorem dX7_stream_183 : decode cX7_stream 183 = .ok (.iconst 1, 1) := by decide +kernel
theorem dX7_stream_184 : decode cX7_stream 184 = .ok (.invokevirtual 194, 3) := by decide +kernel
theorem dX7_stream_187 : decode cX7_stream 187 = .ok (.aload_n 0, 1) := by decide +kernel
theorem dX7_stream_188 : decode cX7_stream 188 = .ok (.bipush 10, 2) := by decide +kernel
theorem dX7_stream_190 : decode cX7_stream 190 = .ok (.bipush 14, 2) := by decide +kernel
theorem dX7_stream_192 : decode cX7_stream 192 = .ok (.iconst 2, 1) := by decide +kernel
theorem dX7_stream_193 : decode cX7_stream 193 = .ok (.bipush 6, 2) := by decide +kernel
theorem dX7_stream_195 : decode cX7_stream 195 = .ok (.invokevirtual 194, 3) := by decide +kernel
theorem dX7_stream_198 : decode cX7_stream 198 = .ok (.aload_n 0, 1) := by decide +kernel
theorem dX7_stream_199 : decode cX7_stream 199 = .ok (.bipush 15, 2) := by decide +kernel
theorem dX7_stream_201 : decode cX7_stream 201 = .ok (.iconst 3, 1) := by decide +kernel
theorem dX7_stream_202 : decode cX7_stream 202 = .ok (.bipush 7, 2) := by decide +kernel
theorem dX7_stream_204 : decode cX7_stream 204 = .ok (.bipush 11, 2) := by decide +kernel
theorem dX7_stream_206 : decode cX7_stream 206 = .ok (.invokevirtual 194, 3) := by decide +kernel
theorem dX7_stream_209 : decode cX7_stream 209 = .ok (.aload_n 0, 1) := by decide +kernel
theorem dX7_stream_210 : decode cX7_stream 210 = .ok (.iconst 0, 1) := by decide +kernel
theorem dX7_stream_211 : decode cX7_stream 211 = .ok (.iconst 1, 1) := by decide +kernel
theorem dX7_stream_212 : decode cX7_stream 212 = .ok (.iconst 2, 1) := by decide +kernel
theorem dX7_stream_213 : decode cX7_stream 213 = .ok (.iconst 3, 1) := by decide +kernel
theorem dX7_stream_214 : decode cX7_stream 214 = .ok (.invokevirtual 194, 3) := by decide +kernel
theorem dX7_stream_217 : decode cX7_stream 217 = .ok (.aload_n 0, 1) := by decide +kernel
theorem dX7_stream_218 : decode cX7_stream 218 = .ok (.iconst 5, 1) := by decide +kernel
theorem dX7_stream_219 : decode cX7_stream 219 = .ok (.bipush 6, 2) := by decide +kernel
theorem dX7_stream_221 : decode cX7_stream 221 = .ok (.bipush 7, 2) := by decide +kernel
theorem dX7_stream_223 : decode cX7_stream 223 = .ok (.iconst 4, 1) := by decide +kernel
theorem dX7_stream_224 : decode cX7_stream 224 = .ok (.invokevirtual 194, 3) := by decide +kernel
theorem dX7_stream_227 : decode cX7_stream 227 = .ok (.aload_n 0, 1) := by decide +kernel
theorem dX7_stream_228 : decode cX7_stream 228 = .ok (.bipush 10, 2) := by decide +kernel
theorem dX7_stream_230 : decode cX7_stream 230 = .ok (.bipush 11, 2) := by decide +kernel
theorem dX7_stream_232 : decode cX7_stream 232 = .ok (.bipush 8, 2) := by decide +kernel
theorem dX7_stream_234 : decode cX7_stream 234 = .ok (.bipush 9, 2) := by decide +kernel
theorem dX7_stream_236 : decode cX7_stream 236 = .ok (.invokevirtual 194, 3) := by decide +kernel
theorem dX7_stream_239 : decode cX7_stream 239 = .ok (.aload_n 0, 1) := by decide +kernel
theorem dX7_stream_240 : decode cX7_stream 240 = .ok (.bipush 15, 2) := by decide +kernel
theorem dX7_stream_242 : decode cX7_stream 242 = .ok (.bipush 12, 2) := by decide +kernel
theorem dX7_stream_244 : decode cX7_stream 244 = .ok (.bipush 13, 2) := by decide +kernel
theorem dX7_stream_246 : decode cX7_stream 246 = .ok (.bipush 14, 2) := by decide +kernel
theorem dX7_stream_248 : decode cX7_stream 248 = .ok (.invokevirtual 194, 3) := by decide +kernel
theorem dX7_stream_251 : decode cX7_stream 251 = .ok (.iinc 4 1, 3) := by decide +kernel
theorem dX7_stream_254 : decode cX7_stream 254 = .ok (.goto (-94), 3) := by decide +kernel
theorem dX7_stream_257 : decode cX7_stream 257 = .ok (.return_, 1) := by decide +kernel
set_option maxRecDepth 20000 in
theorem ggX7_streamByte_X7_stream : GoodIn wsX7_streamByte wsX7_stream := goodIn_r _ [7, 2, 8, 9, 10, 11, 1, 12, 13, 14, 6, 15, 16, 17, 18, 19, 20, 21, 22, 23, 24, 25, 26, 27, 28, 29, 30, 31, 32, 33, 34, 35, 36, 37, 38, 39, 40, 41, 42, 43, 44, 45, 46, 47, 48, 49, 50, 51, 52, 53] (by decide +kernel) (by decide +kernel)
set_option maxRecDepth 20000 in
theorem gX7_streamByte_X7_stream : GoodIn wsX7_streamByte (wsV RX7 198 RX7 yX7_stream wsX7_stream) := goodIn_app (goodIn_of _ (by decide +kernel)) ggX7_streamByte_X7_stream
theorem dX7_streamByte_0 : decode cX7_streamByte 0 = .ok (.iload_n 3, 1) := by decide +kernel
theorem dX7_streamByte_1 : decode cX7_streamByte 1 = .ok (.bipush 64, 2) := by decide +kernel
theorem dX7_streamByte_3 : decode cX7_streamByte 3 = .ok (.irem, 1) := by decide +kernel
theorem dX7_streamByte_4 : decode cX7_streamByte 4 = .ok (.ifCond .ne 13, 3) := by decide +kernel
theorem dX7_streamByte_7 : decode cX7_streamByte 7 = .ok (.aload_n 0, 1) := by decide +kernel
theorem dX7_streamByte_8 : decode cX7_streamByte 8 = .ok (.iload_n 1, 1) := by decide +kernel
theorem dX7_streamByte_9 : decode cX7_streamByte 9 = .ok (.iload_n 2, 1) := by decide +kernel
theorem dX7_streamByte_10 : decode cX7_streamByte 10 = .ok (.iload_n 3, 1) := by decide +kernel
theorem dX7_streamByte_11 : decode cX7_streamByte 11 = .ok (.bipush 64, 2) := by decide +kernel
theorem dX7_streamByte_13 : decode cX7_streamByte 13 = .ok (.idiv, 1) := by decide +kernel
theorem dX7_streamByte_14 : decode cX7_streamByte 14 = .ok (.invokevirtual 198, 3) := by decide +kernel
theorem dX7_streamByte_17 : decode cX7_streamByte 17 = .ok (.iload_n 3, 1) := by decide +kernel
theorem dX7_streamByte_18 : decode cX7_streamByte 18 = .ok (.bipush 64, 2) := by decide +kernel
theorem dX7_streamByte_20 : decode cX7_streamByte 20 = .ok (.irem, 1) := by decide +kernel
theorem dX7_streamByte_21 : decode cX7_streamByte 21 = .ok (.iconst 4, 1) := by decide +kernel
theorem dX7_streamByte_22 : decode cX7_streamByte 22 = .ok (.idiv, 1) := by decide +kernel
theorem dX7_streamByte_23 : decode cX7_streamByte 23 = .ok (.istore 4, 2) := by decide +kernel
theorem dX7_streamByte_25 : decode cX7_streamByte 25 = .ok (.aload_n 0, 1) := by decide +kernel
theorem dX7_streamByte_26 : decode cX7_streamByte 26 = .ok (.getfield 139, 3) := by decide +kernel
theorem dX7_streamByte_29 : decode cX7_streamByte 29 = .ok (.iload 4, 2) := by decide +kernel
theorem dX7_streamByte_31 : decode cX7_streamByte 31 = .ok (.iaload, 1) := by decide +kernel
theorem dX7_streamByte_32 : decode cX7_streamByte 32 = .ok (.aload_n 0, 1) := by decide +kernel
theorem dX7_streamByte_33 : decode cX7_streamByte 33 = .ok (.getfield 136, 3) := by decide +kernel
theorem dX7_streamByte_36 : decode cX7_streamByte 36 = .ok (.iload 4, 2) := by decide +kernel
theorem dX7_streamByte_38 : decode cX7_streamByte 38 = .ok (.iaload, 1) := by decide +kernel
theorem dX7_streamByte_39 : decode cX7_streamByte 39 = .ok (.iadd, 1) := by decide +kernel
theorem dX7_streamByte_40 : decode cX7_streamByte 40 = .ok (.bipush 8, 2) := by decide +kernel
theorem dX7_streamByte_42 : decode cX7_streamByte 42 = .ok (.iload_n 3, 1) := by decide +kernel
theorem dX7_streamByte_43 : decode cX7_streamByte 43 = .ok (.iconst 4, 1) := by decide +kernel
theorem dX7_streamByte_44 : decode cX7_streamByte 44 = .ok (.irem, 1) := by decide +kernel
theorem dX7_streamByte_45 : decode cX7_streamByte 45 = .ok (.imul, 1) := by decide +kernel
theorem dX7_streamByte_46 : decode cX7_streamByte 46 = .ok (.iushr, 1) := by decide +kernel
theorem dX7_streamByte_47 : decode cX7_streamByte 47 = .ok (.sipush 255, 3) := by decide +kernel
theorem dX7_streamByte_50 : decode cX7_streamByte 50 = .ok (.iand, 1) := by decide +kernel
theorem dX7_streamByte_51 : decode cX7_streamByte 51 = .ok (.ireturn, 1) := by decide +kernel
theorem dX7_put_0 : decode cX7_put 0 = .ok (.iload_n 1, 1) := by decide +kernel
theorem dX7_put_1 : decode cX7_put 1 = .ok (.ifCond .lt 23, 3) := by decide +kernel
theorem dX7_put_4 : decode cX7_put 4 = .ok (.iload_n 1, 1) := by decide +kernel
theorem dX7_put_5 : decode cX7_put 5 = .ok (.sipush 256, 3) := by decide +kernel
theorem dX7_put_8 : decode cX7_put 8 = .ok (.if_icmp .ge 16, 3) := by decide +kernel
theorem dX7_put_11 : decode cX7_put 11 = .ok (.aload_n 0, 1) := by decide +kernel
theorem dX7_put_12 : decode cX7_put 12 = .ok (.getfield 149, 3) := by decide +kernel
theorem dX7_put_15 : decode cX7_put 15 = .ok (.bipush 96, 2) := by decide +kernel
theorem dX7_put_17 : decode cX7_put 17 = .ok (.if_icmp .ge 7, 3) := by decide +kernel
theorem dX7_put_20 : decode cX7_put 20 = .ok (.iconst 1, 1) := by decide +kernel
theorem dX7_put_21 : decode cX7_put 21 = .ok (.goto 4, 3) := by decide +kernel
theorem dX7_put_24 : decode cX7_put 24 = .ok (.iconst 0, 1) := by decide +kernel
theorem dX7_put_25 : decode cX7_put 25 = .ok (.istore_n 2, 1) := by decide +kernel
theorem dX7_put_26 : decode cX7_put 26 = .ok (.iload_n 2, 1) := by decide +kernel
theorem dX7_put_27 : decode cX7_put 27 = .ok (.ifCond .eq 23, 3) := by decide +kernel
theorem dX7_put_30 : decode cX7_put 30 = .ok (.aload_n 0, 1) := by decide +kernel
theorem dX7_put_31 : decode cX7_put 31 = .ok (.getfield 42, 3) := by decide +kernel
theorem dX7_put_34 : decode cX7_put 34 = .ok (.aload_n 0, 1) := by decide +kernel
theorem dX7_put_35 : decode cX7_put 35 = .ok (.getfield 149, 3) := by decide +kernel
theorem dX7_put_38 : decode cX7_put 38 = .ok (.iload_n 1, 1) := by decide +kernel
theorem dX7_put_39 : decode cX7_put 39 = .ok (.iastore, 1) := by decide +kernel
theorem dX7_put_40 : decode cX7_put 40 = .ok (.aload_n 0, 1) := by decide +kernel
theorem dX7_put_41 : decode cX7_put 41 = .ok (.dup, 1) := by decide +kernel
theorem dX7_put_42 : decode cX7_put 42 = .ok (.getfield 149, 3) := by decide +kernel
theorem dX7_put_45 : decode cX7_put 45 = .ok (.iconst 1, 1) := by decide +kernel
theorem dX7_put_46 : decode cX7_put 46 = .ok (.iadd, 1) := by decide +kernel
theorem dX7_put_47 : decode cX7_put 47 = .ok (.putfield 149, 3) := by decide +kernel
theorem dX7_put_50 : decode cX7_put 50 = .ok (.iload_n 2, 1) := by decide +kernel
theorem dX7_put_51 : decode cX7_put 51 = .ok (.ireturn, 1) := by decide +kernel
set_option maxRecDepth 20000 in
theorem ggX7_tag_X7_hmac : GoodIn wsX7_tag wsX7_hmac := goodIn_r _ [9, 10, 1, 3, 11, 12, 13, 14, 8, 15, 16, 17, 18, 19, 20, 21, 22, 23, 24, 25, 26, 27, 28, 29, 30, 31, 32, 33, 34, 35, 36, 37, 38, 39, 40, 41, 42, 43, 44, 45, 46, 47, 48, 49, 50, 51, 52, 53, 54, 55, 56, 57, 58] (by decide +kernel) (by decide +kernel)
set_option maxRecDepth 20000 in
theorem gX7_tag_X7_hmac : GoodIn wsX7_tag (wsV RX7 175 RX7 yX7_hmac wsX7_hmac) := goodIn_app (goodIn_of _ (by decide +kernel)) ggX7_tag_X7_hmac
theorem dX7_tag_0 : decode cX7_tag 0 = .ok (.iconst 0, 1) := by decide +kernel
theorem dX7_tag_1 : decode cX7_tag 1 = .ok (.istore 4, 2) := by decide +kernel
theorem dX7_tag_3 : decode cX7_tag 3 = .ok (.iload 4, 2) := by decide +kernel
theorem dX7_tag_5 : decode cX7_tag 5 = .ok (.bipush 32, 2) := by decide +kernel
theorem dX7_tag_7 : decode cX7_tag 7 = .ok (.if_icmp .ge 28, 3) := by decide +kernel
theorem dX7_tag_10 : decode cX7_tag 10 = .ok (.aload_n 0, 1) := by decide +kernel
theorem dX7_tag_11 : decode cX7_tag 11 = .ok (.getfield 60, 3) := by decide +kernel
theorem dX7_tag_14 : decode cX7_tag 14 = .ok (.iload 4, 2) := by decide +kernel
theorem dX7_tag_16 : decode cX7_tag 16 = .ok (.aload_n 0, 1) := by decide +kernel
theorem dX7_tag_17 : decode cX7_tag 17 = .ok (.getfield 16, 3) := by decide +kernel
theorem dX7_tag_20 : decode cX7_tag 20 = .ok (.bipush 32, 2) := by decide +kernel
theorem dX7_tag_22 : decode cX7_tag 22 = .ok (.iload_n 1, 1) := by decide +kernel
theorem dX7_tag_23 : decode cX7_tag 23 = .ok (.imul, 1) := by decide +kernel
theorem dX7_tag_24 : decode cX7_tag 24 = .ok (.iload 4, 2) := by decide +kernel
theorem dX7_tag_26 : decode cX7_tag 26 = .ok (.iadd, 1) := by decide +kernel
theorem dX7_tag_27 : decode cX7_tag 27 = .ok (.iaload, 1) := by decide +kernel
theorem dX7_tag_28 : decode cX7_tag 28 = .ok (.iastore, 1) := by decide +kernel
theorem dX7_tag_29 : decode cX7_tag 29 = .ok (.iinc 4 1, 3) := by decide +kernel
theorem dX7_tag_32 : decode cX7_tag 32 = .ok (.goto (-29), 3) := by decide +kernel
theorem dX7_tag_35 : decode cX7_tag 35 = .ok (.iconst 0, 1) := by decide +kernel
theorem dX7_tag_36 : decode cX7_tag 36 = .ok (.istore 4, 2) := by decide +kernel
theorem dX7_tag_38 : decode cX7_tag 38 = .ok (.iload 4, 2) := by decide +kernel
theorem dX7_tag_40 : decode cX7_tag 40 = .ok (.iload_n 3, 1) := by decide +kernel
theorem dX7_tag_41 : decode cX7_tag 41 = .ok (.if_icmp .ge 29, 3) := by decide +kernel
theorem dX7_tag_44 : decode cX7_tag 44 = .ok (.aload_n 0, 1) := by decide +kernel
theorem dX7_tag_45 : decode cX7_tag 45 = .ok (.getfield 66, 3) := by decide +kernel
theorem dX7_tag_48 : decode cX7_tag 48 = .ok (.iload 4, 2) := by decide +kernel
theorem dX7_tag_50 : decode cX7_tag 50 = .ok (.aload_n 0, 1) := by decide +kernel
theorem dX7_tag_51 : decode cX7_tag 51 = .ok (.getfield 36, 3) := by decide +kernel
theorem dX7_tag_54 : decode cX7_tag 54 = .ok (.sipush 128, 3) := by decide +kernel
theorem dX7_tag_57 : decode cX7_tag 57 = .ok (.iload_n 2, 1) := by decide +kernel
theorem dX7_tag_58 : decode cX7_tag 58 = .ok (.imul, 1) := by decide +kernel
theorem dX7_tag_59 : decode cX7_tag 59 = .ok (.iload 4, 2) := by decide +kernel
theorem dX7_tag_61 : decode cX7_tag 61 = .ok (.iadd, 1) := by decide +kernel
theorem dX7_tag_62 : decode cX7_tag 62 = .ok (.iaload, 1) := by decide +kernel
theorem dX7_tag_63 : decode cX7_tag 63 = .ok (.iastore, 1) := by decide +kernel
theorem dX7_tag_64 : decode cX7_tag 64 = .ok (.iinc 4 1, 3) := by decide +kernel
theorem dX7_tag_67 : decode cX7_tag 67 = .ok (.goto (-29), 3) := by decide +kernel
theorem dX7_tag_70 : decode cX7_tag 70 = .ok (.aload_n 0, 1) := by decide +kernel
theorem dX7_tag_71 : decode cX7_tag 71 = .ok (.iload_n 3, 1) := by decide +kernel
theorem dX7_tag_72 : decode cX7_tag 72 = .ok (.invokevirtual 175, 3) := by decide +kernel
theorem dX7_tag_75 : decode cX7_tag 75 = .ok (.return_, 1) := by decide +kernel
theorem dX7_number_0 : decode cX7_number 0 = .ok (.iconst 0, 1) := by decide +kernel
theorem dX7_number_1 : decode cX7_number 1 = .ok (.istore 5, 2) := by decide +kernel
theorem dX7_number_3 : decode cX7_number 3 = .ok (.iload 5, 2) := by decide +kernel
theorem dX7_number_5 : decode cX7_number 5 = .ok (.iload 4, 2) := by decide +kernel
theorem dX7_number_7 : decode cX7_number 7 = .ok (.if_icmp .ge 35, 3) := by decide +kernel
theorem dX7_number_10 : decode cX7_number 10 = .ok (.aload_n 0, 1) := by decide +kernel
theorem dX7_number_11 : decode cX7_number 11 = .ok (.getfield 36, 3) := by decide +kernel
theorem dX7_number_14 : decode cX7_number 14 = .ok (.iload_n 1, 1) := by decide +kernel
theorem dX7_number_15 : decode cX7_number 15 = .ok (.iload 5, 2) := by decide +kernel
theorem dX7_number_17 : decode cX7_number 17 = .ok (.iadd, 1) := by decide +kernel
theorem dX7_number_18 : decode cX7_number 18 = .ok (.lload_n 2, 1) := by decide +kernel
theorem dX7_number_19 : decode cX7_number 19 = .ok (.bipush 8, 2) := by decide +kernel
theorem dX7_number_21 : decode cX7_number 21 = .ok (.iload 4, 2) := by decide +kernel
theorem dX7_number_23 : decode cX7_number 23 = .ok (.iconst 1, 1) := by decide +kernel
theorem dX7_number_24 : decode cX7_number 24 = .ok (.isub, 1) := by decide +kernel
theorem dX7_number_25 : decode cX7_number 25 = .ok (.iload 5, 2) := by decide +kernel
theorem dX7_number_27 : decode cX7_number 27 = .ok (.isub, 1) := by decide +kernel
theorem dX7_number_28 : decode cX7_number 28 = .ok (.imul, 1) := by decide +kernel
theorem dX7_number_29 : decode cX7_number 29 = .ok (.lushr, 1) := by decide +kernel
theorem dX7_number_30 : decode cX7_number 30 = .ok (.l2i, 1) := by decide +kernel
theorem dX7_number_31 : decode cX7_number 31 = .ok (.sipush 255, 3) := by decide +kernel
theorem dX7_number_34 : decode cX7_number 34 = .ok (.iand, 1) := by decide +kernel
theorem dX7_number_35 : decode cX7_number 35 = .ok (.iastore, 1) := by decide +kernel
theorem dX7_number_36 : decode cX7_number 36 = .ok (.iinc 5 1, 3) := by decide +kernel
theorem dX7_number_39 : decode cX7_number 39 = .ok (.goto (-36), 3) := by decide +kernel
theorem dX7_number_42 : decode cX7_number 42 = .ok (.return_, 1) := by decide +kernel
theorem dX7_numberAt_0 : decode cX7_numberAt 0 = .ok (.lconst 0, 1) := by decide +kernel
theorem dX7_numberAt_1 : decode cX7_numberAt 1 = .ok (.lstore_n 3, 1) := by decide +kernel
theorem dX7_numberAt_2 : decode cX7_numberAt 2 = .ok (.iconst 0, 1) := by decide +kernel
theorem dX7_numberAt_3 : decode cX7_numberAt 3 = .ok (.istore 5, 2) := by decide +kernel
theorem dX7_numberAt_5 : decode cX7_numberAt 5 = .ok (.iload 5, 2) := by decide +kernel
theorem dX7_numberAt_7 : decode cX7_numberAt 7 = .ok (.iload_n 2, 1) := by decide +kernel
theorem dX7_numberAt_8 : decode cX7_numberAt 8 = .ok (.if_icmp .ge 25, 3) := by decide +kernel
theorem dX7_numberAt_11 : decode cX7_numberAt 11 = .ok (.lload_n 3, 1) := by decide +kernel
theorem dX7_numberAt_12 : decode cX7_numberAt 12 = .ok (.bipush 8, 2) := by decide +kernel
theorem dX7_numberAt_14 : decode cX7_numberAt 14 = .ok (.lshl, 1) := by decide +kernel
theorem dX7_numberAt_15 : decode cX7_numberAt 15 = .ok (.aload_n 0, 1) := by decide +kernel
theorem dX7_numberAt_16 : decode cX7_numberAt 16 = .ok (.getfield 36, 3) := by decide +kernel
theorem dX7_numberAt_19 : decode cX7_numberAt 19 = .ok (.iload_n 1, 1) := by decide +kernel
theorem dX7_numberAt_20 : decode cX7_numberAt 20 = .ok (.iload 5, 2) := by decide +kernel
theorem dX7_numberAt_22 : decode cX7_numberAt 22 = .ok (.iadd, 1) := by decide +kernel
theorem dX7_numberAt_23 : decode cX7_numberAt 23 = .ok (.iaload, 1) := by decide +kernel
theorem dX7_numberAt_24 : decode cX7_numberAt 24 = .ok (.i2l, 1) := by decide +kernel
theorem dX7_numberAt_25 : decode cX7_numberAt 25 = .ok (.lor, 1) := by decide +kernel
theorem dX7_numberAt_26 : decode cX7_numberAt 26 = .ok (.lstore_n 3, 1) := by decide +kernel
theorem dX7_numberAt_27 : decode cX7_numberAt 27 = .ok (.iinc 5 1, 3) := by decide +kernel
theorem dX7_numberAt_30 : decode cX7_numberAt 30 = .ok (.goto (-25), 3) := by decide +kernel
theorem dX7_numberAt_33 : decode cX7_numberAt 33 = .ok (.lload_n 3, 1) := by decide +kernel
theorem dX7_numberAt_34 : decode cX7_numberAt 34 = .ok (.lreturn, 1) := by decide +kernel
set_option maxRecDepth 20000 in
theorem ggX7_send_X7_number : GoodIn wsX7_send wsX7_number := goodIn_r _ [13, 3, 78, 79, 80, 81, 82, 83, 84, 85, 86, 87, 88, 89, 90, 91, 92, 93, 94, 95, 96, 97, 98, 99, 100, 101, 102] (by decide +kernel) (by decide +kernel)
set_option maxRecDepth 20000 in
theorem gX7_send_X7_number : GoodIn wsX7_send (wsV RX7 202 RX7 yX7_number wsX7_number) := goodIn_app (goodIn_of _ (by decide +kernel)) ggX7_send_X7_number
set_option maxRecDepth 20000 in
theorem ggX7_send_X7_streamByte : GoodIn wsX7_send wsX7_streamByte := goodIn_r _ [17, 18, 19, 20, 21, 22, 12, 23, 24, 25, 26, 27, 28, 29, 30, 31, 32, 33, 34, 35, 36, 3, 37, 38, 39, 40, 41, 42, 43, 78, 79, 80, 81, 82, 83, 84, 85, 86, 87, 88, 89, 90, 91, 92, 93, 94, 95, 96, 97, 98, 99, 100, 101, 102] (by decide +kernel) (by decide +kernel)
set_option maxRecDepth 20000 in
theorem gX7_send_X7_streamByte : GoodIn wsX7_send (wsV RX7 206 RX7 yX7_streamByte wsX7_streamByte) := goodIn_app (goodIn_of _ (by decide +kernel)) ggX7_send_X7_streamByte
set_option maxRecDepth 20000 in
theorem ggX7_send_X7_tag : GoodIn wsX7_send wsX7_tag := goodIn_r _ [47, 48, 49, 50, 3, 51, 52, 53, 12, 54, 55, 8, 56, 57, 58, 59, 60, 61, 62, 63, 64, 65, 66, 67, 68, 69, 70, 71, 72, 73, 74, 75, 76, 77, 78, 79, 80, 81, 82, 83, 84, 85, 86, 87, 88, 89, 90, 91, 92, 93, 94, 95, 96, 97, 98, 99, 100, 101, 102] (by decide +kernel) (by decide +kernel)
set_option maxRecDepth 20000 in
theorem gX7_send_X7_tag : GoodIn wsX7_send (wsV RX7 210 RX7 yX7_tag wsX7_tag) := goodIn_app (goodIn_of _ (by decide +kernel)) ggX7_send_X7_tag
theorem dX7_send_0 : decode cX7_send 0 = .ok (.iload_n 1, 1) := by decide +kernel
theorem dX7_send_1 : decode cX7_send 1 = .ok (.ifCond .eq 8, 3) := by decide +kernel
theorem dX7_send_4 : decode cX7_send 4 = .ok (.iload_n 1, 1) := by decide +kernel
theorem dX7_send_5 : decode cX7_send 5 = .ok (.iconst 1, 1) := by decide +kernel
theorem dX7_send_6 : decode cX7_send 6 = .ok (.if_icmp .ne 10, 3) := by decide +kernel
theorem dX7_send_9 : decode cX7_send 9 = .ok (.aload_n 0, 1) := by decide +kernel
theorem dX7_send_10 : decode cX7_send 10 = .ok (.getfield 145, 3) := by decide +kernel
theorem dX7_send_13 : decode cX7_send 13 = .ok (.ifCond .ne 5, 3) := by decide +kernel
theorem dX7_send_16 : decode cX7_send 16 = .ok (.iconst (-1), 1) := by decide +kernel
theorem dX7_send_17 : decode cX7_send 17 = .ok (.ireturn, 1) := by decide +kernel
theorem dX7_send_18 : decode cX7_send 18 = .ok (.iconst 0, 1) := by decide +kernel
theorem dX7_send_19 : decode cX7_send 19 = .ok (.istore_n 2, 1) := by decide +kernel
theorem dX7_send_20 : decode cX7_send 20 = .ok (.iload_n 2, 1) := by decide +kernel
theorem dX7_send_21 : decode cX7_send 21 = .ok (.bipush 8, 2) := by decide +kernel
theorem dX7_send_23 : decode cX7_send 23 = .ok (.if_icmp .ge 18, 3) := by decide +kernel
theorem dX7_send_26 : decode cX7_send 26 = .ok (.aload_n 0, 1) := by decide +kernel
theorem dX7_send_27 : decode cX7_send 27 = .ok (.getfield 39, 3) := by decide +kernel
theorem dX7_send_30 : decode cX7_send 30 = .ok (.iload_n 2, 1) := by decide +kernel
theorem dX7_send_31 : decode cX7_send 31 = .ok (.iaload, 1) := by decide +kernel
theorem dX7_send_32 : decode cX7_send 32 = .ok (.ifCond .le 9, 3) := by decide +kernel
theorem dX7_send_35 : decode cX7_send 35 = .ok (.iinc 2 1, 3) := by decide +kernel
theorem dX7_send_38 : decode cX7_send 38 = .ok (.goto (-18), 3) := by decide +kernel
theorem dX7_send_41 : decode cX7_send 41 = .ok (.iload_n 2, 1) := by decide +kernel
theorem dX7_send_42 : decode cX7_send 42 = .ok (.bipush 8, 2) := by decide +kernel
theorem dX7_send_44 : decode cX7_send 44 = .ok (.if_icmp .ne 6, 3) := by decide +kernel
theorem dX7_send_47 : decode cX7_send 47 = .ok (.bipush (-2), 2) := by decide +kernel
theorem dX7_send_49 : decode cX7_send 49 = .ok (.ireturn, 1) := by decide +kernel
theorem dX7_send_50 : decode cX7_send 50 = .ok (.sipush 128, 3) := by decide +kernel
theorem dX7_send_53 : decode cX7_send 53 = .ok (.iload_n 2, 1) := by decide +kernel
theorem dX7_send_54 : decode cX7_send 54 = .ok (.imul, 1) := by decide +kernel
theorem dX7_send_55 : decode cX7_send 55 = .ok (.istore_n 3, 1) := by decide +kernel
theorem dX7_send_56 : decode cX7_send 56 = .ok (.aload_n 0, 1) := by decide +kernel
theorem dX7_send_57 : decode cX7_send 57 = .ok (.getfield 36, 3) := by decide +kernel
theorem dX7_send_60 : decode cX7_send 60 = .ok (.iload_n 3, 1) := by decide +kernel
theorem dX7_send_61 : decode cX7_send 61 = .ok (.iload_n 1, 1) := by decide +kernel
theorem dX7_send_62 : decode cX7_send 62 = .ok (.iastore, 1) := by decide +kernel
theorem dX7_send_63 : decode cX7_send 63 = .ok (.aload_n 0, 1) := by decide +kernel
theorem dX7_send_64 : decode cX7_send 64 = .ok (.iload_n 3, 1) := by decide +kernel
theorem dX7_send_65 : decode cX7_send 65 = .ok (.iconst 1, 1) := by decide +kernel
theorem dX7_send_66 : decode cX7_send 66 = .ok (.iadd, 1) := by decide +kernel
theorem dX7_send_67 : decode cX7_send 67 = .ok (.aload_n 0, 1) := by decide +kernel
theorem dX7_send_68 : decode cX7_send 68 = .ok (.getfield 19, 3) := by decide +kernel
theorem dX7_send_71 : decode cX7_send 71 = .ok (.iload_n 1, 1) := by decide +kernel
theorem dX7_send_72 : decode cX7_send 72 = .ok (.iaload, 1) := by decide +kernel
theorem dX7_send_73 : decode cX7_send 73 = .ok (.i2l, 1) := by decide +kernel
theorem dX7_send_74 : decode cX7_send 74 = .ok (.iconst 4, 1) := by decide +kernel
theorem dX7_send_75 : decode cX7_send 75 = .ok (.invokevirtual 202, 3) := by decide +kernel
theorem dX7_send_78 : decode cX7_send 78 = .ok (.aload_n 0, 1) := by decide +kernel
theorem dX7_send_79 : decode cX7_send 79 = .ok (.iload_n 3, 1) := by decide +kernel
theorem dX7_send_80 : decode cX7_send 80 = .ok (.iconst 5, 1) := by decide +kernel
theorem dX7_send_81 : decode cX7_send 81 = .ok (.iadd, 1) := by decide +kernel
theorem dX7_send_82 : decode cX7_send 82 = .ok (.aload_n 0, 1) := by decide +kernel
theorem dX7_send_83 : decode cX7_send 83 = .ok (.getfield 22, 3) := by decide +kernel
theorem dX7_send_86 : decode cX7_send 86 = .ok (.iload_n 1, 1) := by decide +kernel
theorem dX7_send_87 : decode cX7_send 87 = .ok (.laload, 1) := by decide +kernel
theorem dX7_send_88 : decode cX7_send 88 = .ok (.bipush 8, 2) := by decide +kernel
theorem dX7_send_90 : decode cX7_send 90 = .ok (.invokevirtual 202, 3) := by decide +kernel
theorem dX7_send_93 : decode cX7_send 93 = .ok (.aload_n 0, 1) := by decide +kernel
theorem dX7_send_94 : decode cX7_send 94 = .ok (.iload_n 3, 1) := by decide +kernel
theorem dX7_send_95 : decode cX7_send 95 = .ok (.bipush 13, 2) := by decide +kernel
theorem dX7_send_97 : decode cX7_send 97 = .ok (.iadd, 1) := by decide +kernel
theorem dX7_send_98 : decode cX7_send 98 = .ok (.aload_n 0, 1) := by decide +kernel
theorem dX7_send_99 : decode cX7_send 99 = .ok (.getfield 149, 3) := by decide +kernel
theorem dX7_send_102 : decode cX7_send 102 = .ok (.i2l, 1) := by decide +kernel
theorem dX7_send_103 : decode cX7_send 103 = .ok (.iconst 2, 1) := by decide +kernel
theorem dX7_send_104 : decode cX7_send 104 = .ok (.invokevirtual 202, 3) := by decide +kernel
theorem dX7_send_107 : decode cX7_send 107 = .ok (.iconst 0, 1) := by decide +kernel
theorem dX7_send_108 : decode cX7_send 108 = .ok (.istore 4, 2) := by decide +kernel
theorem dX7_send_110 : decode cX7_send 110 = .ok (.iload 4, 2) := by decide +kernel
theorem dX7_send_112 : decode cX7_send 112 = .ok (.aload_n 0, 1) := by decide +kernel
theorem dX7_send_113 : decode cX7_send 113 = .ok (.getfield 149, 3) := by decide +kernel
theorem dX7_send_116 : decode cX7_send 116 = .ok (.if_icmp .ge 37, 3) := by decide +kernel
theorem dX7_send_119 : decode cX7_send 119 = .ok (.aload_n 0, 1) := by decide +kernel
theorem dX7_send_120 : decode cX7_send 120 = .ok (.getfield 36, 3) := by decide +kernel
theorem dX7_send_123 : decode cX7_send 123 = .ok (.iload_n 3, 1) := by decide +kernel
theorem dX7_send_124 : decode cX7_send 124 = .ok (.bipush 15, 2) := by decide +kernel
theorem dX7_send_126 : decode cX7_send 126 = .ok (.iadd, 1) := by decide +kernel
theorem dX7_send_127 : decode cX7_send 127 = .ok (.iload 4, 2) := by decide +kernel
theorem dX7_send_129 : decode cX7_send 129 = .ok (.iadd, 1) := by decide +kernel
theorem dX7_send_130 : decode cX7_send 130 = .ok (.aload_n 0, 1) := by decide +kernel
theorem dX7_send_131 : decode cX7_send 131 = .ok (.getfield 42, 3) := by decide +kernel
theorem dX7_send_134 : decode cX7_send 134 = .ok (.iload 4, 2) := by decide +kernel
theorem dX7_send_136 : decode cX7_send 136 = .ok (.iaload, 1) := by decide +kernel
theorem dX7_send_137 : decode cX7_send 137 = .ok (.aload_n 0, 1) := by decide +kernel
theorem dX7_send_138 : decode cX7_send 138 = .ok (.iload_n 1, 1) := by decide +kernel
theorem dX7_send_139 : decode cX7_send 139 = .ok (.iload_n 2, 1) := by decide +kernel
theorem dX7_send_140 : decode cX7_send 140 = .ok (.iload 4, 2) := by decide +kernel
theorem dX7_send_142 : decode cX7_send 142 = .ok (.invokevirtual 206, 3) := by decide +kernel
theorem dX7_send_145 : decode cX7_send 145 = .ok (.ixor, 1) := by decide +kernel
theorem dX7_send_146 : decode cX7_send 146 = .ok (.iastore, 1) := by decide +kernel
theorem dX7_send_147 : decode cX7_send 147 = .ok (.iinc 4 1, 3) := by decide +kernel
theorem dX7_send_150 : decode cX7_send 150 = .ok (.goto (-40), 3) := by decide +kernel
theorem dX7_send_153 : decode cX7_send 153 = .ok (.aload_n 0, 1) := by decide +kernel
theorem dX7_send_154 : decode cX7_send 154 = .ok (.iload_n 1, 1) := by decide +kernel
theorem dX7_send_155 : decode cX7_send 155 = .ok (.iload_n 2, 1) := by decide +kernel
theorem dX7_send_156 : decode cX7_send 156 = .ok (.bipush 15, 2) := by decide +kernel
theorem dX7_send_158 : decode cX7_send 158 = .ok (.aload_n 0, 1) := by decide +kernel
theorem dX7_send_159 : decode cX7_send 159 = .ok (.getfield 149, 3) := by decide +kernel
theorem dX7_send_162 : decode cX7_send 162 = .ok (.iadd, 1) := by decide +kernel
theorem dX7_send_163 : decode cX7_send 163 = .ok (.invokevirtual 210, 3) := by decide +kernel
theorem dX7_send_166 : decode cX7_send 166 = .ok (.iconst 0, 1) := by decide +kernel
theorem dX7_send_167 : decode cX7_send 167 = .ok (.istore 4, 2) := by decide +kernel
theorem dX7_send_169 : decode cX7_send 169 = .ok (.iload 4, 2) := by decide +kernel
theorem dX7_send_171 : decode cX7_send 171 = .ok (.bipush 16, 2) := by decide +kernel
theorem dX7_send_173 : decode cX7_send 173 = .ok (.if_icmp .ge 33, 3) := by decide +kernel
theorem dX7_send_176 : decode cX7_send 176 = .ok (.aload_n 0, 1) := by decide +kernel
theorem dX7_send_177 : decode cX7_send 177 = .ok (.getfield 36, 3) := by decide +kernel
theorem dX7_send_180 : decode cX7_send 180 = .ok (.iload_n 3, 1) := by decide +kernel
theorem dX7_send_181 : decode cX7_send 181 = .ok (.bipush 15, 2) := by decide +kernel
theorem dX7_send_183 : decode cX7_send 183 = .ok (.iadd, 1) := by decide +kernel
theorem dX7_send_184 : decode cX7_send 184 = .ok (.aload_n 0, 1) := by decide +kernel
theorem dX7_send_185 : decode cX7_send 185 = .ok (.getfield 149, 3) := by decide +kernel
theorem dX7_send_188 : decode cX7_send 188 = .ok (.iadd, 1) := by decide +kernel
theorem dX7_send_189 : decode cX7_send 189 = .ok (.iload 4, 2) := by decide +kernel
theorem dX7_send_191 : decode cX7_send 191 = .ok (.iadd, 1) := by decide +kernel
theorem dX7_send_192 : decode cX7_send 192 = .ok (.aload_n 0, 1) := by decide +kernel
theorem dX7_send_193 : decode cX7_send 193 = .ok (.getfield 57, 3) := by decide +kernel
theorem dX7_send_196 : decode cX7_send 196 = .ok (.iload 4, 2) := by decide +kernel

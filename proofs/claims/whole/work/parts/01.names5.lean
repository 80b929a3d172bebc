theorem dX7_send_198 : decode cX7_send 198 = .ok (.iaload, 1) := by decide +kernel
theorem dX7_send_199 : decode cX7_send 199 = .ok (.iastore, 1) := by decide +kernel
theorem dX7_send_200 : decode cX7_send 200 = .ok (.iinc 4 1, 3) := by decide +kernel
theorem dX7_send_203 : decode cX7_send 203 = .ok (.goto (-34), 3) := by decide +kernel
theorem dX7_send_206 : decode cX7_send 206 = .ok (.aload_n 0, 1) := by decide +kernel
theorem dX7_send_207 : decode cX7_send 207 = .ok (.getfield 39, 3) := by decide +kernel
theorem dX7_send_210 : decode cX7_send 210 = .ok (.iload_n 2, 1) := by decide +kernel
theorem dX7_send_211 : decode cX7_send 211 = .ok (.bipush 15, 2) := by decide +kernel
theorem dX7_send_213 : decode cX7_send 213 = .ok (.aload_n 0, 1) := by decide +kernel
theorem dX7_send_214 : decode cX7_send 214 = .ok (.getfield 149, 3) := by decide +kernel
theorem dX7_send_217 : decode cX7_send 217 = .ok (.iadd, 1) := by decide +kernel
theorem dX7_send_218 : decode cX7_send 218 = .ok (.bipush 16, 2) := by decide +kernel
theorem dX7_send_220 : decode cX7_send 220 = .ok (.iadd, 1) := by decide +kernel
theorem dX7_send_221 : decode cX7_send 221 = .ok (.iastore, 1) := by decide +kernel
theorem dX7_send_222 : decode cX7_send 222 = .ok (.aload_n 0, 1) := by decide +kernel
theorem dX7_send_223 : decode cX7_send 223 = .ok (.iconst 0, 1) := by decide +kernel
theorem dX7_send_224 : decode cX7_send 224 = .ok (.putfield 149, 3) := by decide +kernel
theorem dX7_send_227 : decode cX7_send 227 = .ok (.aload_n 0, 1) := by decide +kernel
theorem dX7_send_228 : decode cX7_send 228 = .ok (.getfield 22, 3) := by decide +kernel
theorem dX7_send_231 : decode cX7_send 231 = .ok (.iload_n 1, 1) := by decide +kernel
theorem dX7_send_232 : decode cX7_send 232 = .ok (.dup2, 1) := by decide +kernel
theorem dX7_send_233 : decode cX7_send 233 = .ok (.laload, 1) := by decide +kernel
theorem dX7_send_234 : decode cX7_send 234 = .ok (.lconst 1, 1) := by decide +kernel
theorem dX7_send_235 : decode cX7_send 235 = .ok (.ladd, 1) := by decide +kernel
theorem dX7_send_236 : decode cX7_send 236 = .ok (.lastore, 1) := by decide +kernel
theorem dX7_send_237 : decode cX7_send 237 = .ok (.iload_n 2, 1) := by decide +kernel
theorem dX7_send_238 : decode cX7_send 238 = .ok (.ireturn, 1) := by decide +kernel
theorem dX7_isSlot_0 : decode cX7_isSlot 0 = .ok (.iload_n 1, 1) := by decide +kernel
theorem dX7_isSlot_1 : decode cX7_isSlot 1 = .ok (.ifCond .lt 22, 3) := by decide +kernel
theorem dX7_isSlot_4 : decode cX7_isSlot 4 = .ok (.iload_n 1, 1) := by decide +kernel
theorem dX7_isSlot_5 : decode cX7_isSlot 5 = .ok (.bipush 8, 2) := by decide +kernel
theorem dX7_isSlot_7 : decode cX7_isSlot 7 = .ok (.if_icmp .ge 16, 3) := by decide +kernel
theorem dX7_isSlot_10 : decode cX7_isSlot 10 = .ok (.aload_n 0, 1) := by decide +kernel
theorem dX7_isSlot_11 : decode cX7_isSlot 11 = .ok (.getfield 39, 3) := by decide +kernel
theorem dX7_isSlot_14 : decode cX7_isSlot 14 = .ok (.iload_n 1, 1) := by decide +kernel
theorem dX7_isSlot_15 : decode cX7_isSlot 15 = .ok (.iaload, 1) := by decide +kernel
theorem dX7_isSlot_16 : decode cX7_isSlot 16 = .ok (.ifCond .le 7, 3) := by decide +kernel
theorem dX7_isSlot_19 : decode cX7_isSlot 19 = .ok (.iconst 1, 1) := by decide +kernel
theorem dX7_isSlot_20 : decode cX7_isSlot 20 = .ok (.goto 4, 3) := by decide +kernel
theorem dX7_isSlot_23 : decode cX7_isSlot 23 = .ok (.iconst 0, 1) := by decide +kernel
theorem dX7_isSlot_24 : decode cX7_isSlot 24 = .ok (.ireturn, 1) := by decide +kernel
theorem dX7_isBelow_0 : decode cX7_isBelow 0 = .ok (.lload_n 0, 1) := by decide +kernel
theorem dX7_isBelow_1 : decode cX7_isBelow 1 = .ok (.ldc2_w 213, 3) := by decide +kernel
theorem dX7_isBelow_4 : decode cX7_isBelow 4 = .ok (.lxor, 1) := by decide +kernel
theorem dX7_isBelow_5 : decode cX7_isBelow 5 = .ok (.lload_n 2, 1) := by decide +kernel
theorem dX7_isBelow_6 : decode cX7_isBelow 6 = .ok (.ldc2_w 213, 3) := by decide +kernel
theorem dX7_isBelow_9 : decode cX7_isBelow 9 = .ok (.lxor, 1) := by decide +kernel
theorem dX7_isBelow_10 : decode cX7_isBelow 10 = .ok (.lcmp, 1) := by decide +kernel
theorem dX7_isBelow_11 : decode cX7_isBelow 11 = .ok (.ifCond .ge 7, 3) := by decide +kernel
theorem dX7_isBelow_14 : decode cX7_isBelow 14 = .ok (.iconst 1, 1) := by decide +kernel
theorem dX7_isBelow_15 : decode cX7_isBelow 15 = .ok (.goto 4, 3) := by decide +kernel
theorem dX7_isBelow_18 : decode cX7_isBelow 18 = .ok (.iconst 0, 1) := by decide +kernel
theorem dX7_isBelow_19 : decode cX7_isBelow 19 = .ok (.ireturn, 1) := by decide +kernel
set_option maxRecDepth 20000 in
theorem ggX7_deliver_X7_isSlot : GoodIn wsX7_deliver wsX7_isSlot := goodIn_r _ [16, 3, 89, 90, 91, 92, 93, 94, 95, 96, 97, 98, 99, 100, 101, 102, 103, 104, 105, 106, 107, 108, 109, 110, 111, 112, 113] (by decide +kernel) (by decide +kernel)
set_option maxRecDepth 20000 in
theorem gX7_deliver_X7_isSlot : GoodIn wsX7_deliver (wsV RX7 215 RX7 yX7_isSlot wsX7_isSlot) := goodIn_app (goodIn_of _ (by decide +kernel)) ggX7_deliver_X7_isSlot
set_option maxRecDepth 20000 in
theorem ggX7_deliver_X7_numberAt : GoodIn wsX7_deliver wsX7_numberAt := goodIn_r _ [20, 2, 89, 90, 91, 92, 93, 94, 95, 96, 97, 98, 99, 100, 101, 102, 103, 104, 105, 106, 107, 108, 109, 110, 111, 112, 113] (by decide +kernel) (by decide +kernel)
set_option maxRecDepth 20000 in
theorem gX7_deliver_X7_numberAt : GoodIn wsX7_deliver (wsV RX7 219 RX7 yX7_numberAt wsX7_numberAt) := goodIn_app (goodIn_of _ (by decide +kernel)) ggX7_deliver_X7_numberAt
set_option maxRecDepth 20000 in
theorem ggX7_deliver_X7_tag : GoodIn wsX7_deliver wsX7_tag := goodIn_r _ [24, 25, 26, 27, 2, 28, 29, 30, 15, 31, 32, 5, 33, 34, 35, 36, 37, 38, 39, 40, 41, 42, 43, 44, 45, 46, 47, 48, 49, 50, 51, 52, 53, 54, 89, 90, 91, 92, 93, 94, 95, 96, 97, 98, 99, 100, 101, 102, 103, 104, 105, 106, 107, 108, 109, 110, 111, 112, 113] (by decide +kernel) (by decide +kernel)
set_option maxRecDepth 20000 in
theorem gX7_deliver_X7_tag : GoodIn wsX7_deliver (wsV RX7 210 RX7 yX7_tag wsX7_tag) := goodIn_app (goodIn_of _ (by decide +kernel)) ggX7_deliver_X7_tag
set_option maxRecDepth 20000 in
theorem ggX7_deliver_X7_isBelow : GoodIn wsX7_deliver wsX7_isBelow := goodIn_r _ [57, 58] (by decide +kernel) (by decide +kernel)
set_option maxRecDepth 20000 in
theorem gX7_deliver_X7_isBelow : GoodIn wsX7_deliver (va_wsS RX7 223 yX7_isBelow wsX7_isBelow) := goodIn_app (goodIn_of _ (by decide +kernel)) ggX7_deliver_X7_isBelow
set_option maxRecDepth 20000 in
theorem ggX7_deliver_X7_streamByte : GoodIn wsX7_deliver wsX7_streamByte := goodIn_r _ [62, 63, 64, 65, 66, 67, 15, 68, 69, 70, 71, 72, 73, 74, 75, 76, 77, 78, 79, 80, 81, 2, 82, 83, 84, 85, 86, 87, 88, 89, 90, 91, 92, 93, 94, 95, 96, 97, 98, 99, 100, 101, 102, 103, 104, 105, 106, 107, 108, 109, 110, 111, 112, 113] (by decide +kernel) (by decide +kernel)
set_option maxRecDepth 20000 in
theorem gX7_deliver_X7_streamByte : GoodIn wsX7_deliver (wsV RX7 206 RX7 yX7_streamByte wsX7_streamByte) := goodIn_app (goodIn_of _ (by decide +kernel)) ggX7_deliver_X7_streamByte
theorem dX7_deliver_0 : decode cX7_deliver 0 = .ok (.aload_n 0, 1) := by decide +kernel
theorem dX7_deliver_1 : decode cX7_deliver 1 = .ok (.iload_n 1, 1) := by decide +kernel
theorem dX7_deliver_2 : decode cX7_deliver 2 = .ok (.invokevirtual 215, 3) := by decide +kernel
theorem dX7_deliver_5 : decode cX7_deliver 5 = .ok (.ifCond .eq 19, 3) := by decide +kernel
theorem dX7_deliver_8 : decode cX7_deliver 8 = .ok (.iload_n 2, 1) := by decide +kernel
theorem dX7_deliver_9 : decode cX7_deliver 9 = .ok (.ifCond .eq 8, 3) := by decide +kernel
theorem dX7_deliver_12 : decode cX7_deliver 12 = .ok (.iload_n 2, 1) := by decide +kernel
theorem dX7_deliver_13 : decode cX7_deliver 13 = .ok (.iconst 1, 1) := by decide +kernel
theorem dX7_deliver_14 : decode cX7_deliver 14 = .ok (.if_icmp .ne 10, 3) := by decide +kernel
theorem dX7_deliver_17 : decode cX7_deliver 17 = .ok (.aload_n 0, 1) := by decide +kernel
theorem dX7_deliver_18 : decode cX7_deliver 18 = .ok (.getfield 145, 3) := by decide +kernel
theorem dX7_deliver_21 : decode cX7_deliver 21 = .ok (.ifCond .ne 5, 3) := by decide +kernel
theorem dX7_deliver_24 : decode cX7_deliver 24 = .ok (.iconst 1, 1) := by decide +kernel
theorem dX7_deliver_25 : decode cX7_deliver 25 = .ok (.ireturn, 1) := by decide +kernel
theorem dX7_deliver_26 : decode cX7_deliver 26 = .ok (.sipush 128, 3) := by decide +kernel
theorem dX7_deliver_29 : decode cX7_deliver 29 = .ok (.iload_n 1, 1) := by decide +kernel
theorem dX7_deliver_30 : decode cX7_deliver 30 = .ok (.imul, 1) := by decide +kernel
theorem dX7_deliver_31 : decode cX7_deliver 31 = .ok (.istore_n 3, 1) := by decide +kernel
theorem dX7_deliver_32 : decode cX7_deliver 32 = .ok (.iconst 1, 1) := by decide +kernel
theorem dX7_deliver_33 : decode cX7_deliver 33 = .ok (.iload_n 2, 1) := by decide +kernel
theorem dX7_deliver_34 : decode cX7_deliver 34 = .ok (.isub, 1) := by decide +kernel
theorem dX7_deliver_35 : decode cX7_deliver 35 = .ok (.istore 4, 2) := by decide +kernel
theorem dX7_deliver_37 : decode cX7_deliver 37 = .ok (.aload_n 0, 1) := by decide +kernel
theorem dX7_deliver_38 : decode cX7_deliver 38 = .ok (.iload_n 3, 1) := by decide +kernel
theorem dX7_deliver_39 : decode cX7_deliver 39 = .ok (.bipush 13, 2) := by decide +kernel
theorem dX7_deliver_41 : decode cX7_deliver 41 = .ok (.iadd, 1) := by decide +kernel
theorem dX7_deliver_42 : decode cX7_deliver 42 = .ok (.iconst 2, 1) := by decide +kernel
theorem dX7_deliver_43 : decode cX7_deliver 43 = .ok (.invokevirtual 219, 3) := by decide +kernel
theorem dX7_deliver_46 : decode cX7_deliver 46 = .ok (.l2i, 1) := by decide +kernel
theorem dX7_deliver_47 : decode cX7_deliver 47 = .ok (.istore 5, 2) := by decide +kernel
theorem dX7_deliver_49 : decode cX7_deliver 49 = .ok (.aload_n 0, 1) := by decide +kernel
theorem dX7_deliver_50 : decode cX7_deliver 50 = .ok (.getfield 36, 3) := by decide +kernel
theorem dX7_deliver_53 : decode cX7_deliver 53 = .ok (.iload_n 3, 1) := by decide +kernel
theorem dX7_deliver_54 : decode cX7_deliver 54 = .ok (.iaload, 1) := by decide +kernel
theorem dX7_deliver_55 : decode cX7_deliver 55 = .ok (.iload 4, 2) := by decide +kernel
theorem dX7_deliver_57 : decode cX7_deliver 57 = .ok (.if_icmp .ne 27, 3) := by decide +kernel
theorem dX7_deliver_60 : decode cX7_deliver 60 = .ok (.iload 5, 2) := by decide +kernel
theorem dX7_deliver_62 : decode cX7_deliver 62 = .ok (.bipush 96, 2) := by decide +kernel
theorem dX7_deliver_64 : decode cX7_deliver 64 = .ok (.if_icmp .gt 20, 3) := by decide +kernel
theorem dX7_deliver_67 : decode cX7_deliver 67 = .ok (.aload_n 0, 1) := by decide +kernel
theorem dX7_deliver_68 : decode cX7_deliver 68 = .ok (.getfield 39, 3) := by decide +kernel
theorem dX7_deliver_71 : decode cX7_deliver 71 = .ok (.iload_n 1, 1) := by decide +kernel
theorem dX7_deliver_72 : decode cX7_deliver 72 = .ok (.iaload, 1) := by decide +kernel
theorem dX7_deliver_73 : decode cX7_deliver 73 = .ok (.bipush 15, 2) := by decide +kernel
theorem dX7_deliver_75 : decode cX7_deliver 75 = .ok (.iload 5, 2) := by decide +kernel
theorem dX7_deliver_77 : decode cX7_deliver 77 = .ok (.iadd, 1) := by decide +kernel
theorem dX7_deliver_78 : decode cX7_deliver 78 = .ok (.bipush 16, 2) := by decide +kernel
theorem dX7_deliver_80 : decode cX7_deliver 80 = .ok (.iadd, 1) := by decide +kernel
theorem dX7_deliver_81 : decode cX7_deliver 81 = .ok (.if_icmp .eq 5, 3) := by decide +kernel
theorem dX7_deliver_84 : decode cX7_deliver 84 = .ok (.iconst 2, 1) := by decide +kernel
theorem dX7_deliver_85 : decode cX7_deliver 85 = .ok (.ireturn, 1) := by decide +kernel
theorem dX7_deliver_86 : decode cX7_deliver 86 = .ok (.aload_n 0, 1) := by decide +kernel
theorem dX7_deliver_87 : decode cX7_deliver 87 = .ok (.iload_n 3, 1) := by decide +kernel
theorem dX7_deliver_88 : decode cX7_deliver 88 = .ok (.iconst 1, 1) := by decide +kernel
theorem dX7_deliver_89 : decode cX7_deliver 89 = .ok (.iadd, 1) := by decide +kernel
theorem dX7_deliver_90 : decode cX7_deliver 90 = .ok (.iconst 4, 1) := by decide +kernel
theorem dX7_deliver_91 : decode cX7_deliver 91 = .ok (.invokevirtual 219, 3) := by decide +kernel
theorem dX7_deliver_94 : decode cX7_deliver 94 = .ok (.aload_n 0, 1) := by decide +kernel
theorem dX7_deliver_95 : decode cX7_deliver 95 = .ok (.getfield 19, 3) := by decide +kernel
theorem dX7_deliver_98 : decode cX7_deliver 98 = .ok (.iload 4, 2) := by decide +kernel
theorem dX7_deliver_100 : decode cX7_deliver 100 = .ok (.iaload, 1) := by decide +kernel
theorem dX7_deliver_101 : decode cX7_deliver 101 = .ok (.i2l, 1) := by decide +kernel
theorem dX7_deliver_102 : decode cX7_deliver 102 = .ok (.lcmp, 1) := by decide +kernel
theorem dX7_deliver_103 : decode cX7_deliver 103 = .ok (.ifCond .eq 5, 3) := by decide +kernel
theorem dX7_deliver_106 : decode cX7_deliver 106 = .ok (.iconst 3, 1) := by decide +kernel
theorem dX7_deliver_107 : decode cX7_deliver 107 = .ok (.ireturn, 1) := by decide +kernel
theorem dX7_deliver_108 : decode cX7_deliver 108 = .ok (.aload_n 0, 1) := by decide +kernel
theorem dX7_deliver_109 : decode cX7_deliver 109 = .ok (.iload 4, 2) := by decide +kernel
theorem dX7_deliver_111 : decode cX7_deliver 111 = .ok (.iload_n 1, 1) := by decide +kernel
theorem dX7_deliver_112 : decode cX7_deliver 112 = .ok (.bipush 15, 2) := by decide +kernel
theorem dX7_deliver_114 : decode cX7_deliver 114 = .ok (.iload 5, 2) := by decide +kernel
theorem dX7_deliver_116 : decode cX7_deliver 116 = .ok (.iadd, 1) := by decide +kernel
theorem dX7_deliver_117 : decode cX7_deliver 117 = .ok (.invokevirtual 210, 3) := by decide +kernel
theorem dX7_deliver_120 : decode cX7_deliver 120 = .ok (.iconst 0, 1) := by decide +kernel
theorem dX7_deliver_121 : decode cX7_deliver 121 = .ok (.istore 6, 2) := by decide +kernel
theorem dX7_deliver_123 : decode cX7_deliver 123 = .ok (.iload 6, 2) := by decide +kernel
theorem dX7_deliver_125 : decode cX7_deliver 125 = .ok (.bipush 16, 2) := by decide +kernel
theorem dX7_deliver_127 : decode cX7_deliver 127 = .ok (.if_icmp .ge 36, 3) := by decide +kernel
theorem dX7_deliver_130 : decode cX7_deliver 130 = .ok (.aload_n 0, 1) := by decide +kernel
theorem dX7_deliver_131 : decode cX7_deliver 131 = .ok (.getfield 36, 3) := by decide +kernel
theorem dX7_deliver_134 : decode cX7_deliver 134 = .ok (.iload_n 3, 1) := by decide +kernel
theorem dX7_deliver_135 : decode cX7_deliver 135 = .ok (.bipush 15, 2) := by decide +kernel
theorem dX7_deliver_137 : decode cX7_deliver 137 = .ok (.iadd, 1) := by decide +kernel
theorem dX7_deliver_138 : decode cX7_deliver 138 = .ok (.iload 5, 2) := by decide +kernel
theorem dX7_deliver_140 : decode cX7_deliver 140 = .ok (.iadd, 1) := by decide +kernel
theorem dX7_deliver_141 : decode cX7_deliver 141 = .ok (.iload 6, 2) := by decide +kernel
theorem dX7_deliver_143 : decode cX7_deliver 143 = .ok (.iadd, 1) := by decide +kernel
theorem dX7_deliver_144 : decode cX7_deliver 144 = .ok (.iaload, 1) := by decide +kernel
theorem dX7_deliver_145 : decode cX7_deliver 145 = .ok (.aload_n 0, 1) := by decide +kernel
theorem dX7_deliver_146 : decode cX7_deliver 146 = .ok (.getfield 57, 3) := by decide +kernel
theorem dX7_deliver_149 : decode cX7_deliver 149 = .ok (.iload 6, 2) := by decide +kernel
theorem dX7_deliver_151 : decode cX7_deliver 151 = .ok (.iaload, 1) := by decide +kernel
theorem dX7_deliver_152 : decode cX7_deliver 152 = .ok (.if_icmp .eq 5, 3) := by decide +kernel
theorem dX7_deliver_155 : decode cX7_deliver 155 = .ok (.iconst 4, 1) := by decide +kernel
theorem dX7_deliver_156 : decode cX7_deliver 156 = .ok (.ireturn, 1) := by decide +kernel
theorem dX7_deliver_157 : decode cX7_deliver 157 = .ok (.iinc 6 1, 3) := by decide +kernel
theorem dX7_deliver_160 : decode cX7_deliver 160 = .ok (.goto (-37), 3) := by decide +kernel
theorem dX7_deliver_163 : decode cX7_deliver 163 = .ok (.aload_n 0, 1) := by decide +kernel
theorem dX7_deliver_164 : decode cX7_deliver 164 = .ok (.iload_n 3, 1) := by decide +kernel
theorem dX7_deliver_165 : decode cX7_deliver 165 = .ok (.iconst 5, 1) := by decide +kernel
theorem dX7_deliver_166 : decode cX7_deliver 166 = .ok (.iadd, 1) := by decide +kernel
theorem dX7_deliver_167 : decode cX7_deliver 167 = .ok (.bipush 8, 2) := by decide +kernel
theorem dX7_deliver_169 : decode cX7_deliver 169 = .ok (.invokevirtual 219, 3) := by decide +kernel
theorem dX7_deliver_172 : decode cX7_deliver 172 = .ok (.lstore 6, 2) := by decide +kernel
theorem dX7_deliver_174 : decode cX7_deliver 174 = .ok (.aload_n 0, 1) := by decide +kernel
theorem dX7_deliver_175 : decode cX7_deliver 175 = .ok (.getfield 26, 3) := by decide +kernel
theorem dX7_deliver_178 : decode cX7_deliver 178 = .ok (.iload 4, 2) := by decide +kernel
theorem dX7_deliver_180 : decode cX7_deliver 180 = .ok (.baload, 1) := by decide +kernel
theorem dX7_deliver_181 : decode cX7_deliver 181 = .ok (.ifCond .eq 22, 3) := by decide +kernel
theorem dX7_deliver_184 : decode cX7_deliver 184 = .ok (.aload_n 0, 1) := by decide +kernel
theorem dX7_deliver_185 : decode cX7_deliver 185 = .ok (.getfield 30, 3) := by decide +kernel
theorem dX7_deliver_188 : decode cX7_deliver 188 = .ok (.iload 4, 2) := by decide +kernel
theorem dX7_deliver_190 : decode cX7_deliver 190 = .ok (.laload, 1) := by decide +kernel
theorem dX7_deliver_191 : decode cX7_deliver 191 = .ok (.lload 6, 2) := by decide +kernel
theorem dX7_deliver_193 : decode cX7_deliver 193 = .ok (.invokestatic 223, 3) := by decide +kernel
theorem dX7_deliver_196 : decode cX7_deliver 196 = .ok (.ifCond .ne 7, 3) := by decide +kernel
theorem dX7_deliver_199 : decode cX7_deliver 199 = .ok (.iconst 1, 1) := by decide +kernel
theorem dX7_deliver_200 : decode cX7_deliver 200 = .ok (.goto 4, 3) := by decide +kernel
theorem dX7_deliver_203 : decode cX7_deliver 203 = .ok (.iconst 0, 1) := by decide +kernel
theorem dX7_deliver_204 : decode cX7_deliver 204 = .ok (.istore 8, 2) := by decide +kernel
theorem dX7_deliver_206 : decode cX7_deliver 206 = .ok (.aload_n 0, 1) := by decide +kernel
theorem dX7_deliver_207 : decode cX7_deliver 207 = .ok (.getfield 30, 3) := by decide +kernel
theorem dX7_deliver_210 : decode cX7_deliver 210 = .ok (.iload 4, 2) := by decide +kernel
theorem dX7_deliver_212 : decode cX7_deliver 212 = .ok (.laload, 1) := by decide +kernel
theorem dX7_deliver_213 : decode cX7_deliver 213 = .ok (.lload 6, 2) := by decide +kernel
theorem dX7_deliver_215 : decode cX7_deliver 215 = .ok (.lsub, 1) := by decide +kernel
theorem dX7_deliver_216 : decode cX7_deliver 216 = .ok (.lstore 9, 2) := by decide +kernel
theorem dX7_deliver_218 : decode cX7_deliver 218 = .ok (.iload 8, 2) := by decide +kernel
theorem dX7_deliver_220 : decode cX7_deliver 220 = .ok (.ifCond .eq 16, 3) := by decide +kernel
theorem dX7_deliver_223 : decode cX7_deliver 223 = .ok (.lload 9, 2) := by decide +kernel
theorem dX7_deliver_225 : decode cX7_deliver 225 = .ok (.ldc2_w 227, 3) := by decide +kernel
theorem dX7_deliver_228 : decode cX7_deliver 228 = .ok (.invokestatic 223, 3) := by decide +kernel
theorem dX7_deliver_231 : decode cX7_deliver 231 = .ok (.ifCond .ne 5, 3) := by decide +kernel
theorem dX7_deliver_234 : decode cX7_deliver 234 = .ok (.iconst 5, 1) := by decide +kernel
theorem dX7_deliver_235 : decode cX7_deliver 235 = .ok (.ireturn, 1) := by decide +kernel
theorem dX7_deliver_236 : decode cX7_deliver 236 = .ok (.iload 8, 2) := by decide +kernel
theorem dX7_deliver_238 : decode cX7_deliver 238 = .ok (.ifCond .eq 23, 3) := by decide +kernel
theorem dX7_deliver_241 : decode cX7_deliver 241 = .ok (.aload_n 0, 1) := by decide +kernel
theorem dX7_deliver_242 : decode cX7_deliver 242 = .ok (.getfield 33, 3) := by decide +kernel
theorem dX7_deliver_245 : decode cX7_deliver 245 = .ok (.bipush 64, 2) := by decide +kernel
theorem dX7_deliver_247 : decode cX7_deliver 247 = .ok (.iload 4, 2) := by decide +kernel
theorem dX7_deliver_249 : decode cX7_deliver 249 = .ok (.imul, 1) := by decide +kernel
theorem dX7_deliver_250 : decode cX7_deliver 250 = .ok (.lload 9, 2) := by decide +kernel
theorem dX7_deliver_252 : decode cX7_deliver 252 = .ok (.l2i, 1) := by decide +kernel
theorem dX7_deliver_253 : decode cX7_deliver 253 = .ok (.iadd, 1) := by decide +kernel
theorem dX7_deliver_254 : decode cX7_deliver 254 = .ok (.baload, 1) := by decide +kernel
theorem dX7_deliver_255 : decode cX7_deliver 255 = .ok (.ifCond .eq 6, 3) := by decide +kernel
theorem dX7_deliver_258 : decode cX7_deliver 258 = .ok (.bipush 6, 2) := by decide +kernel
theorem dX7_deliver_260 : decode cX7_deliver 260 = .ok (.ireturn, 1) := by decide +kernel
theorem dX7_deliver_261 : decode cX7_deliver 261 = .ok (.iload 8, 2) := by decide +kernel
theorem dX7_deliver_263 : decode cX7_deliver 263 = .ok (.ifCond .ne 130, 3) := by decide +kernel
theorem dX7_deliver_266 : decode cX7_deliver 266 = .ok (.lload 6, 2) := by decide +kernel
theorem dX7_deliver_268 : decode cX7_deliver 268 = .ok (.aload_n 0, 1) := by decide +kernel
theorem dX7_deliver_269 : decode cX7_deliver 269 = .ok (.getfield 30, 3) := by decide +kernel
theorem dX7_deliver_272 : decode cX7_deliver 272 = .ok (.iload 4, 2) := by decide +kernel
theorem dX7_deliver_274 : decode cX7_deliver 274 = .ok (.laload, 1) := by decide +kernel
theorem dX7_deliver_275 : decode cX7_deliver 275 = .ok (.lsub, 1) := by decide +kernel
theorem dX7_deliver_276 : decode cX7_deliver 276 = .ok (.lstore 11, 2) := by decide +kernel
theorem dX7_deliver_278 : decode cX7_deliver 278 = .ok (.bipush 63, 2) := by decide +kernel
theorem dX7_deliver_280 : decode cX7_deliver 280 = .ok (.istore 13, 2) := by decide +kernel
theorem dX7_deliver_282 : decode cX7_deliver 282 = .ok (.iload 13, 2) := by decide +kernel
theorem dX7_deliver_284 : decode cX7_deliver 284 = .ok (.ifCond .lt 89, 3) := by decide +kernel
theorem dX7_deliver_287 : decode cX7_deliver 287 = .ok (.aload_n 0, 1) := by decide +kernel
theorem dX7_deliver_288 : decode cX7_deliver 288 = .ok (.getfield 26, 3) := by decide +kernel
theorem dX7_deliver_291 : decode cX7_deliver 291 = .ok (.iload 4, 2) := by decide +kernel
theorem dX7_deliver_293 : decode cX7_deliver 293 = .ok (.baload, 1) := by decide +kernel
theorem dX7_deliver_294 : decode cX7_deliver 294 = .ok (.ifCond .eq 27, 3) := by decide +kernel
theorem dX7_deliver_297 : decode cX7_deliver 297 = .ok (.lload 11, 2) := by decide +kernel
theorem dX7_deliver_299 : decode cX7_deliver 299 = .ok (.ldc2_w 227, 3) := by decide +kernel
theorem dX7_deliver_302 : decode cX7_deliver 302 = .ok (.invokestatic 223, 3) := by decide +kernel
theorem dX7_deliver_305 : decode cX7_deliver 305 = .ok (.ifCond .eq 16, 3) := by decide +kernel
theorem dX7_deliver_308 : decode cX7_deliver 308 = .ok (.iload 13, 2) := by decide +kernel
theorem dX7_deliver_310 : decode cX7_deliver 310 = .ok (.i2l, 1) := by decide +kernel
theorem dX7_deliver_311 : decode cX7_deliver 311 = .ok (.lload 11, 2) := by decide +kernel
theorem dX7_deliver_313 : decode cX7_deliver 313 = .ok (.lcmp, 1) := by decide +kernel
theorem dX7_deliver_314 : decode cX7_deliver 314 = .ok (.ifCond .lt 7, 3) := by decide +kernel
theorem dX7_deliver_317 : decode cX7_deliver 317 = .ok (.iconst 1, 1) := by decide +kernel
theorem dX7_deliver_318 : decode cX7_deliver 318 = .ok (.goto 4, 3) := by decide +kernel
theorem dX7_deliver_321 : decode cX7_deliver 321 = .ok (.iconst 0, 1) := by decide +kernel
theorem dX7_deliver_322 : decode cX7_deliver 322 = .ok (.istore 14, 2) := by decide +kernel
theorem dX7_deliver_324 : decode cX7_deliver 324 = .ok (.aload_n 0, 1) := by decide +kernel
theorem dX7_deliver_325 : decode cX7_deliver 325 = .ok (.getfield 33, 3) := by decide +kernel
theorem dX7_deliver_328 : decode cX7_deliver 328 = .ok (.bipush 64, 2) := by decide +kernel
theorem dX7_deliver_330 : decode cX7_deliver 330 = .ok (.iload 4, 2) := by decide +kernel
theorem dX7_deliver_332 : decode cX7_deliver 332 = .ok (.imul, 1) := by decide +kernel
theorem dX7_deliver_333 : decode cX7_deliver 333 = .ok (.iload 13, 2) := by decide +kernel
theorem dX7_deliver_335 : decode cX7_deliver 335 = .ok (.iadd, 1) := by decide +kernel
theorem dX7_deliver_336 : decode cX7_deliver 336 = .ok (.iload 14, 2) := by decide +kernel
theorem dX7_deliver_338 : decode cX7_deliver 338 = .ok (.ifCond .eq 27, 3) := by decide +kernel
theorem dX7_deliver_341 : decode cX7_deliver 341 = .ok (.aload_n 0, 1) := by decide +kernel
theorem dX7_deliver_342 : decode cX7_deliver 342 = .ok (.getfield 33, 3) := by decide +kernel
theorem dX7_deliver_345 : decode cX7_deliver 345 = .ok (.bipush 64, 2) := by decide +kernel
theorem dX7_deliver_347 : decode cX7_deliver 347 = .ok (.iload 4, 2) := by decide +kernel
theorem dX7_deliver_349 : decode cX7_deliver 349 = .ok (.imul, 1) := by decide +kernel
theorem dX7_deliver_350 : decode cX7_deliver 350 = .ok (.iload 13, 2) := by decide +kernel
theorem dX7_deliver_352 : decode cX7_deliver 352 = .ok (.iadd, 1) := by decide +kernel
theorem dX7_deliver_353 : decode cX7_deliver 353 = .ok (.lload 11, 2) := by decide +kernel
theorem dX7_deliver_355 : decode cX7_deliver 355 = .ok (.l2i, 1) := by decide +kernel
theorem dX7_deliver_356 : decode cX7_deliver 356 = .ok (.isub, 1) := by decide +kernel
theorem dX7_deliver_357 : decode cX7_deliver 357 = .ok (.baload, 1) := by decide +kernel
theorem dX7_deliver_358 : decode cX7_deliver 358 = .ok (.ifCond .eq 7, 3) := by decide +kernel
theorem dX7_deliver_361 : decode cX7_deliver 361 = .ok (.iconst 1, 1) := by decide +kernel
theorem dX7_deliver_362 : decode cX7_deliver 362 = .ok (.goto 4, 3) := by decide +kernel
theorem dX7_deliver_365 : decode cX7_deliver 365 = .ok (.iconst 0, 1) := by decide +kernel
theorem dX7_deliver_366 : decode cX7_deliver 366 = .ok (.bastore, 1) := by decide +kernel
theorem dX7_deliver_367 : decode cX7_deliver 367 = .ok (.iinc 13 (-1), 3) := by decide +kernel
theorem dX7_deliver_370 : decode cX7_deliver 370 = .ok (.goto (-88), 3) := by decide +kernel
theorem dX7_deliver_373 : decode cX7_deliver 373 = .ok (.aload_n 0, 1) := by decide +kernel
theorem dX7_deliver_374 : decode cX7_deliver 374 = .ok (.getfield 30, 3) := by decide +kernel
theorem dX7_deliver_377 : decode cX7_deliver 377 = .ok (.iload 4, 2) := by decide +kernel
theorem dX7_deliver_379 : decode cX7_deliver 379 = .ok (.lload 6, 2) := by decide +kernel
theorem dX7_deliver_381 : decode cX7_deliver 381 = .ok (.lastore, 1) := by decide +kernel
theorem dX7_deliver_382 : decode cX7_deliver 382 = .ok (.aload_n 0, 1) := by decide +kernel
theorem dX7_deliver_383 : decode cX7_deliver 383 = .ok (.getfield 26, 3) := by decide +kernel
theorem dX7_deliver_386 : decode cX7_deliver 386 = .ok (.iload 4, 2) := by decide +kernel
theorem dX7_deliver_388 : decode cX7_deliver 388 = .ok (.iconst 1, 1) := by decide +kernel
theorem dX7_deliver_389 : decode cX7_deliver 389 = .ok (.bastore, 1) := by decide +kernel
theorem dX7_deliver_390 : decode cX7_deliver 390 = .ok (.lconst 0, 1) := by decide +kernel
theorem dX7_deliver_391 : decode cX7_deliver 391 = .ok (.lstore 9, 2) := by decide +kernel
theorem dX7_deliver_393 : decode cX7_deliver 393 = .ok (.aload_n 0, 1) := by decide +kernel
theorem dX7_deliver_394 : decode cX7_deliver 394 = .ok (.getfield 33, 3) := by decide +kernel
theorem dX7_deliver_397 : decode cX7_deliver 397 = .ok (.bipush 64, 2) := by decide +kernel
theorem dX7_deliver_399 : decode cX7_deliver 399 = .ok (.iload 4, 2) := by decide +kernel
theorem dX7_deliver_401 : decode cX7_deliver 401 = .ok (.imul, 1) := by decide +kernel
theorem dX7_deliver_402 : decode cX7_deliver 402 = .ok (.lload 9, 2) := by decide +kernel
theorem dX7_deliver_404 : decode cX7_deliver 404 = .ok (.l2i, 1) := by decide +kernel
theorem dX7_deliver_405 : decode cX7_deliver 405 = .ok (.iadd, 1) := by decide +kernel
theorem dX7_deliver_406 : decode cX7_deliver 406 = .ok (.iconst 1, 1) := by decide +kernel
theorem dX7_deliver_407 : decode cX7_deliver 407 = .ok (.bastore, 1) := by decide +kernel
theorem dX7_deliver_408 : decode cX7_deliver 408 = .ok (.iconst 0, 1) := by decide +kernel
theorem dX7_deliver_409 : decode cX7_deliver 409 = .ok (.istore 11, 2) := by decide +kernel
theorem dX7_deliver_411 : decode cX7_deliver 411 = .ok (.iload 11, 2) := by decide +kernel
theorem dX7_deliver_413 : decode cX7_deliver 413 = .ok (.iload 5, 2) := by decide +kernel
theorem dX7_deliver_415 : decode cX7_deliver 415 = .ok (.if_icmp .ge 38, 3) := by decide +kernel
theorem dX7_deliver_418 : decode cX7_deliver 418 = .ok (.aload_n 0, 1) := by decide +kernel
theorem dX7_deliver_419 : decode cX7_deliver 419 = .ok (.getfield 45, 3) := by decide +kernel
theorem dX7_deliver_422 : decode cX7_deliver 422 = .ok (.iload 11, 2) := by decide +kernel
theorem dX7_deliver_424 : decode cX7_deliver 424 = .ok (.aload_n 0, 1) := by decide +kernel
theorem dX7_deliver_425 : decode cX7_deliver 425 = .ok (.getfield 36, 3) := by decide +kernel
theorem dX7_deliver_428 : decode cX7_deliver 428 = .ok (.iload_n 3, 1) := by decide +kernel
theorem dX7_deliver_429 : decode cX7_deliver 429 = .ok (.bipush 15, 2) := by decide +kernel
theorem dX7_deliver_431 : decode cX7_deliver 431 = .ok (.iadd, 1) := by decide +kernel
theorem dX7_deliver_432 : decode cX7_deliver 432 = .ok (.iload 11, 2) := by decide +kernel
theorem dX7_deliver_434 : decode cX7_deliver 434 = .ok (.iadd, 1) := by decide +kernel
theorem dX7_deliver_435 : decode cX7_deliver 435 = .ok (.iaload, 1) := by decide +kernel
theorem dX7_deliver_436 : decode cX7_deliver 436 = .ok (.aload_n 0, 1) := by decide +kernel
theorem dX7_deliver_437 : decode cX7_deliver 437 = .ok (.iload 4, 2) := by decide +kernel
theorem dX7_deliver_439 : decode cX7_deliver 439 = .ok (.iload_n 1, 1) := by decide +kernel
theorem dX7_deliver_440 : decode cX7_deliver 440 = .ok (.iload 11, 2) := by decide +kernel
theorem dX7_deliver_442 : decode cX7_deliver 442 = .ok (.invokevirtual 206, 3) := by decide +kernel
theorem dX7_deliver_445 : decode cX7_deliver 445 = .ok (.ixor, 1) := by decide +kernel
theorem dX7_deliver_446 : decode cX7_deliver 446 = .ok (.iastore, 1) := by decide +kernel
theorem dX7_deliver_447 : decode cX7_deliver 447 = .ok (.iinc 11 1, 3) := by decide +kernel
theorem dX7_deliver_450 : decode cX7_deliver 450 = .ok (.goto (-39), 3) := by decide +kernel
theorem dX7_deliver_453 : decode cX7_deliver 453 = .ok (.aload_n 0, 1) := by decide +kernel
theorem dX7_deliver_454 : decode cX7_deliver 454 = .ok (.iload 5, 2) := by decide +kernel
theorem dX7_deliver_456 : decode cX7_deliver 456 = .ok (.putfield 153, 3) := by decide +kernel
theorem dX7_deliver_459 : decode cX7_deliver 459 = .ok (.iconst 0, 1) := by decide +kernel
theorem dX7_deliver_460 : decode cX7_deliver 460 = .ok (.ireturn, 1) := by decide +kernel
theorem dX7_got_0 : decode cX7_got 0 = .ok (.iload_n 1, 1) := by decide +kernel
theorem dX7_got_1 : decode cX7_got 1 = .ok (.ifCond .lt 20, 3) := by decide +kernel
theorem dX7_got_4 : decode cX7_got 4 = .ok (.iload_n 1, 1) := by decide +kernel
theorem dX7_got_5 : decode cX7_got 5 = .ok (.aload_n 0, 1) := by decide +kernel
theorem dX7_got_6 : decode cX7_got 6 = .ok (.getfield 153, 3) := by decide +kernel
theorem dX7_got_9 : decode cX7_got 9 = .ok (.if_icmp .ge 12, 3) := by decide +kernel
theorem dX7_got_12 : decode cX7_got 12 = .ok (.aload_n 0, 1) := by decide +kernel
theorem dX7_got_13 : decode cX7_got 13 = .ok (.getfield 45, 3) := by decide +kernel
theorem dX7_got_16 : decode cX7_got 16 = .ok (.iload_n 1, 1) := by decide +kernel
theorem dX7_got_17 : decode cX7_got 17 = .ok (.iaload, 1) := by decide +kernel
theorem dX7_got_18 : decode cX7_got 18 = .ok (.goto 4, 3) := by decide +kernel
theorem dX7_got_21 : decode cX7_got 21 = .ok (.iconst (-1), 1) := by decide +kernel
theorem dX7_got_22 : decode cX7_got 22 = .ok (.ireturn, 1) := by decide +kernel
theorem dX7_gotLen_0 : decode cX7_gotLen 0 = .ok (.aload_n 0, 1) := by decide +kernel
theorem dX7_gotLen_1 : decode cX7_gotLen 1 = .ok (.getfield 153, 3) := by decide +kernel
theorem dX7_gotLen_4 : decode cX7_gotLen 4 = .ok (.ireturn, 1) := by decide +kernel
set_option maxRecDepth 20000 in
theorem ggX7_corrupt_X7_isSlot : GoodIn wsX7_corrupt wsX7_isSlot := goodIn_r _ [7, 1, 8, 9, 10, 11, 12, 13, 14, 15, 16, 17, 18, 19, 20, 21, 22, 23, 24, 25, 26, 27, 28, 29, 30, 31, 32] (by decide +kernel) (by decide +kernel)
set_option maxRecDepth 20000 in
theorem gX7_corrupt_X7_isSlot : GoodIn wsX7_corrupt (wsV RX7 215 RX7 yX7_isSlot wsX7_isSlot) := goodIn_app (goodIn_of _ (by decide +kernel)) ggX7_corrupt_X7_isSlot
theorem dX7_corrupt_0 : decode cX7_corrupt 0 = .ok (.aload_n 0, 1) := by decide +kernel
theorem dX7_corrupt_1 : decode cX7_corrupt 1 = .ok (.iload_n 1, 1) := by decide +kernel
theorem dX7_corrupt_2 : decode cX7_corrupt 2 = .ok (.invokevirtual 215, 3) := by decide +kernel
theorem dX7_corrupt_5 : decode cX7_corrupt 5 = .ok (.ifCond .eq 32, 3) := by decide +kernel
theorem dX7_corrupt_8 : decode cX7_corrupt 8 = .ok (.iload_n 2, 1) := by decide +kernel
theorem dX7_corrupt_9 : decode cX7_corrupt 9 = .ok (.ifCond .lt 28, 3) := by decide +kernel
theorem dX7_corrupt_12 : decode cX7_corrupt 12 = .ok (.iload_n 2, 1) := by decide +kernel
theorem dX7_corrupt_13 : decode cX7_corrupt 13 = .ok (.aload_n 0, 1) := by decide +kernel
theorem dX7_corrupt_14 : decode cX7_corrupt 14 = .ok (.getfield 39, 3) := by decide +kernel
theorem dX7_corrupt_17 : decode cX7_corrupt 17 = .ok (.iload_n 1, 1) := by decide +kernel
theorem dX7_corrupt_18 : decode cX7_corrupt 18 = .ok (.iaload, 1) := by decide +kernel
theorem dX7_corrupt_19 : decode cX7_corrupt 19 = .ok (.if_icmp .ge 18, 3) := by decide +kernel
theorem dX7_corrupt_22 : decode cX7_corrupt 22 = .ok (.iload_n 3, 1) := by decide +kernel
theorem dX7_corrupt_23 : decode cX7_corrupt 23 = .ok (.ifCond .lt 14, 3) := by decide +kernel
theorem dX7_corrupt_26 : decode cX7_corrupt 26 = .ok (.iload_n 3, 1) := by decide +kernel
theorem dX7_corrupt_27 : decode cX7_corrupt 27 = .ok (.sipush 256, 3) := by decide +kernel
theorem dX7_corrupt_30 : decode cX7_corrupt 30 = .ok (.if_icmp .ge 7, 3) := by decide +kernel
theorem dX7_corrupt_33 : decode cX7_corrupt 33 = .ok (.iconst 1, 1) := by decide +kernel
theorem dX7_corrupt_34 : decode cX7_corrupt 34 = .ok (.goto 4, 3) := by decide +kernel
theorem dX7_corrupt_37 : decode cX7_corrupt 37 = .ok (.iconst 0, 1) := by decide +kernel
theorem dX7_corrupt_38 : decode cX7_corrupt 38 = .ok (.istore 4, 2) := by decide +kernel
theorem dX7_corrupt_40 : decode cX7_corrupt 40 = .ok (.iload 4, 2) := by decide +kernel
theorem dX7_corrupt_42 : decode cX7_corrupt 42 = .ok (.ifCond .eq 16, 3) := by decide +kernel
theorem dX7_corrupt_45 : decode cX7_corrupt 45 = .ok (.aload_n 0, 1) := by decide +kernel
theorem dX7_corrupt_46 : decode cX7_corrupt 46 = .ok (.getfield 36, 3) := by decide +kernel
theorem dX7_corrupt_49 : decode cX7_corrupt 49 = .ok (.sipush 128, 3) := by decide +kernel
theorem dX7_corrupt_52 : decode cX7_corrupt 52 = .ok (.iload_n 1, 1) := by decide +kernel
theorem dX7_corrupt_53 : decode cX7_corrupt 53 = .ok (.imul, 1) := by decide +kernel
theorem dX7_corrupt_54 : decode cX7_corrupt 54 = .ok (.iload_n 2, 1) := by decide +kernel
theorem dX7_corrupt_55 : decode cX7_corrupt 55 = .ok (.iadd, 1) := by decide +kernel
theorem dX7_corrupt_56 : decode cX7_corrupt 56 = .ok (.iload_n 3, 1) := by decide +kernel
theorem dX7_corrupt_57 : decode cX7_corrupt 57 = .ok (.iastore, 1) := by decide +kernel
theorem dX7_corrupt_58 : decode cX7_corrupt 58 = .ok (.iload 4, 2) := by decide +kernel
theorem dX7_corrupt_60 : decode cX7_corrupt 60 = .ok (.ireturn, 1) := by decide +kernel
set_option maxRecDepth 20000 in
theorem ggX7_drop_X7_isSlot : GoodIn wsX7_drop wsX7_isSlot := goodIn_r _ [6, 1, 7, 8, 9, 10, 11, 12, 13, 14, 15, 16, 17, 18, 19, 20, 21, 22, 23, 24, 25, 26, 27, 28, 29, 30, 31] (by decide +kernel) (by decide +kernel)
set_option maxRecDepth 20000 in
theorem gX7_drop_X7_isSlot : GoodIn wsX7_drop (wsV RX7 215 RX7 yX7_isSlot wsX7_isSlot) := goodIn_app (goodIn_of _ (by decide +kernel)) ggX7_drop_X7_isSlot
theorem dX7_drop_0 : decode cX7_drop 0 = .ok (.aload_n 0, 1) := by decide +kernel
theorem dX7_drop_1 : decode cX7_drop 1 = .ok (.iload_n 1, 1) := by decide +kernel
theorem dX7_drop_2 : decode cX7_drop 2 = .ok (.invokevirtual 215, 3) := by decide +kernel
theorem dX7_drop_5 : decode cX7_drop 5 = .ok (.istore_n 2, 1) := by decide +kernel
theorem dX7_drop_6 : decode cX7_drop 6 = .ok (.iload_n 2, 1) := by decide +kernel
theorem dX7_drop_7 : decode cX7_drop 7 = .ok (.ifCond .eq 10, 3) := by decide +kernel
theorem dX7_drop_10 : decode cX7_drop 10 = .ok (.aload_n 0, 1) := by decide +kernel
theorem dX7_drop_11 : decode cX7_drop 11 = .ok (.getfield 39, 3) := by decide +kernel
theorem dX7_drop_14 : decode cX7_drop 14 = .ok (.iload_n 1, 1) := by decide +kernel
theorem dX7_drop_15 : decode cX7_drop 15 = .ok (.iconst 0, 1) := by decide +kernel
theorem dX7_drop_16 : decode cX7_drop 16 = .ok (.iastore, 1) := by decide +kernel
theorem dX7_drop_17 : decode cX7_drop 17 = .ok (.iload_n 2, 1) := by decide +kernel
theorem dX7_drop_18 : decode cX7_drop 18 = .ok (.ireturn, 1) := by decide +kernel
set_option maxRecDepth 20000 in
theorem ggX7_wireAt_X7_isSlot : GoodIn wsX7_wireAt wsX7_isSlot := goodIn_r _ [7, 1, 8, 9, 10, 11, 12, 13, 14, 15, 16, 17, 18, 19, 20, 21, 22, 23, 24, 25, 26, 27, 28, 29, 30, 31, 32] (by decide +kernel) (by decide +kernel)
set_option maxRecDepth 20000 in
theorem gX7_wireAt_X7_isSlot : GoodIn wsX7_wireAt (wsV RX7 215 RX7 yX7_isSlot wsX7_isSlot) := goodIn_app (goodIn_of _ (by decide +kernel)) ggX7_wireAt_X7_isSlot
theorem dX7_wireAt_0 : decode cX7_wireAt 0 = .ok (.aload_n 0, 1) := by decide +kernel
theorem dX7_wireAt_1 : decode cX7_wireAt 1 = .ok (.iload_n 1, 1) := by decide +kernel
theorem dX7_wireAt_2 : decode cX7_wireAt 2 = .ok (.invokevirtual 215, 3) := by decide +kernel
theorem dX7_wireAt_5 : decode cX7_wireAt 5 = .ok (.ifCond .eq 32, 3) := by decide +kernel
theorem dX7_wireAt_8 : decode cX7_wireAt 8 = .ok (.iload_n 2, 1) := by decide +kernel
theorem dX7_wireAt_9 : decode cX7_wireAt 9 = .ok (.ifCond .lt 28, 3) := by decide +kernel
theorem dX7_wireAt_12 : decode cX7_wireAt 12 = .ok (.iload_n 2, 1) := by decide +kernel
theorem dX7_wireAt_13 : decode cX7_wireAt 13 = .ok (.aload_n 0, 1) := by decide +kernel
theorem dX7_wireAt_14 : decode cX7_wireAt 14 = .ok (.getfield 39, 3) := by decide +kernel
theorem dX7_wireAt_17 : decode cX7_wireAt 17 = .ok (.iload_n 1, 1) := by decide +kernel
theorem dX7_wireAt_18 : decode cX7_wireAt 18 = .ok (.iaload, 1) := by decide +kernel
theorem dX7_wireAt_19 : decode cX7_wireAt 19 = .ok (.if_icmp .ge 18, 3) := by decide +kernel
theorem dX7_wireAt_22 : decode cX7_wireAt 22 = .ok (.aload_n 0, 1) := by decide +kernel
theorem dX7_wireAt_23 : decode cX7_wireAt 23 = .ok (.getfield 36, 3) := by decide +kernel
theorem dX7_wireAt_26 : decode cX7_wireAt 26 = .ok (.sipush 128, 3) := by decide +kernel
theorem dX7_wireAt_29 : decode cX7_wireAt 29 = .ok (.iload_n 1, 1) := by decide +kernel
theorem dX7_wireAt_30 : decode cX7_wireAt 30 = .ok (.imul, 1) := by decide +kernel
theorem dX7_wireAt_31 : decode cX7_wireAt 31 = .ok (.iload_n 2, 1) := by decide +kernel
theorem dX7_wireAt_32 : decode cX7_wireAt 32 = .ok (.iadd, 1) := by decide +kernel
theorem dX7_wireAt_33 : decode cX7_wireAt 33 = .ok (.iaload, 1) := by decide +kernel
theorem dX7_wireAt_34 : decode cX7_wireAt 34 = .ok (.goto 4, 3) := by decide +kernel
theorem dX7_wireAt_37 : decode cX7_wireAt 37 = .ok (.iconst (-1), 1) := by decide +kernel
theorem dX7_wireAt_38 : decode cX7_wireAt 38 = .ok (.ireturn, 1) := by decide +kernel
theorem dX7_count_0 : decode cX7_count 0 = .ok (.iconst 0, 1) := by decide +kernel
theorem dX7_count_1 : decode cX7_count 1 = .ok (.istore_n 2, 1) := by decide +kernel
theorem dX7_count_2 : decode cX7_count 2 = .ok (.iload_n 1, 1) := by decide +kernel
theorem dX7_count_3 : decode cX7_count 3 = .ok (.ifCond .ne 36, 3) := by decide +kernel
theorem dX7_count_6 : decode cX7_count 6 = .ok (.iconst 0, 1) := by decide +kernel
theorem dX7_count_7 : decode cX7_count 7 = .ok (.istore_n 3, 1) := by decide +kernel
theorem dX7_count_8 : decode cX7_count 8 = .ok (.iload_n 3, 1) := by decide +kernel
theorem dX7_count_9 : decode cX7_count 9 = .ok (.bipush 8, 2) := by decide +kernel
theorem dX7_count_11 : decode cX7_count 11 = .ok (.if_icmp .ge 26, 3) := by decide +kernel
theorem dX7_count_14 : decode cX7_count 14 = .ok (.aload_n 0, 1) := by decide +kernel
theorem dX7_count_15 : decode cX7_count 15 = .ok (.getfield 39, 3) := by decide +kernel
theorem dX7_count_18 : decode cX7_count 18 = .ok (.iload_n 3, 1) := by decide +kernel
theorem dX7_count_19 : decode cX7_count 19 = .ok (.iaload, 1) := by decide +kernel
theorem dX7_count_20 : decode cX7_count 20 = .ok (.ifCond .le 9, 3) := by decide +kernel
theorem dX7_count_23 : decode cX7_count 23 = .ok (.iload_n 2, 1) := by decide +kernel
theorem dX7_count_24 : decode cX7_count 24 = .ok (.iconst 1, 1) := by decide +kernel
theorem dX7_count_25 : decode cX7_count 25 = .ok (.iadd, 1) := by decide +kernel
theorem dX7_count_26 : decode cX7_count 26 = .ok (.goto 4, 3) := by decide +kernel
theorem dX7_count_29 : decode cX7_count 29 = .ok (.iload_n 2, 1) := by decide +kernel
theorem dX7_count_30 : decode cX7_count 30 = .ok (.istore_n 2, 1) := by decide +kernel
theorem dX7_count_31 : decode cX7_count 31 = .ok (.iinc 3 1, 3) := by decide +kernel
theorem dX7_count_34 : decode cX7_count 34 = .ok (.goto (-26), 3) := by decide +kernel
theorem dX7_count_37 : decode cX7_count 37 = .ok (.iload_n 2, 1) := by decide +kernel
theorem dX7_count_38 : decode cX7_count 38 = .ok (.ireturn, 1) := by decide +kernel
theorem dX7_count_39 : decode cX7_count 39 = .ok (.iload_n 1, 1) := by decide +kernel
theorem dX7_count_40 : decode cX7_count 40 = .ok (.iconst 4, 1) := by decide +kernel
theorem dX7_count_41 : decode cX7_count 41 = .ok (.if_icmp .eq 8, 3) := by decide +kernel
theorem dX7_count_44 : decode cX7_count 44 = .ok (.iload_n 1, 1) := by decide +kernel
theorem dX7_count_45 : decode cX7_count 45 = .ok (.iconst 5, 1) := by decide +kernel
theorem dX7_count_46 : decode cX7_count 46 = .ok (.if_icmp .ne 61, 3) := by decide +kernel
theorem dX7_count_49 : decode cX7_count 49 = .ok (.iconst 0, 1) := by decide +kernel
theorem dX7_count_50 : decode cX7_count 50 = .ok (.istore_n 3, 1) := by decide +kernel
theorem dX7_count_51 : decode cX7_count 51 = .ok (.iload_n 3, 1) := by decide +kernel
theorem dX7_count_52 : decode cX7_count 52 = .ok (.bipush 64, 2) := by decide +kernel
theorem dX7_count_54 : decode cX7_count 54 = .ok (.if_icmp .ge 51, 3) := by decide +kernel
theorem dX7_count_57 : decode cX7_count 57 = .ok (.aload_n 0, 1) := by decide +kernel
theorem dX7_count_58 : decode cX7_count 58 = .ok (.getfield 145, 3) := by decide +kernel
theorem dX7_count_61 : decode cX7_count 61 = .ok (.ifCond .eq 36, 3) := by decide +kernel
theorem dX7_count_64 : decode cX7_count 64 = .ok (.aload_n 0, 1) := by decide +kernel
theorem dX7_count_65 : decode cX7_count 65 = .ok (.getfield 26, 3) := by decide +kernel
theorem dX7_count_68 : decode cX7_count 68 = .ok (.iload_n 1, 1) := by decide +kernel
theorem dX7_count_69 : decode cX7_count 69 = .ok (.iconst 4, 1) := by decide +kernel
theorem dX7_count_70 : decode cX7_count 70 = .ok (.isub, 1) := by decide +kernel
theorem dX7_count_71 : decode cX7_count 71 = .ok (.baload, 1) := by decide +kernel
theorem dX7_count_72 : decode cX7_count 72 = .ok (.ifCond .eq 25, 3) := by decide +kernel
theorem dX7_count_75 : decode cX7_count 75 = .ok (.aload_n 0, 1) := by decide +kernel
theorem dX7_count_76 : decode cX7_count 76 = .ok (.getfield 33, 3) := by decide +kernel
theorem dX7_count_79 : decode cX7_count 79 = .ok (.bipush 64, 2) := by decide +kernel
theorem dX7_count_81 : decode cX7_count 81 = .ok (.iload_n 1, 1) := by decide +kernel
theorem dX7_count_82 : decode cX7_count 82 = .ok (.iconst 4, 1) := by decide +kernel
theorem dX7_count_83 : decode cX7_count 83 = .ok (.isub, 1) := by decide +kernel
theorem dX7_count_84 : decode cX7_count 84 = .ok (.imul, 1) := by decide +kernel
theorem dX7_count_85 : decode cX7_count 85 = .ok (.iload_n 3, 1) := by decide +kernel
theorem dX7_count_86 : decode cX7_count 86 = .ok (.iadd, 1) := by decide +kernel
theorem dX7_count_87 : decode cX7_count 87 = .ok (.baload, 1) := by decide +kernel
theorem dX7_count_88 : decode cX7_count 88 = .ok (.ifCond .eq 9, 3) := by decide +kernel
theorem dX7_count_91 : decode cX7_count 91 = .ok (.iload_n 2, 1) := by decide +kernel
theorem dX7_count_92 : decode cX7_count 92 = .ok (.iconst 1, 1) := by decide +kernel
theorem dX7_count_93 : decode cX7_count 93 = .ok (.iadd, 1) := by decide +kernel
theorem dX7_count_94 : decode cX7_count 94 = .ok (.goto 4, 3) := by decide +kernel
theorem dX7_count_97 : decode cX7_count 97 = .ok (.iload_n 2, 1) := by decide +kernel
theorem dX7_count_98 : decode cX7_count 98 = .ok (.istore_n 2, 1) := by decide +kernel
theorem dX7_count_99 : decode cX7_count 99 = .ok (.iinc 3 1, 3) := by decide +kernel
theorem dX7_count_102 : decode cX7_count 102 = .ok (.goto (-51), 3) := by decide +kernel
theorem dX7_count_105 : decode cX7_count 105 = .ok (.iload_n 2, 1) := by decide +kernel
theorem dX7_count_106 : decode cX7_count 106 = .ok (.ireturn, 1) := by decide +kernel
theorem dX7_count_107 : decode cX7_count 107 = .ok (.iload_n 1, 1) := by decide +kernel
theorem dX7_count_108 : decode cX7_count 108 = .ok (.iconst 2, 1) := by decide +kernel
theorem dX7_count_109 : decode cX7_count 109 = .ok (.if_icmp .eq 8, 3) := by decide +kernel
theorem dX7_count_112 : decode cX7_count 112 = .ok (.iload_n 1, 1) := by decide +kernel
theorem dX7_count_113 : decode cX7_count 113 = .ok (.iconst 3, 1) := by decide +kernel
theorem dX7_count_114 : decode cX7_count 114 = .ok (.if_icmp .ne 23, 3) := by decide +kernel
theorem dX7_count_117 : decode cX7_count 117 = .ok (.aload_n 0, 1) := by decide +kernel
theorem dX7_count_118 : decode cX7_count 118 = .ok (.getfield 145, 3) := by decide +kernel
theorem dX7_count_121 : decode cX7_count 121 = .ok (.ifCond .eq 14, 3) := by decide +kernel
theorem dX7_count_124 : decode cX7_count 124 = .ok (.aload_n 0, 1) := by decide +kernel
theorem dX7_count_125 : decode cX7_count 125 = .ok (.getfield 19, 3) := by decide +kernel
theorem dX7_count_128 : decode cX7_count 128 = .ok (.iload_n 1, 1) := by decide +kernel
theorem dX7_count_129 : decode cX7_count 129 = .ok (.iconst 2, 1) := by decide +kernel
theorem dX7_count_130 : decode cX7_count 130 = .ok (.isub, 1) := by decide +kernel
theorem dX7_count_131 : decode cX7_count 131 = .ok (.iaload, 1) := by decide +kernel
theorem dX7_count_132 : decode cX7_count 132 = .ok (.goto 4, 3) := by decide +kernel
theorem dX7_count_135 : decode cX7_count 135 = .ok (.iconst (-1), 1) := by decide +kernel
theorem dX7_count_136 : decode cX7_count 136 = .ok (.ireturn, 1) := by decide +kernel
theorem dX7_count_137 : decode cX7_count 137 = .ok (.iload_n 1, 1) := by decide +kernel
theorem dX7_count_138 : decode cX7_count 138 = .ok (.iconst 1, 1) := by decide +kernel
theorem dX7_count_139 : decode cX7_count 139 = .ok (.if_icmp .ne 10, 3) := by decide +kernel
theorem dX7_count_142 : decode cX7_count 142 = .ok (.aload_n 0, 1) := by decide +kernel
theorem dX7_count_143 : decode cX7_count 143 = .ok (.getfield 149, 3) := by decide +kernel
theorem dX7_count_146 : decode cX7_count 146 = .ok (.goto 4, 3) := by decide +kernel
theorem dX7_count_149 : decode cX7_count 149 = .ok (.iconst (-1), 1) := by decide +kernel
theorem dX7_count_150 : decode cX7_count 150 = .ok (.ireturn, 1) := by decide +kernel
theorem dJ13_bitCount_95d88_0 : decode cJ13_bitCount_95d88 0 = .ok (.lload_n 0, 1) := by decide +kernel
theorem dJ13_bitCount_95d88_1 : decode cJ13_bitCount_95d88 1 = .ok (.lload_n 0, 1) := by decide +kernel
theorem dJ13_bitCount_95d88_2 : decode cJ13_bitCount_95d88 2 = .ok (.iconst 1, 1) := by decide +kernel
theorem dJ13_bitCount_95d88_3 : decode cJ13_bitCount_95d88 3 = .ok (.lushr, 1) := by decide +kernel
theorem dJ13_bitCount_95d88_4 : decode cJ13_bitCount_95d88 4 = .ok (.ldc2_w 314, 3) := by decide +kernel
theorem dJ13_bitCount_95d88_7 : decode cJ13_bitCount_95d88 7 = .ok (.land, 1) := by decide +kernel
theorem dJ13_bitCount_95d88_8 : decode cJ13_bitCount_95d88 8 = .ok (.lsub, 1) := by decide +kernel
theorem dJ13_bitCount_95d88_9 : decode cJ13_bitCount_95d88 9 = .ok (.lstore_n 0, 1) := by decide +kernel
theorem dJ13_bitCount_95d88_10 : decode cJ13_bitCount_95d88 10 = .ok (.lload_n 0, 1) := by decide +kernel
theorem dJ13_bitCount_95d88_11 : decode cJ13_bitCount_95d88 11 = .ok (.ldc2_w 316, 3) := by decide +kernel
theorem dJ13_bitCount_95d88_14 : decode cJ13_bitCount_95d88 14 = .ok (.land, 1) := by decide +kernel
theorem dJ13_bitCount_95d88_15 : decode cJ13_bitCount_95d88 15 = .ok (.lload_n 0, 1) := by decide +kernel
theorem dJ13_bitCount_95d88_16 : decode cJ13_bitCount_95d88 16 = .ok (.iconst 2, 1) := by decide +kernel
theorem dJ13_bitCount_95d88_17 : decode cJ13_bitCount_95d88 17 = .ok (.lushr, 1) := by decide +kernel
theorem dJ13_bitCount_95d88_18 : decode cJ13_bitCount_95d88 18 = .ok (.ldc2_w 316, 3) := by decide +kernel
theorem dJ13_bitCount_95d88_21 : decode cJ13_bitCount_95d88 21 = .ok (.land, 1) := by decide +kernel
theorem dJ13_bitCount_95d88_22 : decode cJ13_bitCount_95d88 22 = .ok (.ladd, 1) := by decide +kernel
theorem dJ13_bitCount_95d88_23 : decode cJ13_bitCount_95d88 23 = .ok (.lstore_n 0, 1) := by decide +kernel
theorem dJ13_bitCount_95d88_24 : decode cJ13_bitCount_95d88 24 = .ok (.lload_n 0, 1) := by decide +kernel
theorem dJ13_bitCount_95d88_25 : decode cJ13_bitCount_95d88 25 = .ok (.lload_n 0, 1) := by decide +kernel
theorem dJ13_bitCount_95d88_26 : decode cJ13_bitCount_95d88 26 = .ok (.iconst 4, 1) := by decide +kernel
theorem dJ13_bitCount_95d88_27 : decode cJ13_bitCount_95d88 27 = .ok (.lushr, 1) := by decide +kernel
theorem dJ13_bitCount_95d88_28 : decode cJ13_bitCount_95d88 28 = .ok (.ladd, 1) := by decide +kernel
theorem dJ13_bitCount_95d88_29 : decode cJ13_bitCount_95d88 29 = .ok (.ldc2_w 318, 3) := by decide +kernel
theorem dJ13_bitCount_95d88_32 : decode cJ13_bitCount_95d88 32 = .ok (.land, 1) := by decide +kernel
theorem dJ13_bitCount_95d88_33 : decode cJ13_bitCount_95d88 33 = .ok (.lstore_n 0, 1) := by decide +kernel
theorem dJ13_bitCount_95d88_34 : decode cJ13_bitCount_95d88 34 = .ok (.lload_n 0, 1) := by decide +kernel
theorem dJ13_bitCount_95d88_35 : decode cJ13_bitCount_95d88 35 = .ok (.lload_n 0, 1) := by decide +kernel
theorem dJ13_bitCount_95d88_36 : decode cJ13_bitCount_95d88 36 = .ok (.bipush 8, 2) := by decide +kernel
theorem dJ13_bitCount_95d88_38 : decode cJ13_bitCount_95d88 38 = .ok (.lushr, 1) := by decide +kernel
theorem dJ13_bitCount_95d88_39 : decode cJ13_bitCount_95d88 39 = .ok (.ladd, 1) := by decide +kernel
theorem dJ13_bitCount_95d88_40 : decode cJ13_bitCount_95d88 40 = .ok (.lstore_n 0, 1) := by decide +kernel
theorem dJ13_bitCount_95d88_41 : decode cJ13_bitCount_95d88 41 = .ok (.lload_n 0, 1) := by decide +kernel
theorem dJ13_bitCount_95d88_42 : decode cJ13_bitCount_95d88 42 = .ok (.lload_n 0, 1) := by decide +kernel
theorem dJ13_bitCount_95d88_43 : decode cJ13_bitCount_95d88 43 = .ok (.bipush 16, 2) := by decide +kernel
theorem dJ13_bitCount_95d88_45 : decode cJ13_bitCount_95d88 45 = .ok (.lushr, 1) := by decide +kernel
theorem dJ13_bitCount_95d88_46 : decode cJ13_bitCount_95d88 46 = .ok (.ladd, 1) := by decide +kernel
theorem dJ13_bitCount_95d88_47 : decode cJ13_bitCount_95d88 47 = .ok (.lstore_n 0, 1) := by decide +kernel
theorem dJ13_bitCount_95d88_48 : decode cJ13_bitCount_95d88 48 = .ok (.lload_n 0, 1) := by decide +kernel
theorem dJ13_bitCount_95d88_49 : decode cJ13_bitCount_95d88 49 = .ok (.lload_n 0, 1) := by decide +kernel
theorem dJ13_bitCount_95d88_50 : decode cJ13_bitCount_95d88 50 = .ok (.bipush 32, 2) := by decide +kernel
theorem dJ13_bitCount_95d88_52 : decode cJ13_bitCount_95d88 52 = .ok (.lushr, 1) := by decide +kernel
theorem dJ13_bitCount_95d88_53 : decode cJ13_bitCount_95d88 53 = .ok (.ladd, 1) := by decide +kernel
theorem dJ13_bitCount_95d88_54 : decode cJ13_bitCount_95d88 54 = .ok (.lstore_n 0, 1) := by decide +kernel
theorem dJ13_bitCount_95d88_55 : decode cJ13_bitCount_95d88 55 = .ok (.lload_n 0, 1) := by decide +kernel
theorem dJ13_bitCount_95d88_56 : decode cJ13_bitCount_95d88 56 = .ok (.l2i, 1) := by decide +kernel
theorem dJ13_bitCount_95d88_57 : decode cJ13_bitCount_95d88 57 = .ok (.bipush 127, 2) := by decide +kernel
theorem dJ13_bitCount_95d88_59 : decode cJ13_bitCount_95d88 59 = .ok (.iand, 1) := by decide +kernel
theorem dJ13_bitCount_95d88_60 : decode cJ13_bitCount_95d88 60 = .ok (.ireturn, 1) := by decide +kernel
abbrev vwCl : List vw_C := [(RX0, TX0, 2), (RX1, TX1, 9), (RX2, TX2, 3), (RX3, TX3, 3), (RX4, TX4, 4), (RX5, TX5, 2), (RX6, TX6, 9), (RX7, TX7, 25)]

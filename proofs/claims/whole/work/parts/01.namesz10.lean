theorem dX7_send_181 : decode cX7_send 181 = .ok (.bipush 15, 2) := by decide +kernel
theorem dX7_send_183 : decode cX7_send 183 = .ok (.iadd, 1) := by decide +kernel
theorem dX7_send_184 : decode cX7_send 184 = .ok (.aload_n 0, 1) := by decide +kernel
theorem dX7_send_185 : decode cX7_send 185 = .ok (.getfield 149, 3) := by decide +kernel
theorem dX7_send_188 : decode cX7_send 188 = .ok (.iadd, 1) := by decide +kernel
theorem dX7_send_189 : decode cX7_send 189 = .ok (.iload 4, 2) := by decide +kernel
theorem dX7_send_191 : decode cX7_send 191 = .ok (.iadd, 1) := by decide +kernel
theorem dX7_send_192 : decode cX7_send 192 = .ok (.aload_n 0, 1) := by decide +kernel
theorem dX7_send_193 : decode cX7_send 193 = .ok (.getfield 57, 3) := by decide +kernel
theorem dX7_send_196 : decode cX7_send 196 = .ok (.iload 4, 2) := by decide +kernel
theorem dX7_send_198 : decode cX7_send 198 = .ok (.iaload, 1) := by decide +kernel
theorem dX7_send_199 : decode cX7_send 199 = .ok (.iastore, 1) := by decide +kernel
theorem dX7_send_200 : decode cX7_send 200 = .ok (.iinc 4 1, 3) := by decide +kernel
theorem dX7_send_203 : decode cX7_send 203 = .ok (.goto (-34), 3) := by decide +kernel
theorem dX7_send_206 : decode cX7_send 206 = .ok (.aload_n 0, 1) := by decide +kernel
theorem dX7_send_207 : decode cX7_send 207 = .ok (.getfield 39, 3) := by decide +kernel
theorem dX7_send_210 : decode cX7_send 210 = .ok (.iload_n 2, 1) := by decide +kernel
theorem dX7_send_211 : decode cX7_send 211 = .ok (.bipush 15, 2) := by decide +kernel
theorem dX7_send_213 : decode cX7_send 213 = .ok (.aload_n 0, 1) := by decide +kernel
theorem dX7_send_214 : decode cX7_send 214 = .ok (.getfield 149, 3) := by decide +kernel
theorem dX7_send_217 : decode cX7_send 217 = .ok (.iadd, 1) := by decide +kernel
theorem dX7_send_218 : decode cX7_send 218 = .ok (.bipush 16, 2) := by decide +kernel
theorem dX7_send_220 : decode cX7_send 220 = .ok (.iadd, 1) := by decide +kernel
theorem dX7_send_221 : decode cX7_send 221 = .ok (.iastore, 1) := by decide +kernel
theorem dX7_send_222 : decode cX7_send 222 = .ok (.aload_n 0, 1) := by decide +kernel
theorem dX7_send_223 : decode cX7_send 223 = .ok (.iconst 0, 1) := by decide +kernel
theorem dX7_send_224 : decode cX7_send 224 = .ok (.putfield 149, 3) := by decide +kernel
theorem dX7_send_227 : decode cX7_send 227 = .ok (.aload_n 0, 1) := by decide +kernel
theorem dX7_send_228 : decode cX7_send 228 = .ok (.getfield 22, 3) := by decide +kernel
theorem dX7_send_231 : decode cX7_send 231 = .ok (.iload_n 1, 1) := by decide +kernel
theorem dX7_send_232 : decode cX7_send 232 = .ok (.dup2, 1) := by decide +kernel
theorem dX7_send_233 : decode cX7_send 233 = .ok (.laload, 1) := by decide +kernel
theorem dX7_send_234 : decode cX7_send 234 = .ok (.lconst 1, 1) := by decide +kernel
theorem dX7_send_235 : decode cX7_send 235 = .ok (.ladd, 1) := by decide +kernel
theorem dX7_send_236 : decode cX7_send 236 = .ok (.lastore, 1) := by decide +kernel
theorem dX7_send_237 : decode cX7_send 237 = .ok (.iload_n 2, 1) := by decide +kernel
theorem dX7_send_238 : decode cX7_send 238 = .ok (.ireturn, 1) := by decide +kernel
theorem dX7_isSlot_0 : decode cX7_isSlot 0 = .ok (.iload_n 1, 1) := by decide +kernel
theorem dX7_isSlot_1 : decode cX7_isSlot 1 = .ok (.ifCond .lt 22, 3) := by decide +kernel
theorem dX7_isSlot_4 : decode cX7_isSlot 4 = .ok (.iload_n 1, 1) := by decide +kernel
theorem dX7_isSlot_5 : decode cX7_isSlot 5 = .ok (.bipush 8, 2) := by decide +kernel
theorem dX7_isSlot_7 : decode cX7_isSlot 7 = .ok (.if_icmp .ge 16, 3) := by decide +kernel
theorem dX7_isSlot_10 : decode cX7_isSlot 10 = .ok (.aload_n 0, 1) := by decide +kernel
theorem dX7_isSlot_11 : decode cX7_isSlot 11 = .ok (.getfield 39, 3) := by decide +kernel
theorem dX7_isSlot_14 : decode cX7_isSlot 14 = .ok (.iload_n 1, 1) := by decide +kernel
theorem dX7_isSlot_15 : decode cX7_isSlot 15 = .ok (.iaload, 1) := by decide +kernel
theorem dX7_isSlot_16 : decode cX7_isSlot 16 = .ok (.ifCond .le 7, 3) := by decide +kernel
theorem dX7_isSlot_19 : decode cX7_isSlot 19 = .ok (.iconst 1, 1) := by decide +kernel
theorem dX7_isSlot_20 : decode cX7_isSlot 20 = .ok (.goto 4, 3) := by decide +kernel
theorem dX7_isSlot_23 : decode cX7_isSlot 23 = .ok (.iconst 0, 1) := by decide +kernel
theorem dX7_isSlot_24 : decode cX7_isSlot 24 = .ok (.ireturn, 1) := by decide +kernel
theorem dX7_isBelow_0 : decode cX7_isBelow 0 = .ok (.lload_n 0, 1) := by decide +kernel
theorem dX7_isBelow_1 : decode cX7_isBelow 1 = .ok (.ldc2_w 213, 3) := by decide +kernel
theorem dX7_isBelow_4 : decode cX7_isBelow 4 = .ok (.lxor, 1) := by decide +kernel
theorem dX7_isBelow_5 : decode cX7_isBelow 5 = .ok (.lload_n 2, 1) := by decide +kernel
theorem dX7_isBelow_6 : decode cX7_isBelow 6 = .ok (.ldc2_w 213, 3) := by decide +kernel
theorem dX7_isBelow_9 : decode cX7_isBelow 9 = .ok (.lxor, 1) := by decide +kernel
theorem dX7_isBelow_10 : decode cX7_isBelow 10 = .ok (.lcmp, 1) := by decide +kernel
theorem dX7_isBelow_11 : decode cX7_isBelow 11 = .ok (.ifCond .ge 7, 3) := by decide +kernel
theorem dX7_isBelow_14 : decode cX7_isBelow 14 = .ok (.iconst 1, 1) := by decide +kernel
theorem dX7_isBelow_15 : decode cX7_isBelow 15 = .ok (.goto 4, 3) := by decide +kernel
theorem dX7_isBelow_18 : decode cX7_isBelow 18 = .ok (.iconst 0, 1) := by decide +kernel
theorem dX7_isBelow_19 : decode cX7_isBelow 19 = .ok (.ireturn, 1) := by decide +kernel
set_option maxRecDepth 20000 in
theorem ggX7_deliver_X7_isSlot : GoodIn wsX7_deliver wsX7_isSlot := goodIn_r _ [16, 3, 89, 90, 91, 92, 93, 94, 95, 96, 97, 98, 99, 100, 101, 102, 103, 104, 105, 106, 107, 108, 109, 110, 111, 112, 113] (by decide +kernel) (by decide +kernel)
set_option maxRecDepth 20000 in
theorem gX7_deliver_X7_isSlot : GoodIn wsX7_deliver (wsV RX7 215 RX7 yX7_isSlot wsX7_isSlot) := goodIn_app (goodIn_of _ (by decide +kernel)) ggX7_deliver_X7_isSlot
set_option maxRecDepth 20000 in
theorem ggX7_deliver_X7_numberAt : GoodIn wsX7_deliver wsX7_numberAt := goodIn_r _ [20, 2, 89, 90, 91, 92, 93, 94, 95, 96, 97, 98, 99, 100, 101, 102, 103, 104, 105, 106, 107, 108, 109, 110, 111, 112, 113] (by decide +kernel) (by decide +kernel)
set_option maxRecDepth 20000 in
theorem gX7_deliver_X7_numberAt : GoodIn wsX7_deliver (wsV RX7 219 RX7 yX7_numberAt wsX7_numberAt) := goodIn_app (goodIn_of _ (by decide +kernel)) ggX7_deliver_X7_numberAt

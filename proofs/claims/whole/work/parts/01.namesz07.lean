theorem dX7_stream_188 : decode cX7_stream 188 = .ok (.bipush 10, 2) := by decide +kernel
theorem dX7_stream_190 : decode cX7_stream 190 = .ok (.bipush 14, 2) := by decide +kernel
theorem dX7_stream_192 : decode cX7_stream 192 = .ok (.iconst 2, 1) := by decide +kernel
theorem dX7_stream_193 : decode cX7_stream 193 = .ok (.bipush 6, 2) := by decide +kernel
theorem dX7_stream_195 : decode cX7_stream 195 = .ok (.invokevirtual 194, 3) := by decide +kernel
theorem dX7_stream_198 : decode cX7_stream 198 = .ok (.aload_n 0, 1) := by decide +kernel
theorem dX7_stream_199 : decode cX7_stream 199 = .ok (.bipush 15, 2) := by decide +kernel
theorem dX7_stream_201 : decode cX7_stream 201 = .ok (.iconst 3, 1) := by decide +kernel
theorem dX7_stream_202 : decode cX7_stream 202 = .ok (.bipush 7, 2) := by decide +kernel
theorem dX7_stream_204 : decode cX7_stream 204 = .ok (.bipush 11, 2) := by decide +kernel
theorem dX7_stream_206 : decode cX7_stream 206 = .ok (.invokevirtual 194, 3) := by decide +kernel
theorem dX7_stream_209 : decode cX7_stream 209 = .ok (.aload_n 0, 1) := by decide +kernel
theorem dX7_stream_210 : decode cX7_stream 210 = .ok (.iconst 0, 1) := by decide +kernel
theorem dX7_stream_211 : decode cX7_stream 211 = .ok (.iconst 1, 1) := by decide +kernel
theorem dX7_stream_212 : decode cX7_stream 212 = .ok (.iconst 2, 1) := by decide +kernel
theorem dX7_stream_213 : decode cX7_stream 213 = .ok (.iconst 3, 1) := by decide +kernel
theorem dX7_stream_214 : decode cX7_stream 214 = .ok (.invokevirtual 194, 3) := by decide +kernel
theorem dX7_stream_217 : decode cX7_stream 217 = .ok (.aload_n 0, 1) := by decide +kernel
theorem dX7_stream_218 : decode cX7_stream 218 = .ok (.iconst 5, 1) := by decide +kernel
theorem dX7_stream_219 : decode cX7_stream 219 = .ok (.bipush 6, 2) := by decide +kernel
theorem dX7_stream_221 : decode cX7_stream 221 = .ok (.bipush 7, 2) := by decide +kernel
theorem dX7_stream_223 : decode cX7_stream 223 = .ok (.iconst 4, 1) := by decide +kernel
theorem dX7_stream_224 : decode cX7_stream 224 = .ok (.invokevirtual 194, 3) := by decide +kernel
theorem dX7_stream_227 : decode cX7_stream 227 = .ok (.aload_n 0, 1) := by decide +kernel
theorem dX7_stream_228 : decode cX7_stream 228 = .ok (.bipush 10, 2) := by decide +kernel
theorem dX7_stream_230 : decode cX7_stream 230 = .ok (.bipush 11, 2) := by decide +kernel
theorem dX7_stream_232 : decode cX7_stream 232 = .ok (.bipush 8, 2) := by decide +kernel
theorem dX7_stream_234 : decode cX7_stream 234 = .ok (.bipush 9, 2) := by decide +kernel
theorem dX7_stream_236 : decode cX7_stream 236 = .ok (.invokevirtual 194, 3) := by decide +kernel
theorem dX7_stream_239 : decode cX7_stream 239 = .ok (.aload_n 0, 1) := by decide +kernel
theorem dX7_stream_240 : decode cX7_stream 240 = .ok (.bipush 15, 2) := by decide +kernel
theorem dX7_stream_242 : decode cX7_stream 242 = .ok (.bipush 12, 2) := by decide +kernel
theorem dX7_stream_244 : decode cX7_stream 244 = .ok (.bipush 13, 2) := by decide +kernel
theorem dX7_stream_246 : decode cX7_stream 246 = .ok (.bipush 14, 2) := by decide +kernel
theorem dX7_stream_248 : decode cX7_stream 248 = .ok (.invokevirtual 194, 3) := by decide +kernel
theorem dX7_stream_251 : decode cX7_stream 251 = .ok (.iinc 4 1, 3) := by decide +kernel
theorem dX7_stream_254 : decode cX7_stream 254 = .ok (.goto (-94), 3) := by decide +kernel
theorem dX7_stream_257 : decode cX7_stream 257 = .ok (.return_, 1) := by decide +kernel
set_option maxRecDepth 20000 in
theorem ggX7_streamByte_X7_stream : GoodIn wsX7_streamByte wsX7_stream := goodIn_r _ [7, 2, 8, 9, 10, 11, 1, 12, 13, 14, 6, 15, 16, 17, 18, 19, 20, 21, 22, 23, 24, 25, 26, 27, 28, 29, 30, 31, 32, 33, 34, 35, 36, 37, 38, 39, 40, 41, 42, 43, 44, 45, 46, 47, 48, 49, 50, 51, 52, 53] (by decide +kernel) (by decide +kernel)
set_option maxRecDepth 20000 in
theorem gX7_streamByte_X7_stream : GoodIn wsX7_streamByte (wsV RX7 198 RX7 yX7_stream wsX7_stream) := goodIn_app (goodIn_of _ (by decide +kernel)) ggX7_streamByte_X7_stream
theorem dX7_streamByte_0 : decode cX7_streamByte 0 = .ok (.iload_n 3, 1) := by decide +kernel
theorem dX7_streamByte_1 : decode cX7_streamByte 1 = .ok (.bipush 64, 2) := by decide +kernel
theorem dX7_streamByte_3 : decode cX7_streamByte 3 = .ok (.irem, 1) := by decide +kernel
theorem dX7_streamByte_4 : decode cX7_streamByte 4 = .ok (.ifCond .ne 13, 3) := by decide +kernel
theorem dX7_streamByte_7 : decode cX7_streamByte 7 = .ok (.aload_n 0, 1) := by decide +kernel
theorem dX7_streamByte_8 : decode cX7_streamByte 8 = .ok (.iload_n 1, 1) := by decide +kernel
theorem dX7_streamByte_9 : decode cX7_streamByte 9 = .ok (.iload_n 2, 1) := by decide +kernel
theorem dX7_streamByte_10 : decode cX7_streamByte 10 = .ok (.iload_n 3, 1) := by decide +kernel
theorem dX7_streamByte_11 : decode cX7_streamByte 11 = .ok (.bipush 64, 2) := by decide +kernel
theorem dX7_streamByte_13 : decode cX7_streamByte 13 = .ok (.idiv, 1) := by decide +kernel
theorem dX7_streamByte_14 : decode cX7_streamByte 14 = .ok (.invokevirtual 198, 3) := by decide +kernel
theorem dX7_streamByte_17 : decode cX7_streamByte 17 = .ok (.iload_n 3, 1) := by decide +kernel
theorem dX7_streamByte_18 : decode cX7_streamByte 18 = .ok (.bipush 64, 2) := by decide +kernel
theorem dX7_streamByte_20 : decode cX7_streamByte 20 = .ok (.irem, 1) := by decide +kernel
theorem dX7_streamByte_21 : decode cX7_streamByte 21 = .ok (.iconst 4, 1) := by decide +kernel
theorem dX7_streamByte_22 : decode cX7_streamByte 22 = .ok (.idiv, 1) := by decide +kernel
theorem dX7_streamByte_23 : decode cX7_streamByte 23 = .ok (.istore 4, 2) := by decide +kernel
theorem dX7_streamByte_25 : decode cX7_streamByte 25 = .ok (.aload_n 0, 1) := by decide +kernel
theorem dX7_streamByte_26 : decode cX7_streamByte 26 = .ok (.getfield 139, 3) := by decide +kernel
theorem dX7_streamByte_29 : decode cX7_streamByte 29 = .ok (.iload 4, 2) := by decide +kernel
theorem dX7_streamByte_31 : decode cX7_streamByte 31 = .ok (.iaload, 1) := by decide +kernel
theorem dX7_streamByte_32 : decode cX7_streamByte 32 = .ok (.aload_n 0, 1) := by decide +kernel
theorem dX7_streamByte_33 : decode cX7_streamByte 33 = .ok (.getfield 136, 3) := by decide +kernel
theorem dX7_streamByte_36 : decode cX7_streamByte 36 = .ok (.iload 4, 2) := by decide +kernel
theorem dX7_streamByte_38 : decode cX7_streamByte 38 = .ok (.iaload, 1) := by decide +kernel
theorem dX7_streamByte_39 : decode cX7_streamByte 39 = .ok (.iadd, 1) := by decide +kernel
theorem dX7_streamByte_40 : decode cX7_streamByte 40 = .ok (.bipush 8, 2) := by decide +kernel
theorem dX7_streamByte_42 : decode cX7_streamByte 42 = .ok (.iload_n 3, 1) := by decide +kernel
theorem dX7_streamByte_43 : decode cX7_streamByte 43 = .ok (.iconst 4, 1) := by decide +kernel
theorem dX7_streamByte_44 : decode cX7_streamByte 44 = .ok (.irem, 1) := by decide +kernel
theorem dX7_streamByte_45 : decode cX7_streamByte 45 = .ok (.imul, 1) := by decide +kernel
theorem dX7_streamByte_46 : decode cX7_streamByte 46 = .ok (.iushr, 1) := by decide +kernel
theorem dX7_streamByte_47 : decode cX7_streamByte 47 = .ok (.sipush 255, 3) := by decide +kernel
theorem dX7_streamByte_50 : decode cX7_streamByte 50 = .ok (.iand, 1) := by decide +kernel
theorem dX7_streamByte_51 : decode cX7_streamByte 51 = .ok (.ireturn, 1) := by decide +kernel
theorem dX7_put_0 : decode cX7_put 0 = .ok (.iload_n 1, 1) := by decide +kernel
theorem dX7_put_1 : decode cX7_put 1 = .ok (.ifCond .lt 23, 3) := by decide +kernel
theorem dX7_put_4 : decode cX7_put 4 = .ok (.iload_n 1, 1) := by decide +kernel
theorem dX7_put_5 : decode cX7_put 5 = .ok (.sipush 256, 3) := by decide +kernel
theorem dX7_put_8 : decode cX7_put 8 = .ok (.if_icmp .ge 16, 3) := by decide +kernel
theorem dX7_put_11 : decode cX7_put 11 = .ok (.aload_n 0, 1) := by decide +kernel
theorem dX7_put_12 : decode cX7_put 12 = .ok (.getfield 149, 3) := by decide +kernel
theorem dX7_put_15 : decode cX7_put 15 = .ok (.bipush 96, 2) := by decide +kernel
theorem dX7_put_17 : decode cX7_put 17 = .ok (.if_icmp .ge 7, 3) := by decide +kernel
theorem dX7_put_20 : decode cX7_put 20 = .ok (.iconst 1, 1) := by decide +kernel
theorem dX7_put_21 : decode cX7_put 21 = .ok (.goto 4, 3) := by decide +kernel
theorem dX7_put_24 : decode cX7_put 24 = .ok (.iconst 0, 1) := by decide +kernel
theorem dX7_put_25 : decode cX7_put 25 = .ok (.istore_n 2, 1) := by decide +kernel
theorem dX7_put_26 : decode cX7_put 26 = .ok (.iload_n 2, 1) := by decide +kernel
theorem dX7_put_27 : decode cX7_put 27 = .ok (.ifCond .eq 23, 3) := by decide +kernel
theorem dX7_put_30 : decode cX7_put 30 = .ok (.aload_n 0, 1) := by decide +kernel
theorem dX7_put_31 : decode cX7_put 31 = .ok (.getfield 42, 3) := by decide +kernel
theorem dX7_put_34 : decode cX7_put 34 = .ok (.aload_n 0, 1) := by decide +kernel
theorem dX7_put_35 : decode cX7_put 35 = .ok (.getfield 149, 3) := by decide +kernel
theorem dX7_put_38 : decode cX7_put 38 = .ok (.iload_n 1, 1) := by decide +kernel
theorem dX7_put_39 : decode cX7_put 39 = .ok (.iastore, 1) := by decide +kernel
theorem dX7_put_40 : decode cX7_put 40 = .ok (.aload_n 0, 1) := by decide +kernel
theorem dX7_put_41 : decode cX7_put 41 = .ok (.dup, 1) := by decide +kernel
theorem dX7_put_42 : decode cX7_put 42 = .ok (.getfield 149, 3) := by decide +kernel
theorem dX7_put_45 : decode cX7_put 45 = .ok (.iconst 1, 1) := by decide +kernel
theorem dX7_put_46 : decode cX7_put 46 = .ok (.iadd, 1) := by decide +kernel
theorem dX7_put_47 : decode cX7_put 47 = .ok (.putfield 149, 3) := by decide +kernel
theorem dX7_put_50 : decode cX7_put 50 = .ok (.iload_n 2, 1) := by decide +kernel
theorem dX7_put_51 : decode cX7_put 51 = .ok (.ireturn, 1) := by decide +kernel
set_option maxRecDepth 20000 in
theorem ggX7_tag_X7_hmac : GoodIn wsX7_tag wsX7_hmac := goodIn_r _ [9, 10, 1, 3, 11, 12, 13, 14, 8, 15, 16, 17, 18, 19, 20, 21, 22, 23, 24, 25, 26, 27, 28, 29, 30, 31, 32, 33, 34, 35, 36, 37, 38, 39, 40, 41, 42, 43, 44, 45, 46, 47, 48, 49, 50, 51, 52, 53, 54, 55, 56, 57, 58] (by decide +kernel) (by decide +kernel)
set_option maxRecDepth 20000 in
theorem gX7_tag_X7_hmac : GoodIn wsX7_tag (wsV RX7 175 RX7 yX7_hmac wsX7_hmac) := goodIn_app (goodIn_of _ (by decide +kernel)) ggX7_tag_X7_hmac
theorem dX7_tag_0 : decode cX7_tag 0 = .ok (.iconst 0, 1) := by decide +kernel
theorem dX7_tag_1 : decode cX7_tag 1 = .ok (.istore 4, 2) := by decide +kernel
theorem dX7_tag_3 : decode cX7_tag 3 = .ok (.iload 4, 2) := by decide +kernel
theorem dX7_tag_5 : decode cX7_tag 5 = .ok (.bipush 32, 2) := by decide +kernel

theorem dX7_keyWord_46 : decode cX7_keyWord 46 = .ok (.iaload, 1) := by decide +kernel
theorem dX7_keyWord_47 : decode cX7_keyWord 47 = .ok (.bipush 24, 2) := by decide +kernel
theorem dX7_keyWord_49 : decode cX7_keyWord 49 = .ok (.ishl, 1) := by decide +kernel
theorem dX7_keyWord_50 : decode cX7_keyWord 50 = .ok (.ior, 1) := by decide +kernel
theorem dX7_keyWord_51 : decode cX7_keyWord 51 = .ok (.ireturn, 1) := by decide +kernel
theorem dX7_wireWord_0 : decode cX7_wireWord 0 = .ok (.sipush 128, 3) := by decide +kernel
theorem dX7_wireWord_3 : decode cX7_wireWord 3 = .ok (.iload_n 1, 1) := by decide +kernel
theorem dX7_wireWord_4 : decode cX7_wireWord 4 = .ok (.imul, 1) := by decide +kernel
theorem dX7_wireWord_5 : decode cX7_wireWord 5 = .ok (.iload_n 2, 1) := by decide +kernel
theorem dX7_wireWord_6 : decode cX7_wireWord 6 = .ok (.iadd, 1) := by decide +kernel
theorem dX7_wireWord_7 : decode cX7_wireWord 7 = .ok (.istore_n 3, 1) := by decide +kernel
theorem dX7_wireWord_8 : decode cX7_wireWord 8 = .ok (.aload_n 0, 1) := by decide +kernel
theorem dX7_wireWord_9 : decode cX7_wireWord 9 = .ok (.getfield 36, 3) := by decide +kernel
theorem dX7_wireWord_12 : decode cX7_wireWord 12 = .ok (.iload_n 3, 1) := by decide +kernel
theorem dX7_wireWord_13 : decode cX7_wireWord 13 = .ok (.iaload, 1) := by decide +kernel
theorem dX7_wireWord_14 : decode cX7_wireWord 14 = .ok (.aload_n 0, 1) := by decide +kernel
theorem dX7_wireWord_15 : decode cX7_wireWord 15 = .ok (.getfield 36, 3) := by decide +kernel
theorem dX7_wireWord_18 : decode cX7_wireWord 18 = .ok (.iload_n 3, 1) := by decide +kernel
theorem dX7_wireWord_19 : decode cX7_wireWord 19 = .ok (.iconst 1, 1) := by decide +kernel
theorem dX7_wireWord_20 : decode cX7_wireWord 20 = .ok (.iadd, 1) := by decide +kernel
theorem dX7_wireWord_21 : decode cX7_wireWord 21 = .ok (.iaload, 1) := by decide +kernel
theorem dX7_wireWord_22 : decode cX7_wireWord 22 = .ok (.bipush 8, 2) := by decide +kernel
theorem dX7_wireWord_24 : decode cX7_wireWord 24 = .ok (.ishl, 1) := by decide +kernel
theorem dX7_wireWord_25 : decode cX7_wireWord 25 = .ok (.ior, 1) := by decide +kernel
theorem dX7_wireWord_26 : decode cX7_wireWord 26 = .ok (.aload_n 0, 1) := by decide +kernel
theorem dX7_wireWord_27 : decode cX7_wireWord 27 = .ok (.getfield 36, 3) := by decide +kernel
theorem dX7_wireWord_30 : decode cX7_wireWord 30 = .ok (.iload_n 3, 1) := by decide +kernel
theorem dX7_wireWord_31 : decode cX7_wireWord 31 = .ok (.iconst 2, 1) := by decide +kernel
theorem dX7_wireWord_32 : decode cX7_wireWord 32 = .ok (.iadd, 1) := by decide +kernel
theorem dX7_wireWord_33 : decode cX7_wireWord 33 = .ok (.iaload, 1) := by decide +kernel
theorem dX7_wireWord_34 : decode cX7_wireWord 34 = .ok (.bipush 16, 2) := by decide +kernel
theorem dX7_wireWord_36 : decode cX7_wireWord 36 = .ok (.ishl, 1) := by decide +kernel
theorem dX7_wireWord_37 : decode cX7_wireWord 37 = .ok (.ior, 1) := by decide +kernel
theorem dX7_wireWord_38 : decode cX7_wireWord 38 = .ok (.aload_n 0, 1) := by decide +kernel
theorem dX7_wireWord_39 : decode cX7_wireWord 39 = .ok (.getfield 36, 3) := by decide +kernel
theorem dX7_wireWord_42 : decode cX7_wireWord 42 = .ok (.iload_n 3, 1) := by decide +kernel
theorem dX7_wireWord_43 : decode cX7_wireWord 43 = .ok (.iconst 3, 1) := by decide +kernel
theorem dX7_wireWord_44 : decode cX7_wireWord 44 = .ok (.iadd, 1) := by decide +kernel
theorem dX7_wireWord_45 : decode cX7_wireWord 45 = .ok (.iaload, 1) := by decide +kernel
theorem dX7_wireWord_46 : decode cX7_wireWord 46 = .ok (.bipush 24, 2) := by decide +kernel
theorem dX7_wireWord_48 : decode cX7_wireWord 48 = .ok (.ishl, 1) := by decide +kernel
theorem dX7_wireWord_49 : decode cX7_wireWord 49 = .ok (.ior, 1) := by decide +kernel
theorem dX7_wireWord_50 : decode cX7_wireWord 50 = .ok (.ireturn, 1) := by decide +kernel
set_option maxRecDepth 20000 in
theorem ggX7_stream_X7_keyWord : GoodIn wsX7_stream wsX7_keyWord := goodIn_r _ [11, 12, 25, 26, 27, 28, 29, 30, 31, 32, 33, 34, 35, 36, 37, 38, 39, 40, 41, 42, 43, 44, 45, 46, 47, 48, 49] (by decide +kernel) (by decide +kernel)
set_option maxRecDepth 20000 in
theorem gX7_stream_X7_keyWord : GoodIn wsX7_stream (wsV RX7 188 RX7 yX7_keyWord wsX7_keyWord) := goodIn_app (goodIn_of _ (by decide +kernel)) ggX7_stream_X7_keyWord
set_option maxRecDepth 20000 in
theorem ggX7_stream_X7_wireWord : GoodIn wsX7_stream wsX7_wireWord := goodIn_r _ [16, 17, 25, 26, 27, 28, 29, 30, 31, 32, 33, 34, 35, 36, 37, 38, 39, 40, 41, 42, 43, 44, 45, 46, 47, 48, 49] (by decide +kernel) (by decide +kernel)
set_option maxRecDepth 20000 in
theorem gX7_stream_X7_wireWord : GoodIn wsX7_stream (wsV RX7 191 RX7 yX7_wireWord wsX7_wireWord) := goodIn_app (goodIn_of _ (by decide +kernel)) ggX7_stream_X7_wireWord

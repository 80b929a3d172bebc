theorem dX7_tag_7 : decode cX7_tag 7 = .ok (.if_icmp .ge 28, 3) := by decide +kernel
theorem dX7_tag_10 : decode cX7_tag 10 = .ok (.aload_n 0, 1) := by decide +kernel
theorem dX7_tag_11 : decode cX7_tag 11 = .ok (.getfield 60, 3) := by decide +kernel
theorem dX7_tag_14 : decode cX7_tag 14 = .ok (.iload 4, 2) := by decide +kernel
theorem dX7_tag_16 : decode cX7_tag 16 = .ok (.aload_n 0, 1) := by decide +kernel
theorem dX7_tag_17 : decode cX7_tag 17 = .ok (.getfield 16, 3) := by decide +kernel
theorem dX7_tag_20 : decode cX7_tag 20 = .ok (.bipush 32, 2) := by decide +kernel
theorem dX7_tag_22 : decode cX7_tag 22 = .ok (.iload_n 1, 1) := by decide +kernel
theorem dX7_tag_23 : decode cX7_tag 23 = .ok (.imul, 1) := by decide +kernel
theorem dX7_tag_24 : decode cX7_tag 24 = .ok (.iload 4, 2) := by decide +kernel
theorem dX7_tag_26 : decode cX7_tag 26 = .ok (.iadd, 1) := by decide +kernel
theorem dX7_tag_27 : decode cX7_tag 27 = .ok (.iaload, 1) := by decide +kernel
theorem dX7_tag_28 : decode cX7_tag 28 = .ok (.iastore, 1) := by decide +kernel
theorem dX7_tag_29 : decode cX7_tag 29 = .ok (.iinc 4 1, 3) := by decide +kernel
theorem dX7_tag_32 : decode cX7_tag 32 = .ok (.goto (-29), 3) := by decide +kernel
theorem dX7_tag_35 : decode cX7_tag 35 = .ok (.iconst 0, 1) := by decide +kernel
theorem dX7_tag_36 : decode cX7_tag 36 = .ok (.istore 4, 2) := by decide +kernel
theorem dX7_tag_38 : decode cX7_tag 38 = .ok (.iload 4, 2) := by decide +kernel
theorem dX7_tag_40 : decode cX7_tag 40 = .ok (.iload_n 3, 1) := by decide +kernel
theorem dX7_tag_41 : decode cX7_tag 41 = .ok (.if_icmp .ge 29, 3) := by decide +kernel
theorem dX7_tag_44 : decode cX7_tag 44 = .ok (.aload_n 0, 1) := by decide +kernel
theorem dX7_tag_45 : decode cX7_tag 45 = .ok (.getfield 66, 3) := by decide +kernel
theorem dX7_tag_48 : decode cX7_tag 48 = .ok (.iload 4, 2) := by decide +kernel
theorem dX7_tag_50 : decode cX7_tag 50 = .ok (.aload_n 0, 1) := by decide +kernel
theorem dX7_tag_51 : decode cX7_tag 51 = .ok (.getfield 36, 3) := by decide +kernel
theorem dX7_tag_54 : decode cX7_tag 54 = .ok (.sipush 128, 3) := by decide +kernel
theorem dX7_tag_57 : decode cX7_tag 57 = .ok (.iload_n 2, 1) := by decide +kernel
theorem dX7_tag_58 : decode cX7_tag 58 = .ok (.imul, 1) := by decide +kernel
theorem dX7_tag_59 : decode cX7_tag 59 = .ok (.iload 4, 2) := by decide +kernel
theorem dX7_tag_61 : decode cX7_tag 61 = .ok (.iadd, 1) := by decide +kernel
theorem dX7_tag_62 : decode cX7_tag 62 = .ok (.iaload, 1) := by decide +kernel
theorem dX7_tag_63 : decode cX7_tag 63 = .ok (.iastore, 1) := by decide +kernel
theorem dX7_tag_64 : decode cX7_tag 64 = .ok (.iinc 4 1, 3) := by decide +kernel
theorem dX7_tag_67 : decode cX7_tag 67 = .ok (.goto (-29), 3) := by decide +kernel
theorem dX7_tag_70 : decode cX7_tag 70 = .ok (.aload_n 0, 1) := by decide +kernel
theorem dX7_tag_71 : decode cX7_tag 71 = .ok (.iload_n 3, 1) := by decide +kernel
theorem dX7_tag_72 : decode cX7_tag 72 = .ok (.invokevirtual 175, 3) := by decide +kernel
theorem dX7_tag_75 : decode cX7_tag 75 = .ok (.return_, 1) := by decide +kernel
theorem dX7_number_0 : decode cX7_number 0 = .ok (.iconst 0, 1) := by decide +kernel
theorem dX7_number_1 : decode cX7_number 1 = .ok (.istore 5, 2) := by decide +kernel
theorem dX7_number_3 : decode cX7_number 3 = .ok (.iload 5, 2) := by decide +kernel
theorem dX7_number_5 : decode cX7_number 5 = .ok (.iload 4, 2) := by decide +kernel
theorem dX7_number_7 : decode cX7_number 7 = .ok (.if_icmp .ge 35, 3) := by decide +kernel
theorem dX7_number_10 : decode cX7_number 10 = .ok (.aload_n 0, 1) := by decide +kernel
theorem dX7_number_11 : decode cX7_number 11 = .ok (.getfield 36, 3) := by decide +kernel
theorem dX7_number_14 : decode cX7_number 14 = .ok (.iload_n 1, 1) := by decide +kernel
theorem dX7_number_15 : decode cX7_number 15 = .ok (.iload 5, 2) := by decide +kernel
theorem dX7_number_17 : decode cX7_number 17 = .ok (.iadd, 1) := by decide +kernel
theorem dX7_number_18 : decode cX7_number 18 = .ok (.lload_n 2, 1) := by decide +kernel
theorem dX7_number_19 : decode cX7_number 19 = .ok (.bipush 8, 2) := by decide +kernel
theorem dX7_number_21 : decode cX7_number 21 = .ok (.iload 4, 2) := by decide +kernel
theorem dX7_number_23 : decode cX7_number 23 = .ok (.iconst 1, 1) := by decide +kernel
theorem dX7_number_24 : decode cX7_number 24 = .ok (.isub, 1) := by decide +kernel
theorem dX7_number_25 : decode cX7_number 25 = .ok (.iload 5, 2) := by decide +kernel
theorem dX7_number_27 : decode cX7_number 27 = .ok (.isub, 1) := by decide +kernel
theorem dX7_number_28 : decode cX7_number 28 = .ok (.imul, 1) := by decide +kernel
theorem dX7_number_29 : decode cX7_number 29 = .ok (.lushr, 1) := by decide +kernel
theorem dX7_number_30 : decode cX7_number 30 = .ok (.l2i, 1) := by decide +kernel
theorem dX7_number_31 : decode cX7_number 31 = .ok (.sipush 255, 3) := by decide +kernel
theorem dX7_number_34 : decode cX7_number 34 = .ok (.iand, 1) := by decide +kernel
theorem dX7_number_35 : decode cX7_number 35 = .ok (.iastore, 1) := by decide +kernel
theorem dX7_number_36 : decode cX7_number 36 = .ok (.iinc 5 1, 3) := by decide +kernel
theorem dX7_number_39 : decode cX7_number 39 = .ok (.goto (-36), 3) := by decide +kernel
theorem dX7_number_42 : decode cX7_number 42 = .ok (.return_, 1) := by decide +kernel
theorem dX7_numberAt_0 : decode cX7_numberAt 0 = .ok (.lconst 0, 1) := by decide +kernel
theorem dX7_numberAt_1 : decode cX7_numberAt 1 = .ok (.lstore_n 3, 1) := by decide +kernel
theorem dX7_numberAt_2 : decode cX7_numberAt 2 = .ok (.iconst 0, 1) := by decide +kernel
theorem dX7_numberAt_3 : decode cX7_numberAt 3 = .ok (.istore 5, 2) := by decide +kernel
theorem dX7_numberAt_5 : decode cX7_numberAt 5 = .ok (.iload 5, 2) := by decide +kernel
theorem dX7_numberAt_7 : decode cX7_numberAt 7 = .ok (.iload_n 2, 1) := by decide +kernel
theorem dX7_numberAt_8 : decode cX7_numberAt 8 = .ok (.if_icmp .ge 25, 3) := by decide +kernel
theorem dX7_numberAt_11 : decode cX7_numberAt 11 = .ok (.lload_n 3, 1) := by decide +kernel
theorem dX7_numberAt_12 : decode cX7_numberAt 12 = .ok (.bipush 8, 2) := by decide +kernel
theorem dX7_numberAt_14 : decode cX7_numberAt 14 = .ok (.lshl, 1) := by decide +kernel
theorem dX7_numberAt_15 : decode cX7_numberAt 15 = .ok (.aload_n 0, 1) := by decide +kernel
theorem dX7_numberAt_16 : decode cX7_numberAt 16 = .ok (.getfield 36, 3) := by decide +kernel
theorem dX7_numberAt_19 : decode cX7_numberAt 19 = .ok (.iload_n 1, 1) := by decide +kernel
theorem dX7_numberAt_20 : decode cX7_numberAt 20 = .ok (.iload 5, 2) := by decide +kernel
theorem dX7_numberAt_22 : decode cX7_numberAt 22 = .ok (.iadd, 1) := by decide +kernel
theorem dX7_numberAt_23 : decode cX7_numberAt 23 = .ok (.iaload, 1) := by decide +kernel
theorem dX7_numberAt_24 : decode cX7_numberAt 24 = .ok (.i2l, 1) := by decide +kernel
theorem dX7_numberAt_25 : decode cX7_numberAt 25 = .ok (.lor, 1) := by decide +kernel
theorem dX7_numberAt_26 : decode cX7_numberAt 26 = .ok (.lstore_n 3, 1) := by decide +kernel
theorem dX7_numberAt_27 : decode cX7_numberAt 27 = .ok (.iinc 5 1, 3) := by decide +kernel
theorem dX7_numberAt_30 : decode cX7_numberAt 30 = .ok (.goto (-25), 3) := by decide +kernel
theorem dX7_numberAt_33 : decode cX7_numberAt 33 = .ok (.lload_n 3, 1) := by decide +kernel
theorem dX7_numberAt_34 : decode cX7_numberAt 34 = .ok (.lreturn, 1) := by decide +kernel
set_option maxRecDepth 20000 in
theorem ggX7_send_X7_number : GoodIn wsX7_send wsX7_number := goodIn_r _ [13, 3, 78, 79, 80, 81, 82, 83, 84, 85, 86, 87, 88, 89, 90, 91, 92, 93, 94, 95, 96, 97, 98, 99, 100, 101, 102] (by decide +kernel) (by decide +kernel)
set_option maxRecDepth 20000 in
theorem gX7_send_X7_number : GoodIn wsX7_send (wsV RX7 202 RX7 yX7_number wsX7_number) := goodIn_app (goodIn_of _ (by decide +kernel)) ggX7_send_X7_number
set_option maxRecDepth 20000 in
theorem ggX7_send_X7_streamByte : GoodIn wsX7_send wsX7_streamByte := goodIn_r _ [17, 18, 19, 20, 21, 22, 12, 23, 24, 25, 26, 27, 28, 29, 30, 31, 32, 33, 34, 35, 36, 3, 37, 38, 39, 40, 41, 42, 43, 78, 79, 80, 81, 82, 83, 84, 85, 86, 87, 88, 89, 90, 91, 92, 93, 94, 95, 96, 97, 98, 99, 100, 101, 102] (by decide +kernel) (by decide +kernel)
set_option maxRecDepth 20000 in
theorem gX7_send_X7_streamByte : GoodIn wsX7_send (wsV RX7 206 RX7 yX7_streamByte wsX7_streamByte) := goodIn_app (goodIn_of _ (by decide +kernel)) ggX7_send_X7_streamByte

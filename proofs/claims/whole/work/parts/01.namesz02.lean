theorem dX7_setPsk_28 : decode cX7_setPsk 28 = .ok (.iconst 1, 1) := by decide +kernel
theorem dX7_setPsk_29 : decode cX7_setPsk 29 = .ok (.goto 4, 3) := by decide +kernel
theorem dX7_setPsk_32 : decode cX7_setPsk 32 = .ok (.iconst 0, 1) := by decide +kernel
theorem dX7_setPsk_33 : decode cX7_setPsk 33 = .ok (.istore_n 3, 1) := by decide +kernel
theorem dX7_setPsk_34 : decode cX7_setPsk 34 = .ok (.iload_n 3, 1) := by decide +kernel
theorem dX7_setPsk_35 : decode cX7_setPsk 35 = .ok (.ifCond .eq 10, 3) := by decide +kernel
theorem dX7_setPsk_38 : decode cX7_setPsk 38 = .ok (.aload_n 0, 1) := by decide +kernel
theorem dX7_setPsk_39 : decode cX7_setPsk 39 = .ok (.getfield 7, 3) := by decide +kernel
theorem dX7_setPsk_42 : decode cX7_setPsk 42 = .ok (.iload_n 1, 1) := by decide +kernel
theorem dX7_setPsk_43 : decode cX7_setPsk 43 = .ok (.iload_n 2, 1) := by decide +kernel
theorem dX7_setPsk_44 : decode cX7_setPsk 44 = .ok (.iastore, 1) := by decide +kernel
theorem dX7_setPsk_45 : decode cX7_setPsk 45 = .ok (.iload_n 3, 1) := by decide +kernel
theorem dX7_setPsk_46 : decode cX7_setPsk 46 = .ok (.ireturn, 1) := by decide +kernel
set_option maxRecDepth 20000 in
theorem ggX7_open_X7_hmac : GoodIn wsX7_open wsX7_hmac := goodIn_r _ [10, 11, 2, 3, 12, 13, 14, 15, 9, 16, 17, 18, 19, 20, 21, 22, 23, 24, 25, 26, 27, 28, 29, 30, 31, 32, 33, 34, 44, 45, 46, 47, 48, 49, 50, 51, 52, 53, 54, 55, 56, 57, 58, 59, 60, 61, 62, 63, 64, 65, 66, 67, 68] (by decide +kernel) (by decide +kernel)
set_option maxRecDepth 20000 in
theorem gX7_open_X7_hmac : GoodIn wsX7_open (wsV RX7 175 RX7 yX7_hmac wsX7_hmac) := goodIn_app (goodIn_of _ (by decide +kernel)) ggX7_open_X7_hmac
set_option maxRecDepth 20000 in
theorem ggX7_open_X7_makeKeys : GoodIn wsX7_open wsX7_makeKeys := goodIn_r _ [38, 39, 12, 2, 3, 40, 41, 42, 43, 6, 7, 8, 9, 10, 11, 13, 14, 15, 16, 17, 18, 19, 20, 21, 22, 23, 24, 25, 26, 27, 28, 29, 30, 31, 32, 33, 34, 44, 45, 46, 47, 48, 49, 50, 51, 52, 53, 54, 55, 56, 57, 58, 59, 60, 61, 62, 63, 64, 65, 66, 67, 68] (by decide +kernel) (by decide +kernel)
set_option maxRecDepth 20000 in
theorem gX7_open_X7_makeKeys : GoodIn wsX7_open (wsV RX7 178 RX7 yX7_makeKeys wsX7_makeKeys) := goodIn_app (goodIn_of _ (by decide +kernel)) ggX7_open_X7_makeKeys
theorem dX7_open_0 : decode cX7_open 0 = .ok (.iconst 0, 1) := by decide +kernel
theorem dX7_open_1 : decode cX7_open 1 = .ok (.istore_n 1, 1) := by decide +kernel
theorem dX7_open_2 : decode cX7_open 2 = .ok (.iload_n 1, 1) := by decide +kernel
theorem dX7_open_3 : decode cX7_open 3 = .ok (.iconst 2, 1) := by decide +kernel
theorem dX7_open_4 : decode cX7_open 4 = .ok (.if_icmp .ge 67, 3) := by decide +kernel
theorem dX7_open_7 : decode cX7_open 7 = .ok (.aload_n 0, 1) := by decide +kernel
theorem dX7_open_8 : decode cX7_open 8 = .ok (.getfield 145, 3) := by decide +kernel
theorem dX7_open_11 : decode cX7_open 11 = .ok (.ifCond .ne 60, 3) := by decide +kernel
theorem dX7_open_14 : decode cX7_open 14 = .ok (.iconst 0, 1) := by decide +kernel
theorem dX7_open_15 : decode cX7_open 15 = .ok (.istore_n 2, 1) := by decide +kernel
theorem dX7_open_16 : decode cX7_open 16 = .ok (.iload_n 2, 1) := by decide +kernel
theorem dX7_open_17 : decode cX7_open 17 = .ok (.bipush 32, 2) := by decide +kernel
theorem dX7_open_19 : decode cX7_open 19 = .ok (.if_icmp .ge 28, 3) := by decide +kernel
theorem dX7_open_22 : decode cX7_open 22 = .ok (.aload_n 0, 1) := by decide +kernel
theorem dX7_open_23 : decode cX7_open 23 = .ok (.getfield 60, 3) := by decide +kernel
theorem dX7_open_26 : decode cX7_open 26 = .ok (.iload_n 2, 1) := by decide +kernel
theorem dX7_open_27 : decode cX7_open 27 = .ok (.iconst 0, 1) := by decide +kernel
theorem dX7_open_28 : decode cX7_open 28 = .ok (.iastore, 1) := by decide +kernel
theorem dX7_open_29 : decode cX7_open 29 = .ok (.aload_n 0, 1) := by decide +kernel
theorem dX7_open_30 : decode cX7_open 30 = .ok (.getfield 66, 3) := by decide +kernel
theorem dX7_open_33 : decode cX7_open 33 = .ok (.iload_n 2, 1) := by decide +kernel
theorem dX7_open_34 : decode cX7_open 34 = .ok (.aload_n 0, 1) := by decide +kernel
theorem dX7_open_35 : decode cX7_open 35 = .ok (.getfield 7, 3) := by decide +kernel
theorem dX7_open_38 : decode cX7_open 38 = .ok (.iload_n 2, 1) := by decide +kernel
theorem dX7_open_39 : decode cX7_open 39 = .ok (.iaload, 1) := by decide +kernel
theorem dX7_open_40 : decode cX7_open 40 = .ok (.iastore, 1) := by decide +kernel
theorem dX7_open_41 : decode cX7_open 41 = .ok (.iinc 2 1, 3) := by decide +kernel
theorem dX7_open_44 : decode cX7_open 44 = .ok (.goto (-28), 3) := by decide +kernel
theorem dX7_open_47 : decode cX7_open 47 = .ok (.aload_n 0, 1) := by decide +kernel
theorem dX7_open_48 : decode cX7_open 48 = .ok (.bipush 32, 2) := by decide +kernel
theorem dX7_open_50 : decode cX7_open 50 = .ok (.invokevirtual 175, 3) := by decide +kernel
theorem dX7_open_53 : decode cX7_open 53 = .ok (.aload_n 0, 1) := by decide +kernel
theorem dX7_open_54 : decode cX7_open 54 = .ok (.iload_n 1, 1) := by decide +kernel
theorem dX7_open_55 : decode cX7_open 55 = .ok (.invokevirtual 178, 3) := by decide +kernel
theorem dX7_open_58 : decode cX7_open 58 = .ok (.aload_n 0, 1) := by decide +kernel
theorem dX7_open_59 : decode cX7_open 59 = .ok (.getfield 19, 3) := by decide +kernel
theorem dX7_open_62 : decode cX7_open 62 = .ok (.iload_n 1, 1) := by decide +kernel
theorem dX7_open_63 : decode cX7_open 63 = .ok (.iconst 0, 1) := by decide +kernel
theorem dX7_open_64 : decode cX7_open 64 = .ok (.iastore, 1) := by decide +kernel
theorem dX7_open_65 : decode cX7_open 65 = .ok (.iinc 1 1, 3) := by decide +kernel
theorem dX7_open_68 : decode cX7_open 68 = .ok (.goto (-66), 3) := by decide +kernel
theorem dX7_open_71 : decode cX7_open 71 = .ok (.aload_n 0, 1) := by decide +kernel
theorem dX7_open_72 : decode cX7_open 72 = .ok (.iconst 1, 1) := by decide +kernel
theorem dX7_open_73 : decode cX7_open 73 = .ok (.putfield 145, 3) := by decide +kernel
theorem dX7_open_76 : decode cX7_open 76 = .ok (.return_, 1) := by decide +kernel

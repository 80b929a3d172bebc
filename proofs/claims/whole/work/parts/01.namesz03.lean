set_option maxRecDepth 20000 in
theorem ggX7_rekey_X7_hmac : GoodIn wsX7_rekey wsX7_hmac := goodIn_r _ [11, 12, 2, 4, 13, 14, 15, 16, 10, 17, 18, 19, 20, 21, 22, 23, 24, 25, 26, 27, 28, 29, 30, 31, 32, 33, 34, 35, 43, 44, 45, 46, 47, 48, 49, 50, 51, 52, 53, 54, 55, 56, 57, 58, 59, 60, 61, 62, 63, 64, 65, 66, 67] (by decide +kernel) (by decide +kernel)
set_option maxRecDepth 20000 in
theorem gX7_rekey_X7_hmac : GoodIn wsX7_rekey (wsV RX7 175 RX7 yX7_hmac wsX7_hmac) := goodIn_app (goodIn_of _ (by decide +kernel)) ggX7_rekey_X7_hmac
set_option maxRecDepth 20000 in
theorem ggX7_rekey_X7_makeKeys : GoodIn wsX7_rekey wsX7_makeKeys := goodIn_r _ [39, 40, 13, 2, 4, 5, 3, 41, 42, 7, 8, 9, 10, 11, 12, 14, 15, 16, 17, 18, 19, 20, 21, 22, 23, 24, 25, 26, 27, 28, 29, 30, 31, 32, 33, 34, 35, 43, 44, 45, 46, 47, 48, 49, 50, 51, 52, 53, 54, 55, 56, 57, 58, 59, 60, 61, 62, 63, 64, 65, 66, 67] (by decide +kernel) (by decide +kernel)
set_option maxRecDepth 20000 in
theorem gX7_rekey_X7_makeKeys : GoodIn wsX7_rekey (wsV RX7 178 RX7 yX7_makeKeys wsX7_makeKeys) := goodIn_app (goodIn_of _ (by decide +kernel)) ggX7_rekey_X7_makeKeys
theorem dX7_rekey_0 : decode cX7_rekey 0 = .ok (.iload_n 1, 1) := by decide +kernel
theorem dX7_rekey_1 : decode cX7_rekey 1 = .ok (.ifCond .eq 8, 3) := by decide +kernel
theorem dX7_rekey_4 : decode cX7_rekey 4 = .ok (.iload_n 1, 1) := by decide +kernel
theorem dX7_rekey_5 : decode cX7_rekey 5 = .ok (.iconst 1, 1) := by decide +kernel
theorem dX7_rekey_6 : decode cX7_rekey 6 = .ok (.if_icmp .ne 10, 3) := by decide +kernel
theorem dX7_rekey_9 : decode cX7_rekey 9 = .ok (.aload_n 0, 1) := by decide +kernel
theorem dX7_rekey_10 : decode cX7_rekey 10 = .ok (.getfield 145, 3) := by decide +kernel
theorem dX7_rekey_13 : decode cX7_rekey 13 = .ok (.ifCond .ne 5, 3) := by decide +kernel
theorem dX7_rekey_16 : decode cX7_rekey 16 = .ok (.iconst (-1), 1) := by decide +kernel
theorem dX7_rekey_17 : decode cX7_rekey 17 = .ok (.ireturn, 1) := by decide +kernel
theorem dX7_rekey_18 : decode cX7_rekey 18 = .ok (.iconst 0, 1) := by decide +kernel
theorem dX7_rekey_19 : decode cX7_rekey 19 = .ok (.istore_n 2, 1) := by decide +kernel
theorem dX7_rekey_20 : decode cX7_rekey 20 = .ok (.iload_n 2, 1) := by decide +kernel
theorem dX7_rekey_21 : decode cX7_rekey 21 = .ok (.bipush 32, 2) := by decide +kernel
theorem dX7_rekey_23 : decode cX7_rekey 23 = .ok (.if_icmp .ge 43, 3) := by decide +kernel
theorem dX7_rekey_26 : decode cX7_rekey 26 = .ok (.aload_n 0, 1) := by decide +kernel
theorem dX7_rekey_27 : decode cX7_rekey 27 = .ok (.getfield 60, 3) := by decide +kernel
theorem dX7_rekey_30 : decode cX7_rekey 30 = .ok (.iload_n 2, 1) := by decide +kernel
theorem dX7_rekey_31 : decode cX7_rekey 31 = .ok (.aload_n 0, 1) := by decide +kernel
theorem dX7_rekey_32 : decode cX7_rekey 32 = .ok (.getfield 16, 3) := by decide +kernel
theorem dX7_rekey_35 : decode cX7_rekey 35 = .ok (.bipush 32, 2) := by decide +kernel
theorem dX7_rekey_37 : decode cX7_rekey 37 = .ok (.iload_n 1, 1) := by decide +kernel
theorem dX7_rekey_38 : decode cX7_rekey 38 = .ok (.imul, 1) := by decide +kernel
theorem dX7_rekey_39 : decode cX7_rekey 39 = .ok (.iload_n 2, 1) := by decide +kernel
theorem dX7_rekey_40 : decode cX7_rekey 40 = .ok (.iadd, 1) := by decide +kernel
theorem dX7_rekey_41 : decode cX7_rekey 41 = .ok (.iaload, 1) := by decide +kernel
theorem dX7_rekey_42 : decode cX7_rekey 42 = .ok (.iastore, 1) := by decide +kernel
theorem dX7_rekey_43 : decode cX7_rekey 43 = .ok (.aload_n 0, 1) := by decide +kernel
theorem dX7_rekey_44 : decode cX7_rekey 44 = .ok (.getfield 66, 3) := by decide +kernel
theorem dX7_rekey_47 : decode cX7_rekey 47 = .ok (.iload_n 2, 1) := by decide +kernel
theorem dX7_rekey_48 : decode cX7_rekey 48 = .ok (.aload_n 0, 1) := by decide +kernel
theorem dX7_rekey_49 : decode cX7_rekey 49 = .ok (.getfield 13, 3) := by decide +kernel
theorem dX7_rekey_52 : decode cX7_rekey 52 = .ok (.bipush 32, 2) := by decide +kernel
theorem dX7_rekey_54 : decode cX7_rekey 54 = .ok (.iload_n 1, 1) := by decide +kernel
theorem dX7_rekey_55 : decode cX7_rekey 55 = .ok (.imul, 1) := by decide +kernel
theorem dX7_rekey_56 : decode cX7_rekey 56 = .ok (.iload_n 2, 1) := by decide +kernel
theorem dX7_rekey_57 : decode cX7_rekey 57 = .ok (.iadd, 1) := by decide +kernel
theorem dX7_rekey_58 : decode cX7_rekey 58 = .ok (.iaload, 1) := by decide +kernel
theorem dX7_rekey_59 : decode cX7_rekey 59 = .ok (.iastore, 1) := by decide +kernel
theorem dX7_rekey_60 : decode cX7_rekey 60 = .ok (.iinc 2 1, 3) := by decide +kernel
theorem dX7_rekey_63 : decode cX7_rekey 63 = .ok (.goto (-43), 3) := by decide +kernel
theorem dX7_rekey_66 : decode cX7_rekey 66 = .ok (.aload_n 0, 1) := by decide +kernel
theorem dX7_rekey_67 : decode cX7_rekey 67 = .ok (.bipush 32, 2) := by decide +kernel
theorem dX7_rekey_69 : decode cX7_rekey 69 = .ok (.invokevirtual 175, 3) := by decide +kernel
theorem dX7_rekey_72 : decode cX7_rekey 72 = .ok (.aload_n 0, 1) := by decide +kernel
theorem dX7_rekey_73 : decode cX7_rekey 73 = .ok (.iload_n 1, 1) := by decide +kernel
theorem dX7_rekey_74 : decode cX7_rekey 74 = .ok (.invokevirtual 178, 3) := by decide +kernel
theorem dX7_rekey_77 : decode cX7_rekey 77 = .ok (.aload_n 0, 1) := by decide +kernel
theorem dX7_rekey_78 : decode cX7_rekey 78 = .ok (.getfield 19, 3) := by decide +kernel
theorem dX7_rekey_81 : decode cX7_rekey 81 = .ok (.iload_n 1, 1) := by decide +kernel
theorem dX7_rekey_82 : decode cX7_rekey 82 = .ok (.dup2, 1) := by decide +kernel
theorem dX7_rekey_83 : decode cX7_rekey 83 = .ok (.iaload, 1) := by decide +kernel
theorem dX7_rekey_84 : decode cX7_rekey 84 = .ok (.iconst 1, 1) := by decide +kernel
theorem dX7_rekey_85 : decode cX7_rekey 85 = .ok (.iadd, 1) := by decide +kernel
theorem dX7_rekey_86 : decode cX7_rekey 86 = .ok (.iastore, 1) := by decide +kernel
theorem dX7_rekey_87 : decode cX7_rekey 87 = .ok (.aload_n 0, 1) := by decide +kernel
theorem dX7_rekey_88 : decode cX7_rekey 88 = .ok (.getfield 19, 3) := by decide +kernel
theorem dX7_rekey_91 : decode cX7_rekey 91 = .ok (.iload_n 1, 1) := by decide +kernel
theorem dX7_rekey_92 : decode cX7_rekey 92 = .ok (.iaload, 1) := by decide +kernel
theorem dX7_rekey_93 : decode cX7_rekey 93 = .ok (.ireturn, 1) := by decide +kernel
theorem dX7_left_0 : decode cX7_left 0 = .ok (.iload_n 0, 1) := by decide +kernel
theorem dX7_left_1 : decode cX7_left 1 = .ok (.iload_n 1, 1) := by decide +kernel
theorem dX7_left_2 : decode cX7_left 2 = .ok (.ishl, 1) := by decide +kernel
theorem dX7_left_3 : decode cX7_left 3 = .ok (.iload_n 0, 1) := by decide +kernel
theorem dX7_left_4 : decode cX7_left 4 = .ok (.bipush 32, 2) := by decide +kernel
theorem dX7_left_6 : decode cX7_left 6 = .ok (.iload_n 1, 1) := by decide +kernel
theorem dX7_left_7 : decode cX7_left 7 = .ok (.isub, 1) := by decide +kernel
theorem dX7_left_8 : decode cX7_left 8 = .ok (.iushr, 1) := by decide +kernel
theorem dX7_left_9 : decode cX7_left 9 = .ok (.ior, 1) := by decide +kernel
theorem dX7_left_10 : decode cX7_left 10 = .ok (.ireturn, 1) := by decide +kernel

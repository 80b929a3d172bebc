set_option maxRecDepth 20000 in
theorem ggX7_quarter_X7_left : GoodIn wsX7_quarter wsX7_left := goodIn_r _ [5] (by decide +kernel) (by decide +kernel)
set_option maxRecDepth 20000 in
theorem gX7_quarter_X7_left : GoodIn wsX7_quarter (va_wsS RX7 181 yX7_left wsX7_left) := goodIn_app (goodIn_of _ (by decide +kernel)) ggX7_quarter_X7_left
theorem dX7_quarter_0 : decode cX7_quarter 0 = .ok (.aload_n 0, 1) := by decide +kernel
theorem dX7_quarter_1 : decode cX7_quarter 1 = .ok (.getfield 139, 3) := by decide +kernel
theorem dX7_quarter_4 : decode cX7_quarter 4 = .ok (.iload_n 2, 1) := by decide +kernel
theorem dX7_quarter_5 : decode cX7_quarter 5 = .ok (.dup2, 1) := by decide +kernel
theorem dX7_quarter_6 : decode cX7_quarter 6 = .ok (.iaload, 1) := by decide +kernel
theorem dX7_quarter_7 : decode cX7_quarter 7 = .ok (.aload_n 0, 1) := by decide +kernel
theorem dX7_quarter_8 : decode cX7_quarter 8 = .ok (.getfield 139, 3) := by decide +kernel
theorem dX7_quarter_11 : decode cX7_quarter 11 = .ok (.iload_n 1, 1) := by decide +kernel
theorem dX7_quarter_12 : decode cX7_quarter 12 = .ok (.iaload, 1) := by decide +kernel
theorem dX7_quarter_13 : decode cX7_quarter 13 = .ok (.aload_n 0, 1) := by decide +kernel
theorem dX7_quarter_14 : decode cX7_quarter 14 = .ok (.getfield 139, 3) := by decide +kernel
theorem dX7_quarter_17 : decode cX7_quarter 17 = .ok (.iload 4, 2) := by decide +kernel
theorem dX7_quarter_19 : decode cX7_quarter 19 = .ok (.iaload, 1) := by decide +kernel
theorem dX7_quarter_20 : decode cX7_quarter 20 = .ok (.iadd, 1) := by decide +kernel
theorem dX7_quarter_21 : decode cX7_quarter 21 = .ok (.bipush 7, 2) := by decide +kernel
theorem dX7_quarter_23 : decode cX7_quarter 23 = .ok (.invokestatic 181, 3) := by decide +kernel
theorem dX7_quarter_26 : decode cX7_quarter 26 = .ok (.ixor, 1) := by decide +kernel
theorem dX7_quarter_27 : decode cX7_quarter 27 = .ok (.iastore, 1) := by decide +kernel
theorem dX7_quarter_28 : decode cX7_quarter 28 = .ok (.aload_n 0, 1) := by decide +kernel
theorem dX7_quarter_29 : decode cX7_quarter 29 = .ok (.getfield 139, 3) := by decide +kernel
theorem dX7_quarter_32 : decode cX7_quarter 32 = .ok (.iload_n 3, 1) := by decide +kernel
theorem dX7_quarter_33 : decode cX7_quarter 33 = .ok (.dup2, 1) := by decide +kernel
theorem dX7_quarter_34 : decode cX7_quarter 34 = .ok (.iaload, 1) := by decide +kernel
theorem dX7_quarter_35 : decode cX7_quarter 35 = .ok (.aload_n 0, 1) := by decide +kernel
theorem dX7_quarter_36 : decode cX7_quarter 36 = .ok (.getfield 139, 3) := by decide +kernel
theorem dX7_quarter_39 : decode cX7_quarter 39 = .ok (.iload_n 2, 1) := by decide +kernel
theorem dX7_quarter_40 : decode cX7_quarter 40 = .ok (.iaload, 1) := by decide +kernel
theorem dX7_quarter_41 : decode cX7_quarter 41 = .ok (.aload_n 0, 1) := by decide +kernel
theorem dX7_quarter_42 : decode cX7_quarter 42 = .ok (.getfield 139, 3) := by decide +kernel
theorem dX7_quarter_45 : decode cX7_quarter 45 = .ok (.iload_n 1, 1) := by decide +kernel
theorem dX7_quarter_46 : decode cX7_quarter 46 = .ok (.iaload, 1) := by decide +kernel
theorem dX7_quarter_47 : decode cX7_quarter 47 = .ok (.iadd, 1) := by decide +kernel
theorem dX7_quarter_48 : decode cX7_quarter 48 = .ok (.bipush 9, 2) := by decide +kernel
theorem dX7_quarter_50 : decode cX7_quarter 50 = .ok (.invokestatic 181, 3) := by decide +kernel
theorem dX7_quarter_53 : decode cX7_quarter 53 = .ok (.ixor, 1) := by decide +kernel
theorem dX7_quarter_54 : decode cX7_quarter 54 = .ok (.iastore, 1) := by decide +kernel
theorem dX7_quarter_55 : decode cX7_quarter 55 = .ok (.aload_n 0, 1) := by decide +kernel
theorem dX7_quarter_56 : decode cX7_quarter 56 = .ok (.getfield 139, 3) := by decide +kernel
theorem dX7_quarter_59 : decode cX7_quarter 59 = .ok (.iload 4, 2) := by decide +kernel
theorem dX7_quarter_61 : decode cX7_quarter 61 = .ok (.dup2, 1) := by decide +kernel
theorem dX7_quarter_62 : decode cX7_quarter 62 = .ok (.iaload, 1) := by decide +kernel
theorem dX7_quarter_63 : decode cX7_quarter 63 = .ok (.aload_n 0, 1) := by decide +kernel
theorem dX7_quarter_64 : decode cX7_quarter 64 = .ok (.getfield 139, 3) := by decide +kernel
theorem dX7_quarter_67 : decode cX7_quarter 67 = .ok (.iload_n 3, 1) := by decide +kernel
theorem dX7_quarter_68 : decode cX7_quarter 68 = .ok (.iaload, 1) := by decide +kernel
theorem dX7_quarter_69 : decode cX7_quarter 69 = .ok (.aload_n 0, 1) := by decide +kernel
theorem dX7_quarter_70 : decode cX7_quarter 70 = .ok (.getfield 139, 3) := by decide +kernel
theorem dX7_quarter_73 : decode cX7_quarter 73 = .ok (.iload_n 2, 1) := by decide +kernel
theorem dX7_quarter_74 : decode cX7_quarter 74 = .ok (.iaload, 1) := by decide +kernel
theorem dX7_quarter_75 : decode cX7_quarter 75 = .ok (.iadd, 1) := by decide +kernel
theorem dX7_quarter_76 : decode cX7_quarter 76 = .ok (.bipush 13, 2) := by decide +kernel
theorem dX7_quarter_78 : decode cX7_quarter 78 = .ok (.invokestatic 181, 3) := by decide +kernel
theorem dX7_quarter_81 : decode cX7_quarter 81 = .ok (.ixor, 1) := by decide +kernel
theorem dX7_quarter_82 : decode cX7_quarter 82 = .ok (.iastore, 1) := by decide +kernel
theorem dX7_quarter_83 : decode cX7_quarter 83 = .ok (.aload_n 0, 1) := by decide +kernel
theorem dX7_quarter_84 : decode cX7_quarter 84 = .ok (.getfield 139, 3) := by decide +kernel
theorem dX7_quarter_87 : decode cX7_quarter 87 = .ok (.iload_n 1, 1) := by decide +kernel
theorem dX7_quarter_88 : decode cX7_quarter 88 = .ok (.dup2, 1) := by decide +kernel
theorem dX7_quarter_89 : decode cX7_quarter 89 = .ok (.iaload, 1) := by decide +kernel
theorem dX7_quarter_90 : decode cX7_quarter 90 = .ok (.aload_n 0, 1) := by decide +kernel
theorem dX7_quarter_91 : decode cX7_quarter 91 = .ok (.getfield 139, 3) := by decide +kernel
theorem dX7_quarter_94 : decode cX7_quarter 94 = .ok (.iload 4, 2) := by decide +kernel
theorem dX7_quarter_96 : decode cX7_quarter 96 = .ok (.iaload, 1) := by decide +kernel
theorem dX7_quarter_97 : decode cX7_quarter 97 = .ok (.aload_n 0, 1) := by decide +kernel
theorem dX7_quarter_98 : decode cX7_quarter 98 = .ok (.getfield 139, 3) := by decide +kernel
theorem dX7_quarter_101 : decode cX7_quarter 101 = .ok (.iload_n 3, 1) := by decide +kernel
theorem dX7_quarter_102 : decode cX7_quarter 102 = .ok (.iaload, 1) := by decide +kernel
theorem dX7_quarter_103 : decode cX7_quarter 103 = .ok (.iadd, 1) := by decide +kernel
theorem dX7_quarter_104 : decode cX7_quarter 104 = .ok (.bipush 18, 2) := by decide +kernel
theorem dX7_quarter_106 : decode cX7_quarter 106 = .ok (.invokestatic 181, 3) := by decide +kernel
theorem dX7_quarter_109 : decode cX7_quarter 109 = .ok (.ixor, 1) := by decide +kernel
theorem dX7_quarter_110 : decode cX7_quarter 110 = .ok (.iastore, 1) := by decide +kernel
theorem dX7_quarter_111 : decode cX7_quarter 111 = .ok (.return_, 1) := by decide +kernel
theorem dX7_keyWord_0 : decode cX7_keyWord 0 = .ok (.bipush 32, 2) := by decide +kernel
theorem dX7_keyWord_2 : decode cX7_keyWord 2 = .ok (.iload_n 1, 1) := by decide +kernel
theorem dX7_keyWord_3 : decode cX7_keyWord 3 = .ok (.imul, 1) := by decide +kernel
theorem dX7_keyWord_4 : decode cX7_keyWord 4 = .ok (.iconst 4, 1) := by decide +kernel
theorem dX7_keyWord_5 : decode cX7_keyWord 5 = .ok (.iload_n 2, 1) := by decide +kernel
theorem dX7_keyWord_6 : decode cX7_keyWord 6 = .ok (.imul, 1) := by decide +kernel
theorem dX7_keyWord_7 : decode cX7_keyWord 7 = .ok (.iadd, 1) := by decide +kernel
theorem dX7_keyWord_8 : decode cX7_keyWord 8 = .ok (.istore_n 3, 1) := by decide +kernel
theorem dX7_keyWord_9 : decode cX7_keyWord 9 = .ok (.aload_n 0, 1) := by decide +kernel
theorem dX7_keyWord_10 : decode cX7_keyWord 10 = .ok (.getfield 13, 3) := by decide +kernel
theorem dX7_keyWord_13 : decode cX7_keyWord 13 = .ok (.iload_n 3, 1) := by decide +kernel
theorem dX7_keyWord_14 : decode cX7_keyWord 14 = .ok (.iaload, 1) := by decide +kernel
theorem dX7_keyWord_15 : decode cX7_keyWord 15 = .ok (.aload_n 0, 1) := by decide +kernel
theorem dX7_keyWord_16 : decode cX7_keyWord 16 = .ok (.getfield 13, 3) := by decide +kernel
theorem dX7_keyWord_19 : decode cX7_keyWord 19 = .ok (.iload_n 3, 1) := by decide +kernel
theorem dX7_keyWord_20 : decode cX7_keyWord 20 = .ok (.iconst 1, 1) := by decide +kernel
theorem dX7_keyWord_21 : decode cX7_keyWord 21 = .ok (.iadd, 1) := by decide +kernel
theorem dX7_keyWord_22 : decode cX7_keyWord 22 = .ok (.iaload, 1) := by decide +kernel
theorem dX7_keyWord_23 : decode cX7_keyWord 23 = .ok (.bipush 8, 2) := by decide +kernel
theorem dX7_keyWord_25 : decode cX7_keyWord 25 = .ok (.ishl, 1) := by decide +kernel
theorem dX7_keyWord_26 : decode cX7_keyWord 26 = .ok (.ior, 1) := by decide +kernel
theorem dX7_keyWord_27 : decode cX7_keyWord 27 = .ok (.aload_n 0, 1) := by decide +kernel
theorem dX7_keyWord_28 : decode cX7_keyWord 28 = .ok (.getfield 13, 3) := by decide +kernel
theorem dX7_keyWord_31 : decode cX7_keyWord 31 = .ok (.iload_n 3, 1) := by decide +kernel
theorem dX7_keyWord_32 : decode cX7_keyWord 32 = .ok (.iconst 2, 1) := by decide +kernel
theorem dX7_keyWord_33 : decode cX7_keyWord 33 = .ok (.iadd, 1) := by decide +kernel
theorem dX7_keyWord_34 : decode cX7_keyWord 34 = .ok (.iaload, 1) := by decide +kernel
theorem dX7_keyWord_35 : decode cX7_keyWord 35 = .ok (.bipush 16, 2) := by decide +kernel
theorem dX7_keyWord_37 : decode cX7_keyWord 37 = .ok (.ishl, 1) := by decide +kernel
theorem dX7_keyWord_38 : decode cX7_keyWord 38 = .ok (.ior, 1) := by decide +kernel
theorem dX7_keyWord_39 : decode cX7_keyWord 39 = .ok (.aload_n 0, 1) := by decide +kernel
theorem dX7_keyWord_40 : decode cX7_keyWord 40 = .ok (.getfield 13, 3) := by decide +kernel
theorem dX7_keyWord_43 : decode cX7_keyWord 43 = .ok (.iload_n 3, 1) := by decide +kernel
theorem dX7_keyWord_44 : decode cX7_keyWord 44 = .ok (.iconst 3, 1) := by decide +kernel
theorem dX7_keyWord_45 : decode cX7_keyWord 45 = .ok (.iadd, 1) := by decide +kernel

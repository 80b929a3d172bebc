theorem dX4_fillSchedule_24 : decode cX4_fillSchedule 24 = .ok (.iaload, 1) := by decide +kernel
theorem dX4_fillSchedule_25 : decode cX4_fillSchedule 25 = .ok (.bipush 24, 2) := by decide +kernel
theorem dX4_fillSchedule_27 : decode cX4_fillSchedule 27 = .ok (.ishl, 1) := by decide +kernel
theorem dX4_fillSchedule_28 : decode cX4_fillSchedule 28 = .ok (.aload_n 0, 1) := by decide +kernel
theorem dX4_fillSchedule_29 : decode cX4_fillSchedule 29 = .ok (.getfield 9, 3) := by decide +kernel
theorem dX4_fillSchedule_32 : decode cX4_fillSchedule 32 = .ok (.iload_n 3, 1) := by decide +kernel
theorem dX4_fillSchedule_33 : decode cX4_fillSchedule 33 = .ok (.iconst 1, 1) := by decide +kernel
theorem dX4_fillSchedule_34 : decode cX4_fillSchedule 34 = .ok (.iadd, 1) := by decide +kernel
theorem dX4_fillSchedule_35 : decode cX4_fillSchedule 35 = .ok (.iaload, 1) := by decide +kernel
theorem dX4_fillSchedule_36 : decode cX4_fillSchedule 36 = .ok (.bipush 16, 2) := by decide +kernel
theorem dX4_fillSchedule_38 : decode cX4_fillSchedule 38 = .ok (.ishl, 1) := by decide +kernel
theorem dX4_fillSchedule_39 : decode cX4_fillSchedule 39 = .ok (.ior, 1) := by decide +kernel
theorem dX4_fillSchedule_40 : decode cX4_fillSchedule 40 = .ok (.aload_n 0, 1) := by decide +kernel
theorem dX4_fillSchedule_41 : decode cX4_fillSchedule 41 = .ok (.getfield 9, 3) := by decide +kernel
theorem dX4_fillSchedule_44 : decode cX4_fillSchedule 44 = .ok (.iload_n 3, 1) := by decide +kernel
theorem dX4_fillSchedule_45 : decode cX4_fillSchedule 45 = .ok (.iconst 2, 1) := by decide +kernel
theorem dX4_fillSchedule_46 : decode cX4_fillSchedule 46 = .ok (.iadd, 1) := by decide +kernel
theorem dX4_fillSchedule_47 : decode cX4_fillSchedule 47 = .ok (.iaload, 1) := by decide +kernel
theorem dX4_fillSchedule_48 : decode cX4_fillSchedule 48 = .ok (.bipush 8, 2) := by decide +kernel
theorem dX4_fillSchedule_50 : decode cX4_fillSchedule 50 = .ok (.ishl, 1) := by decide +kernel
theorem dX4_fillSchedule_51 : decode cX4_fillSchedule 51 = .ok (.ior, 1) := by decide +kernel
theorem dX4_fillSchedule_52 : decode cX4_fillSchedule 52 = .ok (.aload_n 0, 1) := by decide +kernel
theorem dX4_fillSchedule_53 : decode cX4_fillSchedule 53 = .ok (.getfield 9, 3) := by decide +kernel
theorem dX4_fillSchedule_56 : decode cX4_fillSchedule 56 = .ok (.iload_n 3, 1) := by decide +kernel
theorem dX4_fillSchedule_57 : decode cX4_fillSchedule 57 = .ok (.iconst 3, 1) := by decide +kernel
theorem dX4_fillSchedule_58 : decode cX4_fillSchedule 58 = .ok (.iadd, 1) := by decide +kernel
theorem dX4_fillSchedule_59 : decode cX4_fillSchedule 59 = .ok (.iaload, 1) := by decide +kernel
theorem dX4_fillSchedule_60 : decode cX4_fillSchedule 60 = .ok (.ior, 1) := by decide +kernel
theorem dX4_fillSchedule_61 : decode cX4_fillSchedule 61 = .ok (.iastore, 1) := by decide +kernel
theorem dX4_fillSchedule_62 : decode cX4_fillSchedule 62 = .ok (.iinc 2 1, 3) := by decide +kernel
theorem dX4_fillSchedule_65 : decode cX4_fillSchedule 65 = .ok (.goto (-63), 3) := by decide +kernel
theorem dX4_fillSchedule_68 : decode cX4_fillSchedule 68 = .ok (.bipush 16, 2) := by decide +kernel
theorem dX4_fillSchedule_70 : decode cX4_fillSchedule 70 = .ok (.istore_n 2, 1) := by decide +kernel
theorem dX4_fillSchedule_71 : decode cX4_fillSchedule 71 = .ok (.iload_n 2, 1) := by decide +kernel
theorem dX4_fillSchedule_72 : decode cX4_fillSchedule 72 = .ok (.bipush 64, 2) := by decide +kernel
theorem dX4_fillSchedule_74 : decode cX4_fillSchedule 74 = .ok (.if_icmp .ge 102, 3) := by decide +kernel
theorem dX4_fillSchedule_77 : decode cX4_fillSchedule 77 = .ok (.aload_n 0, 1) := by decide +kernel
theorem dX4_fillSchedule_78 : decode cX4_fillSchedule 78 = .ok (.getfield 13, 3) := by decide +kernel
theorem dX4_fillSchedule_81 : decode cX4_fillSchedule 81 = .ok (.iload_n 2, 1) := by decide +kernel
theorem dX4_fillSchedule_82 : decode cX4_fillSchedule 82 = .ok (.iconst 2, 1) := by decide +kernel
theorem dX4_fillSchedule_83 : decode cX4_fillSchedule 83 = .ok (.isub, 1) := by decide +kernel
theorem dX4_fillSchedule_84 : decode cX4_fillSchedule 84 = .ok (.iaload, 1) := by decide +kernel
theorem dX4_fillSchedule_85 : decode cX4_fillSchedule 85 = .ok (.istore_n 3, 1) := by decide +kernel
theorem dX4_fillSchedule_86 : decode cX4_fillSchedule 86 = .ok (.aload_n 0, 1) := by decide +kernel
theorem dX4_fillSchedule_87 : decode cX4_fillSchedule 87 = .ok (.getfield 13, 3) := by decide +kernel
theorem dX4_fillSchedule_90 : decode cX4_fillSchedule 90 = .ok (.iload_n 2, 1) := by decide +kernel
theorem dX4_fillSchedule_91 : decode cX4_fillSchedule 91 = .ok (.bipush 15, 2) := by decide +kernel
theorem dX4_fillSchedule_93 : decode cX4_fillSchedule 93 = .ok (.isub, 1) := by decide +kernel
theorem dX4_fillSchedule_94 : decode cX4_fillSchedule 94 = .ok (.iaload, 1) := by decide +kernel
theorem dX4_fillSchedule_95 : decode cX4_fillSchedule 95 = .ok (.istore 4, 2) := by decide +kernel
theorem dX4_fillSchedule_97 : decode cX4_fillSchedule 97 = .ok (.iload_n 3, 1) := by decide +kernel
theorem dX4_fillSchedule_98 : decode cX4_fillSchedule 98 = .ok (.bipush 17, 2) := by decide +kernel
theorem dX4_fillSchedule_100 : decode cX4_fillSchedule 100 = .ok (.invokestatic 41, 3) := by decide +kernel
theorem dX4_fillSchedule_103 : decode cX4_fillSchedule 103 = .ok (.iload_n 3, 1) := by decide +kernel
theorem dX4_fillSchedule_104 : decode cX4_fillSchedule 104 = .ok (.bipush 19, 2) := by decide +kernel
theorem dX4_fillSchedule_106 : decode cX4_fillSchedule 106 = .ok (.invokestatic 41, 3) := by decide +kernel
theorem dX4_fillSchedule_109 : decode cX4_fillSchedule 109 = .ok (.ixor, 1) := by decide +kernel
theorem dX4_fillSchedule_110 : decode cX4_fillSchedule 110 = .ok (.iload_n 3, 1) := by decide +kernel
theorem dX4_fillSchedule_111 : decode cX4_fillSchedule 111 = .ok (.bipush 10, 2) := by decide +kernel
theorem dX4_fillSchedule_113 : decode cX4_fillSchedule 113 = .ok (.iushr, 1) := by decide +kernel
theorem dX4_fillSchedule_114 : decode cX4_fillSchedule 114 = .ok (.ixor, 1) := by decide +kernel
theorem dX4_fillSchedule_115 : decode cX4_fillSchedule 115 = .ok (.istore 5, 2) := by decide +kernel
theorem dX4_fillSchedule_117 : decode cX4_fillSchedule 117 = .ok (.iload 4, 2) := by decide +kernel
theorem dX4_fillSchedule_119 : decode cX4_fillSchedule 119 = .ok (.bipush 7, 2) := by decide +kernel
theorem dX4_fillSchedule_121 : decode cX4_fillSchedule 121 = .ok (.invokestatic 41, 3) := by decide +kernel
theorem dX4_fillSchedule_124 : decode cX4_fillSchedule 124 = .ok (.iload 4, 2) := by decide +kernel
theorem dX4_fillSchedule_126 : decode cX4_fillSchedule 126 = .ok (.bipush 18, 2) := by decide +kernel
theorem dX4_fillSchedule_128 : decode cX4_fillSchedule 128 = .ok (.invokestatic 41, 3) := by decide +kernel
theorem dX4_fillSchedule_131 : decode cX4_fillSchedule 131 = .ok (.ixor, 1) := by decide +kernel
theorem dX4_fillSchedule_132 : decode cX4_fillSchedule 132 = .ok (.iload 4, 2) := by decide +kernel
theorem dX4_fillSchedule_134 : decode cX4_fillSchedule 134 = .ok (.iconst 3, 1) := by decide +kernel
theorem dX4_fillSchedule_135 : decode cX4_fillSchedule 135 = .ok (.iushr, 1) := by decide +kernel
theorem dX4_fillSchedule_136 : decode cX4_fillSchedule 136 = .ok (.ixor, 1) := by decide +kernel
theorem dX4_fillSchedule_137 : decode cX4_fillSchedule 137 = .ok (.istore 6, 2) := by decide +kernel
theorem dX4_fillSchedule_139 : decode cX4_fillSchedule 139 = .ok (.aload_n 0, 1) := by decide +kernel
theorem dX4_fillSchedule_140 : decode cX4_fillSchedule 140 = .ok (.getfield 13, 3) := by decide +kernel
theorem dX4_fillSchedule_143 : decode cX4_fillSchedule 143 = .ok (.iload_n 2, 1) := by decide +kernel
theorem dX4_fillSchedule_144 : decode cX4_fillSchedule 144 = .ok (.iload 5, 2) := by decide +kernel
theorem dX4_fillSchedule_146 : decode cX4_fillSchedule 146 = .ok (.aload_n 0, 1) := by decide +kernel
theorem dX4_fillSchedule_147 : decode cX4_fillSchedule 147 = .ok (.getfield 13, 3) := by decide +kernel
theorem dX4_fillSchedule_150 : decode cX4_fillSchedule 150 = .ok (.iload_n 2, 1) := by decide +kernel
theorem dX4_fillSchedule_151 : decode cX4_fillSchedule 151 = .ok (.bipush 7, 2) := by decide +kernel
theorem dX4_fillSchedule_153 : decode cX4_fillSchedule 153 = .ok (.isub, 1) := by decide +kernel
theorem dX4_fillSchedule_154 : decode cX4_fillSchedule 154 = .ok (.iaload, 1) := by decide +kernel
theorem dX4_fillSchedule_155 : decode cX4_fillSchedule 155 = .ok (.iadd, 1) := by decide +kernel
theorem dX4_fillSchedule_156 : decode cX4_fillSchedule 156 = .ok (.iload 6, 2) := by decide +kernel
theorem dX4_fillSchedule_158 : decode cX4_fillSchedule 158 = .ok (.iadd, 1) := by decide +kernel
theorem dX4_fillSchedule_159 : decode cX4_fillSchedule 159 = .ok (.aload_n 0, 1) := by decide +kernel
theorem dX4_fillSchedule_160 : decode cX4_fillSchedule 160 = .ok (.getfield 13, 3) := by decide +kernel
theorem dX4_fillSchedule_163 : decode cX4_fillSchedule 163 = .ok (.iload_n 2, 1) := by decide +kernel
theorem dX4_fillSchedule_164 : decode cX4_fillSchedule 164 = .ok (.bipush 16, 2) := by decide +kernel
theorem dX4_fillSchedule_166 : decode cX4_fillSchedule 166 = .ok (.isub, 1) := by decide +kernel
theorem dX4_fillSchedule_167 : decode cX4_fillSchedule 167 = .ok (.iaload, 1) := by decide +kernel
theorem dX4_fillSchedule_168 : decode cX4_fillSchedule 168 = .ok (.iadd, 1) := by decide +kernel
theorem dX4_fillSchedule_169 : decode cX4_fillSchedule 169 = .ok (.iastore, 1) := by decide +kernel
theorem dX4_fillSchedule_170 : decode cX4_fillSchedule 170 = .ok (.iinc 2 1, 3) := by decide +kernel
theorem dX4_fillSchedule_173 : decode cX4_fillSchedule 173 = .ok (.goto (-102), 3) := by decide +kernel
theorem dX4_fillSchedule_176 : decode cX4_fillSchedule 176 = .ok (.return_, 1) := by decide +kernel
set_option maxRecDepth 20000 in
theorem ggX4_mixState_X4_turn : GoodIn wsX4_mixState wsX4_turn := goodIn_r _ [7] (by decide +kernel) (by decide +kernel)
set_option maxRecDepth 20000 in
theorem gX4_mixState_X4_turn : GoodIn wsX4_mixState (va_wsS RX4 41 yX4_turn wsX4_turn) := goodIn_app (goodIn_of _ (by decide +kernel)) ggX4_mixState_X4_turn
theorem dX4_mixState_0 : decode cX4_mixState 0 = .ok (.aload_n 0, 1) := by decide +kernel
theorem dX4_mixState_1 : decode cX4_mixState 1 = .ok (.getfield 16, 3) := by decide +kernel
theorem dX4_mixState_4 : decode cX4_mixState 4 = .ok (.iconst 0, 1) := by decide +kernel
theorem dX4_mixState_5 : decode cX4_mixState 5 = .ok (.iaload, 1) := by decide +kernel
theorem dX4_mixState_6 : decode cX4_mixState 6 = .ok (.istore_n 1, 1) := by decide +kernel
theorem dX4_mixState_7 : decode cX4_mixState 7 = .ok (.aload_n 0, 1) := by decide +kernel
theorem dX4_mixState_8 : decode cX4_mixState 8 = .ok (.getfield 16, 3) := by decide +kernel
theorem dX4_mixState_11 : decode cX4_mixState 11 = .ok (.iconst 1, 1) := by decide +kernel
theorem dX4_mixState_12 : decode cX4_mixState 12 = .ok (.iaload, 1) := by decide +kernel
theorem dX4_mixState_13 : decode cX4_mixState 13 = .ok (.istore_n 2, 1) := by decide +kernel
theorem dX4_mixState_14 : decode cX4_mixState 14 = .ok (.aload_n 0, 1) := by decide +kernel
theorem dX4_mixState_15 : decode cX4_mixState 15 = .ok (.getfield 16, 3) := by decide +kernel
theorem dX4_mixState_18 : decode cX4_mixState 18 = .ok (.iconst 2, 1) := by decide +kernel
theorem dX4_mixState_19 : decode cX4_mixState 19 = .ok (.iaload, 1) := by decide +kernel
theorem dX4_mixState_20 : decode cX4_mixState 20 = .ok (.istore_n 3, 1) := by decide +kernel
theorem dX4_mixState_21 : decode cX4_mixState 21 = .ok (.aload_n 0, 1) := by decide +kernel
theorem dX4_mixState_22 : decode cX4_mixState 22 = .ok (.getfield 16, 3) := by decide +kernel
theorem dX4_mixState_25 : decode cX4_mixState 25 = .ok (.iconst 3, 1) := by decide +kernel
theorem dX4_mixState_26 : decode cX4_mixState 26 = .ok (.iaload, 1) := by decide +kernel
theorem dX4_mixState_27 : decode cX4_mixState 27 = .ok (.istore 4, 2) := by decide +kernel
theorem dX4_mixState_29 : decode cX4_mixState 29 = .ok (.aload_n 0, 1) := by decide +kernel
theorem dX4_mixState_30 : decode cX4_mixState 30 = .ok (.getfield 16, 3) := by decide +kernel
theorem dX4_mixState_33 : decode cX4_mixState 33 = .ok (.iconst 4, 1) := by decide +kernel
theorem dX4_mixState_34 : decode cX4_mixState 34 = .ok (.iaload, 1) := by decide +kernel
theorem dX4_mixState_35 : decode cX4_mixState 35 = .ok (.istore 5, 2) := by decide +kernel
theorem dX4_mixState_37 : decode cX4_mixState 37 = .ok (.aload_n 0, 1) := by decide +kernel
theorem dX4_mixState_38 : decode cX4_mixState 38 = .ok (.getfield 16, 3) := by decide +kernel
theorem dX4_mixState_41 : decode cX4_mixState 41 = .ok (.iconst 5, 1) := by decide +kernel
theorem dX4_mixState_42 : decode cX4_mixState 42 = .ok (.iaload, 1) := by decide +kernel
theorem dX4_mixState_43 : decode cX4_mixState 43 = .ok (.istore 6, 2) := by decide +kernel
theorem dX4_mixState_45 : decode cX4_mixState 45 = .ok (.aload_n 0, 1) := by decide +kernel
theorem dX4_mixState_46 : decode cX4_mixState 46 = .ok (.getfield 16, 3) := by decide +kernel
theorem dX4_mixState_49 : decode cX4_mixState 49 = .ok (.bipush 6, 2) := by decide +kernel
theorem dX4_mixState_51 : decode cX4_mixState 51 = .ok (.iaload, 1) := by decide +kernel
theorem dX4_mixState_52 : decode cX4_mixState 52 = .ok (.istore 7, 2) := by decide +kernel
theorem dX4_mixState_54 : decode cX4_mixState 54 = .ok (.aload_n 0, 1) := by decide +kernel
theorem dX4_mixState_55 : decode cX4_mixState 55 = .ok (.getfield 16, 3) := by decide +kernel
theorem dX4_mixState_58 : decode cX4_mixState 58 = .ok (.bipush 7, 2) := by decide +kernel
theorem dX4_mixState_60 : decode cX4_mixState 60 = .ok (.iaload, 1) := by decide +kernel
theorem dX4_mixState_61 : decode cX4_mixState 61 = .ok (.istore 8, 2) := by decide +kernel
theorem dX4_mixState_63 : decode cX4_mixState 63 = .ok (.iconst 0, 1) := by decide +kernel
theorem dX4_mixState_64 : decode cX4_mixState 64 = .ok (.istore 9, 2) := by decide +kernel
theorem dX4_mixState_66 : decode cX4_mixState 66 = .ok (.iload 9, 2) := by decide +kernel
theorem dX4_mixState_68 : decode cX4_mixState 68 = .ok (.bipush 64, 2) := by decide +kernel
theorem dX4_mixState_70 : decode cX4_mixState 70 = .ok (.if_icmp .ge 139, 3) := by decide +kernel
theorem dX4_mixState_73 : decode cX4_mixState 73 = .ok (.iload 5, 2) := by decide +kernel
theorem dX4_mixState_75 : decode cX4_mixState 75 = .ok (.iload 6, 2) := by decide +kernel
theorem dX4_mixState_77 : decode cX4_mixState 77 = .ok (.iand, 1) := by decide +kernel
theorem dX4_mixState_78 : decode cX4_mixState 78 = .ok (.iload 5, 2) := by decide +kernel
theorem dX4_mixState_80 : decode cX4_mixState 80 = .ok (.iconst (-1), 1) := by decide +kernel
theorem dX4_mixState_81 : decode cX4_mixState 81 = .ok (.ixor, 1) := by decide +kernel
theorem dX4_mixState_82 : decode cX4_mixState 82 = .ok (.iload 7, 2) := by decide +kernel
theorem dX4_mixState_84 : decode cX4_mixState 84 = .ok (.iand, 1) := by decide +kernel
theorem dX4_mixState_85 : decode cX4_mixState 85 = .ok (.ixor, 1) := by decide +kernel
theorem dX4_mixState_86 : decode cX4_mixState 86 = .ok (.istore 10, 2) := by decide +kernel
theorem dX4_mixState_88 : decode cX4_mixState 88 = .ok (.iload_n 1, 1) := by decide +kernel
theorem dX4_mixState_89 : decode cX4_mixState 89 = .ok (.iload_n 2, 1) := by decide +kernel
theorem dX4_mixState_90 : decode cX4_mixState 90 = .ok (.iand, 1) := by decide +kernel
theorem dX4_mixState_91 : decode cX4_mixState 91 = .ok (.iload_n 1, 1) := by decide +kernel
theorem dX4_mixState_92 : decode cX4_mixState 92 = .ok (.iload_n 3, 1) := by decide +kernel
theorem dX4_mixState_93 : decode cX4_mixState 93 = .ok (.iand, 1) := by decide +kernel
theorem dX4_mixState_94 : decode cX4_mixState 94 = .ok (.ixor, 1) := by decide +kernel
theorem dX4_mixState_95 : decode cX4_mixState 95 = .ok (.iload_n 2, 1) := by decide +kernel
theorem dX4_mixState_96 : decode cX4_mixState 96 = .ok (.iload_n 3, 1) := by decide +kernel
theorem dX4_mixState_97 : decode cX4_mixState 97 = .ok (.iand, 1) := by decide +kernel
theorem dX4_mixState_98 : decode cX4_mixState 98 = .ok (.ixor, 1) := by decide +kernel
theorem dX4_mixState_99 : decode cX4_mixState 99 = .ok (.istore 11, 2) := by decide +kernel
theorem dX4_mixState_101 : decode cX4_mixState 101 = .ok (.iload 8, 2) := by decide +kernel
theorem dX4_mixState_103 : decode cX4_mixState 103 = .ok (.iload 5, 2) := by decide +kernel
theorem dX4_mixState_105 : decode cX4_mixState 105 = .ok (.bipush 6, 2) := by decide +kernel
theorem dX4_mixState_107 : decode cX4_mixState 107 = .ok (.invokestatic 41, 3) := by decide +kernel
theorem dX4_mixState_110 : decode cX4_mixState 110 = .ok (.iload 5, 2) := by decide +kernel
theorem dX4_mixState_112 : decode cX4_mixState 112 = .ok (.bipush 11, 2) := by decide +kernel
theorem dX4_mixState_114 : decode cX4_mixState 114 = .ok (.invokestatic 41, 3) := by decide +kernel
theorem dX4_mixState_117 : decode cX4_mixState 117 = .ok (.ixor, 1) := by decide +kernel
theorem dX4_mixState_118 : decode cX4_mixState 118 = .ok (.iload 5, 2) := by decide +kernel
theorem dX4_mixState_120 : decode cX4_mixState 120 = .ok (.bipush 25, 2) := by decide +kernel
theorem dX4_mixState_122 : decode cX4_mixState 122 = .ok (.invokestatic 41, 3) := by decide +kernel
theorem dX4_mixState_125 : decode cX4_mixState 125 = .ok (.ixor, 1) := by decide +kernel
theorem dX4_mixState_126 : decode cX4_mixState 126 = .ok (.iadd, 1) := by decide +kernel
theorem dX4_mixState_127 : decode cX4_mixState 127 = .ok (.iload 10, 2) := by decide +kernel
theorem dX4_mixState_129 : decode cX4_mixState 129 = .ok (.iadd, 1) := by decide +kernel
theorem dX4_mixState_130 : decode cX4_mixState 130 = .ok (.getstatic 45, 3) := by decide +kernel
theorem dX4_mixState_133 : decode cX4_mixState 133 = .ok (.iload 9, 2) := by decide +kernel
theorem dX4_mixState_135 : decode cX4_mixState 135 = .ok (.iaload, 1) := by decide +kernel
theorem dX4_mixState_136 : decode cX4_mixState 136 = .ok (.iadd, 1) := by decide +kernel
theorem dX4_mixState_137 : decode cX4_mixState 137 = .ok (.aload_n 0, 1) := by decide +kernel
theorem dX4_mixState_138 : decode cX4_mixState 138 = .ok (.getfield 13, 3) := by decide +kernel
theorem dX4_mixState_141 : decode cX4_mixState 141 = .ok (.iload 9, 2) := by decide +kernel
theorem dX4_mixState_143 : decode cX4_mixState 143 = .ok (.iaload, 1) := by decide +kernel
theorem dX4_mixState_144 : decode cX4_mixState 144 = .ok (.iadd, 1) := by decide +kernel
theorem dX4_mixState_145 : decode cX4_mixState 145 = .ok (.istore 12, 2) := by decide +kernel
theorem dX4_mixState_147 : decode cX4_mixState 147 = .ok (.iload_n 1, 1) := by decide +kernel
theorem dX4_mixState_148 : decode cX4_mixState 148 = .ok (.iconst 2, 1) := by decide +kernel
theorem dX4_mixState_149 : decode cX4_mixState 149 = .ok (.invokestatic 41, 3) := by decide +kernel
theorem dX4_mixState_152 : decode cX4_mixState 152 = .ok (.iload_n 1, 1) := by decide +kernel
theorem dX4_mixState_153 : decode cX4_mixState 153 = .ok (.bipush 13, 2) := by decide +kernel
theorem dX4_mixState_155 : decode cX4_mixState 155 = .ok (.invokestatic 41, 3) := by decide +kernel
theorem dX4_mixState_158 : decode cX4_mixState 158 = .ok (.ixor, 1) := by decide +kernel
theorem dX4_mixState_159 : decode cX4_mixState 159 = .ok (.iload_n 1, 1) := by decide +kernel
theorem dX4_mixState_160 : decode cX4_mixState 160 = .ok (.bipush 22, 2) := by decide +kernel
theorem dX4_mixState_162 : decode cX4_mixState 162 = .ok (.invokestatic 41, 3) := by decide +kernel
theorem dX4_mixState_165 : decode cX4_mixState 165 = .ok (.ixor, 1) := by decide +kernel
theorem dX4_mixState_166 : decode cX4_mixState 166 = .ok (.iload 11, 2) := by decide +kernel
theorem dX4_mixState_168 : decode cX4_mixState 168 = .ok (.iadd, 1) := by decide +kernel
theorem dX4_mixState_169 : decode cX4_mixState 169 = .ok (.istore 13, 2) := by decide +kernel
theorem dX4_mixState_171 : decode cX4_mixState 171 = .ok (.iload 7, 2) := by decide +kernel
theorem dX4_mixState_173 : decode cX4_mixState 173 = .ok (.istore 8, 2) := by decide +kernel
theorem dX4_mixState_175 : decode cX4_mixState 175 = .ok (.iload 6, 2) := by decide +kernel
theorem dX4_mixState_177 : decode cX4_mixState 177 = .ok (.istore 7, 2) := by decide +kernel
theorem dX4_mixState_179 : decode cX4_mixState 179 = .ok (.iload 5, 2) := by decide +kernel
theorem dX4_mixState_181 : decode cX4_mixState 181 = .ok (.istore 6, 2) := by decide +kernel
theorem dX4_mixState_183 : decode cX4_mixState 183 = .ok (.iload 4, 2) := by decide +kernel
theorem dX4_mixState_185 : decode cX4_mixState 185 = .ok (.iload 12, 2) := by decide +kernel
theorem dX4_mixState_187 : decode cX4_mixState 187 = .ok (.iadd, 1) := by decide +kernel
theorem dX4_mixState_188 : decode cX4_mixState 188 = .ok (.istore 5, 2) := by decide +kernel
theorem dX4_mixState_190 : decode cX4_mixState 190 = .ok (.iload_n 3, 1) := by decide +kernel
theorem dX4_mixState_191 : decode cX4_mixState 191 = .ok (.istore 4, 2) := by decide +kernel
theorem dX4_mixState_193 : decode cX4_mixState 193 = .ok (.iload_n 2, 1) := by decide +kernel
theorem dX4_mixState_194 : decode cX4_mixState 194 = .ok (.istore_n 3, 1) := by decide +kernel
theorem dX4_mixState_195 : decode cX4_mixState 195 = .ok (.iload_n 1, 1) := by decide +kernel
theorem dX4_mixState_196 : decode cX4_mixState 196 = .ok (.istore_n 2, 1) := by decide +kernel
theorem dX4_mixState_197 : decode cX4_mixState 197 = .ok (.iload 12, 2) := by decide +kernel
theorem dX4_mixState_199 : decode cX4_mixState 199 = .ok (.iload 13, 2) := by decide +kernel
theorem dX4_mixState_201 : decode cX4_mixState 201 = .ok (.iadd, 1) := by decide +kernel
theorem dX4_mixState_202 : decode cX4_mixState 202 = .ok (.istore_n 1, 1) := by decide +kernel
theorem dX4_mixState_203 : decode cX4_mixState 203 = .ok (.iinc 9 1, 3) := by decide +kernel
theorem dX4_mixState_206 : decode cX4_mixState 206 = .ok (.goto (-140), 3) := by decide +kernel
theorem dX4_mixState_209 : decode cX4_mixState 209 = .ok (.aload_n 0, 1) := by decide +kernel
theorem dX4_mixState_210 : decode cX4_mixState 210 = .ok (.getfield 16, 3) := by decide +kernel
theorem dX4_mixState_213 : decode cX4_mixState 213 = .ok (.iconst 0, 1) := by decide +kernel
theorem dX4_mixState_214 : decode cX4_mixState 214 = .ok (.dup2, 1) := by decide +kernel
theorem dX4_mixState_215 : decode cX4_mixState 215 = .ok (.iaload, 1) := by decide +kernel
theorem dX4_mixState_216 : decode cX4_mixState 216 = .ok (.iload_n 1, 1) := by decide +kernel
theorem dX4_mixState_217 : decode cX4_mixState 217 = .ok (.iadd, 1) := by decide +kernel
theorem dX4_mixState_218 : decode cX4_mixState 218 = .ok (.iastore, 1) := by decide +kernel
theorem dX4_mixState_219 : decode cX4_mixState 219 = .ok (.aload_n 0, 1) := by decide +kernel
theorem dX4_mixState_220 : decode cX4_mixState 220 = .ok (.getfield 16, 3) := by decide +kernel
theorem dX4_mixState_223 : decode cX4_mixState 223 = .ok (.iconst 1, 1) := by decide +kernel
theorem dX4_mixState_224 : decode cX4_mixState 224 = .ok (.dup2, 1) := by decide +kernel
theorem dX4_mixState_225 : decode cX4_mixState 225 = .ok (.iaload, 1) := by decide +kernel
theorem dX4_mixState_226 : decode cX4_mixState 226 = .ok (.iload_n 2, 1) := by decide +kernel
theorem dX4_mixState_227 : decode cX4_mixState 227 = .ok (.iadd, 1) := by decide +kernel
theorem dX4_mixState_228 : decode cX4_mixState 228 = .ok (.iastore, 1) := by decide +kernel
theorem dX4_mixState_229 : decode cX4_mixState 229 = .ok (.aload_n 0, 1) := by decide +kernel
theorem dX4_mixState_230 : decode cX4_mixState 230 = .ok (.getfield 16, 3) := by decide +kernel
theorem dX4_mixState_233 : decode cX4_mixState 233 = .ok (.iconst 2, 1) := by decide +kernel
theorem dX4_mixState_234 : decode cX4_mixState 234 = .ok (.dup2, 1) := by decide +kernel
theorem dX4_mixState_235 : decode cX4_mixState 235 = .ok (.iaload, 1) := by decide +kernel
theorem dX4_mixState_236 : decode cX4_mixState 236 = .ok (.iload_n 3, 1) := by decide +kernel
theorem dX4_mixState_237 : decode cX4_mixState 237 = .ok (.iadd, 1) := by decide +kernel
theorem dX4_mixState_238 : decode cX4_mixState 238 = .ok (.iastore, 1) := by decide +kernel
theorem dX4_mixState_239 : decode cX4_mixState 239 = .ok (.aload_n 0, 1) := by decide +kernel
theorem dX4_mixState_240 : decode cX4_mixState 240 = .ok (.getfield 16, 3) := by decide +kernel
theorem dX4_mixState_243 : decode cX4_mixState 243 = .ok (.iconst 3, 1) := by decide +kernel
theorem dX4_mixState_244 : decode cX4_mixState 244 = .ok (.dup2, 1) := by decide +kernel
theorem dX4_mixState_245 : decode cX4_mixState 245 = .ok (.iaload, 1) := by decide +kernel
theorem dX4_mixState_246 : decode cX4_mixState 246 = .ok (.iload 4, 2) := by decide +kernel
theorem dX4_mixState_248 : decode cX4_mixState 248 = .ok (.iadd, 1) := by decide +kernel
theorem dX4_mixState_249 : decode cX4_mixState 249 = .ok (.iastore, 1) := by decide +kernel
theorem dX4_mixState_250 : decode cX4_mixState 250 = .ok (.aload_n 0, 1) := by decide +kernel
theorem dX4_mixState_251 : decode cX4_mixState 251 = .ok (.getfield 16, 3) := by decide +kernel
theorem dX4_mixState_254 : decode cX4_mixState 254 = .ok (.iconst 4, 1) := by decide +kernel
theorem dX4_mixState_255 : decode cX4_mixState 255 = .ok (.dup2, 1) := by decide +kernel
theorem dX4_mixState_256 : decode cX4_mixState 256 = .ok (.iaload, 1) := by decide +kernel
theorem dX4_mixState_257 : decode cX4_mixState 257 = .ok (.iload 5, 2) := by decide +kernel
theorem dX4_mixState_259 : decode cX4_mixState 259 = .ok (.iadd, 1) := by decide +kernel
theorem dX4_mixState_260 : decode cX4_mixState 260 = .ok (.iastore, 1) := by decide +kernel
theorem dX4_mixState_261 : decode cX4_mixState 261 = .ok (.aload_n 0, 1) := by decide +kernel
theorem dX4_mixState_262 : decode cX4_mixState 262 = .ok (.getfield 16, 3) := by decide +kernel
theorem dX4_mixState_265 : decode cX4_mixState 265 = .ok (.iconst 5, 1) := by decide +kernel
theorem dX4_mixState_266 : decode cX4_mixState 266 = .ok (.dup2, 1) := by decide +kernel
theorem dX4_mixState_267 : decode cX4_mixState 267 = .ok (.iaload, 1) := by decide +kernel
theorem dX4_mixState_268 : decode cX4_mixState 268 = .ok (.iload 6, 2) := by decide +kernel
theorem dX4_mixState_270 : decode cX4_mixState 270 = .ok (.iadd, 1) := by decide +kernel
theorem dX4_mixState_271 : decode cX4_mixState 271 = .ok (.iastore, 1) := by decide +kernel
theorem dX4_mixState_272 : decode cX4_mixState 272 = .ok (.aload_n 0, 1) := by decide +kernel
theorem dX4_mixState_273 : decode cX4_mixState 273 = .ok (.getfield 16, 3) := by decide +kernel
theorem dX4_mixState_276 : decode cX4_mixState 276 = .ok (.bipush 6, 2) := by decide +kernel
theorem dX4_mixState_278 : decode cX4_mixState 278 = .ok (.dup2, 1) := by decide +kernel
theorem dX4_mixState_279 : decode cX4_mixState 279 = .ok (.iaload, 1) := by decide +kernel
theorem dX4_mixState_280 : decode cX4_mixState 280 = .ok (.iload 7, 2) := by decide +kernel
theorem dX4_mixState_282 : decode cX4_mixState 282 = .ok (.iadd, 1) := by decide +kernel
theorem dX4_mixState_283 : decode cX4_mixState 283 = .ok (.iastore, 1) := by decide +kernel
theorem dX4_mixState_284 : decode cX4_mixState 284 = .ok (.aload_n 0, 1) := by decide +kernel
theorem dX4_mixState_285 : decode cX4_mixState 285 = .ok (.getfield 16, 3) := by decide +kernel
theorem dX4_mixState_288 : decode cX4_mixState 288 = .ok (.bipush 7, 2) := by decide +kernel
theorem dX4_mixState_290 : decode cX4_mixState 290 = .ok (.dup2, 1) := by decide +kernel
theorem dX4_mixState_291 : decode cX4_mixState 291 = .ok (.iaload, 1) := by decide +kernel
theorem dX4_mixState_292 : decode cX4_mixState 292 = .ok (.iload 8, 2) := by decide +kernel
theorem dX4_mixState_294 : decode cX4_mixState 294 = .ok (.iadd, 1) := by decide +kernel
theorem dX4_mixState_295 : decode cX4_mixState 295 = .ok (.iastore, 1) := by decide +kernel
theorem dX4_mixState_296 : decode cX4_mixState 296 = .ok (.return_, 1) := by decide +kernel
theorem dX4_turn_0 : decode cX4_turn 0 = .ok (.iload_n 0, 1) := by decide +kernel
theorem dX4_turn_1 : decode cX4_turn 1 = .ok (.iload_n 1, 1) := by decide +kernel
theorem dX4_turn_2 : decode cX4_turn 2 = .ok (.iushr, 1) := by decide +kernel
theorem dX4_turn_3 : decode cX4_turn 3 = .ok (.iload_n 0, 1) := by decide +kernel
theorem dX4_turn_4 : decode cX4_turn 4 = .ok (.bipush 32, 2) := by decide +kernel
theorem dX4_turn_6 : decode cX4_turn 6 = .ok (.iload_n 1, 1) := by decide +kernel
theorem dX4_turn_7 : decode cX4_turn 7 = .ok (.isub, 1) := by decide +kernel
theorem dX4_turn_8 : decode cX4_turn 8 = .ok (.ishl, 1) := by decide +kernel
theorem dX4_turn_9 : decode cX4_turn 9 = .ok (.ior, 1) := by decide +kernel
theorem dX4_turn_10 : decode cX4_turn 10 = .ok (.ireturn, 1) := by decide +kernel
theorem dX5_init_0 : decode cX5_init 0 = .ok (.aload_n 0, 1) := by decide +kernel
theorem dX5_init_1 : decode cX5_init 1 = .ok (.invokespecial 1, 3) := by decide +kernel
theorem dX5_init_4 : decode cX5_init 4 = .ok (.return_, 1) := by decide +kernel
theorem dX5_forget_0 : decode cX5_forget 0 = .ok (.aload_n 0, 1) := by decide +kernel
theorem dX5_forget_1 : decode cX5_forget 1 = .ok (.lconst 0, 1) := by decide +kernel
theorem dX5_forget_2 : decode cX5_forget 2 = .ok (.putfield 7, 3) := by decide +kernel
theorem dX5_forget_5 : decode cX5_forget 5 = .ok (.aload_n 0, 1) := by decide +kernel
theorem dX5_forget_6 : decode cX5_forget 6 = .ok (.lconst 0, 1) := by decide +kernel
theorem dX5_forget_7 : decode cX5_forget 7 = .ok (.putfield 13, 3) := by decide +kernel
theorem dX5_forget_10 : decode cX5_forget 10 = .ok (.return_, 1) := by decide +kernel
set_option maxRecDepth 20000 in
theorem ggX5_seenCount_J13_bitCount_95d88 : GoodIn wsX5_seenCount wsJ13_bitCount_95d88 := goodIn_r _ [5, 6, 7, 8] (by decide +kernel) (by decide +kernel)
set_option maxRecDepth 20000 in
theorem gX5_seenCount_J13_bitCount_95d88 : GoodIn wsX5_seenCount (va_wsS RX5 16 yJ13_bitCount_95d88 wsJ13_bitCount_95d88) := goodIn_app (goodIn_of _ (by decide +kernel)) ggX5_seenCount_J13_bitCount_95d88
theorem dX5_seenCount_0 : decode cX5_seenCount 0 = .ok (.aload_n 0, 1) := by decide +kernel
theorem dX5_seenCount_1 : decode cX5_seenCount 1 = .ok (.getfield 13, 3) := by decide +kernel
theorem dX5_seenCount_4 : decode cX5_seenCount 4 = .ok (.invokestatic 16, 3) := by decide +kernel
theorem dX5_seenCount_7 : decode cX5_seenCount 7 = .ok (.ireturn, 1) := by decide +kernel
set_option maxRecDepth 20000 in
theorem ggX5_isTooOld_X5_isAbove : GoodIn wsX5_isTooOld wsX5_isAbove := goodIn_r _ [6, 7] (by decide +kernel) (by decide +kernel)
set_option maxRecDepth 20000 in
theorem gX5_isTooOld_X5_isAbove : GoodIn wsX5_isTooOld (va_wsS RX5 22 yX5_isAbove wsX5_isAbove) := goodIn_app (goodIn_of _ (by decide +kernel)) ggX5_isTooOld_X5_isAbove
set_option maxRecDepth 20000 in
theorem ggX5_isTooOld_X5_fits : GoodIn wsX5_isTooOld wsX5_fits := goodIn_r _ [10, 11] (by decide +kernel) (by decide +kernel)
set_option maxRecDepth 20000 in
theorem gX5_isTooOld_X5_fits : GoodIn wsX5_isTooOld (va_wsS RX5 26 yX5_fits wsX5_fits) := goodIn_app (goodIn_of _ (by decide +kernel)) ggX5_isTooOld_X5_fits
theorem dX5_isTooOld_0 : decode cX5_isTooOld 0 = .ok (.aload_n 0, 1) := by decide +kernel
theorem dX5_isTooOld_1 : decode cX5_isTooOld 1 = .ok (.getfield 13, 3) := by decide +kernel
theorem dX5_isTooOld_4 : decode cX5_isTooOld 4 = .ok (.lconst 0, 1) := by decide +kernel
theorem dX5_isTooOld_5 : decode cX5_isTooOld 5 = .ok (.lcmp, 1) := by decide +kernel
theorem dX5_isTooOld_6 : decode cX5_isTooOld 6 = .ok (.ifCond .eq 30, 3) := by decide +kernel
theorem dX5_isTooOld_9 : decode cX5_isTooOld 9 = .ok (.lload_n 1, 1) := by decide +kernel
theorem dX5_isTooOld_10 : decode cX5_isTooOld 10 = .ok (.aload_n 0, 1) := by decide +kernel
theorem dX5_isTooOld_11 : decode cX5_isTooOld 11 = .ok (.getfield 7, 3) := by decide +kernel
theorem dX5_isTooOld_14 : decode cX5_isTooOld 14 = .ok (.invokestatic 22, 3) := by decide +kernel
theorem dX5_isTooOld_17 : decode cX5_isTooOld 17 = .ok (.ifCond .ne 19, 3) := by decide +kernel
theorem dX5_isTooOld_20 : decode cX5_isTooOld 20 = .ok (.aload_n 0, 1) := by decide +kernel
theorem dX5_isTooOld_21 : decode cX5_isTooOld 21 = .ok (.getfield 7, 3) := by decide +kernel
theorem dX5_isTooOld_24 : decode cX5_isTooOld 24 = .ok (.lload_n 1, 1) := by decide +kernel
theorem dX5_isTooOld_25 : decode cX5_isTooOld 25 = .ok (.lsub, 1) := by decide +kernel
theorem dX5_isTooOld_26 : decode cX5_isTooOld 26 = .ok (.invokestatic 26, 3) := by decide +kernel
theorem dX5_isTooOld_29 : decode cX5_isTooOld 29 = .ok (.ifCond .ne 7, 3) := by decide +kernel
theorem dX5_isTooOld_32 : decode cX5_isTooOld 32 = .ok (.iconst 1, 1) := by decide +kernel
theorem dX5_isTooOld_33 : decode cX5_isTooOld 33 = .ok (.goto 4, 3) := by decide +kernel
theorem dX5_isTooOld_36 : decode cX5_isTooOld 36 = .ok (.iconst 0, 1) := by decide +kernel
theorem dX5_isTooOld_37 : decode cX5_isTooOld 37 = .ok (.ireturn, 1) := by decide +kernel
set_option maxRecDepth 20000 in
theorem ggX5_wasSeen_X5_isAbove : GoodIn wsX5_wasSeen wsX5_isAbove := goodIn_r _ [6, 7] (by decide +kernel) (by decide +kernel)
set_option maxRecDepth 20000 in
theorem gX5_wasSeen_X5_isAbove : GoodIn wsX5_wasSeen (va_wsS RX5 22 yX5_isAbove wsX5_isAbove) := goodIn_app (goodIn_of _ (by decide +kernel)) ggX5_wasSeen_X5_isAbove
set_option maxRecDepth 20000 in
theorem ggX5_wasSeen_X5_fits : GoodIn wsX5_wasSeen wsX5_fits := goodIn_r _ [10, 11] (by decide +kernel) (by decide +kernel)
set_option maxRecDepth 20000 in
theorem gX5_wasSeen_X5_fits : GoodIn wsX5_wasSeen (va_wsS RX5 26 yX5_fits wsX5_fits) := goodIn_app (goodIn_of _ (by decide +kernel)) ggX5_wasSeen_X5_fits
theorem dX5_wasSeen_0 : decode cX5_wasSeen 0 = .ok (.aload_n 0, 1) := by decide +kernel
theorem dX5_wasSeen_1 : decode cX5_wasSeen 1 = .ok (.getfield 7, 3) := by decide +kernel
theorem dX5_wasSeen_4 : decode cX5_wasSeen 4 = .ok (.lload_n 1, 1) := by decide +kernel
theorem dX5_wasSeen_5 : decode cX5_wasSeen 5 = .ok (.lsub, 1) := by decide +kernel
theorem dX5_wasSeen_6 : decode cX5_wasSeen 6 = .ok (.lstore_n 3, 1) := by decide +kernel
theorem dX5_wasSeen_7 : decode cX5_wasSeen 7 = .ok (.lload_n 1, 1) := by decide +kernel
theorem dX5_wasSeen_8 : decode cX5_wasSeen 8 = .ok (.aload_n 0, 1) := by decide +kernel
theorem dX5_wasSeen_9 : decode cX5_wasSeen 9 = .ok (.getfield 7, 3) := by decide +kernel
theorem dX5_wasSeen_12 : decode cX5_wasSeen 12 = .ok (.invokestatic 22, 3) := by decide +kernel
theorem dX5_wasSeen_15 : decode cX5_wasSeen 15 = .ok (.ifCond .ne 28, 3) := by decide +kernel
theorem dX5_wasSeen_18 : decode cX5_wasSeen 18 = .ok (.lload_n 3, 1) := by decide +kernel
theorem dX5_wasSeen_19 : decode cX5_wasSeen 19 = .ok (.invokestatic 26, 3) := by decide +kernel
theorem dX5_wasSeen_22 : decode cX5_wasSeen 22 = .ok (.ifCond .eq 21, 3) := by decide +kernel
theorem dX5_wasSeen_25 : decode cX5_wasSeen 25 = .ok (.aload_n 0, 1) := by decide +kernel
theorem dX5_wasSeen_26 : decode cX5_wasSeen 26 = .ok (.getfield 13, 3) := by decide +kernel
theorem dX5_wasSeen_29 : decode cX5_wasSeen 29 = .ok (.lload_n 3, 1) := by decide +kernel
theorem dX5_wasSeen_30 : decode cX5_wasSeen 30 = .ok (.l2i, 1) := by decide +kernel
theorem dX5_wasSeen_31 : decode cX5_wasSeen 31 = .ok (.lushr, 1) := by decide +kernel
theorem dX5_wasSeen_32 : decode cX5_wasSeen 32 = .ok (.lconst 1, 1) := by decide +kernel
theorem dX5_wasSeen_33 : decode cX5_wasSeen 33 = .ok (.land, 1) := by decide +kernel
theorem dX5_wasSeen_34 : decode cX5_wasSeen 34 = .ok (.lconst 1, 1) := by decide +kernel
theorem dX5_wasSeen_35 : decode cX5_wasSeen 35 = .ok (.lcmp, 1) := by decide +kernel
theorem dX5_wasSeen_36 : decode cX5_wasSeen 36 = .ok (.ifCond .ne 7, 3) := by decide +kernel
theorem dX5_wasSeen_39 : decode cX5_wasSeen 39 = .ok (.iconst 1, 1) := by decide +kernel
theorem dX5_wasSeen_40 : decode cX5_wasSeen 40 = .ok (.goto 4, 3) := by decide +kernel
theorem dX5_wasSeen_43 : decode cX5_wasSeen 43 = .ok (.iconst 0, 1) := by decide +kernel
theorem dX5_wasSeen_44 : decode cX5_wasSeen 44 = .ok (.ireturn, 1) := by decide +kernel
set_option maxRecDepth 20000 in
theorem ggX5_mark_X5_isAbove : GoodIn wsX5_mark wsX5_isAbove := goodIn_r _ [6, 7] (by decide +kernel) (by decide +kernel)
set_option maxRecDepth 20000 in
theorem gX5_mark_X5_isAbove : GoodIn wsX5_mark (va_wsS RX5 22 yX5_isAbove wsX5_isAbove) := goodIn_app (goodIn_of _ (by decide +kernel)) ggX5_mark_X5_isAbove
set_option maxRecDepth 20000 in
theorem ggX5_mark_X5_fits : GoodIn wsX5_mark wsX5_fits := goodIn_r _ [10, 11] (by decide +kernel) (by decide +kernel)
set_option maxRecDepth 20000 in
theorem gX5_mark_X5_fits : GoodIn wsX5_mark (va_wsS RX5 26 yX5_fits wsX5_fits) := goodIn_app (goodIn_of _ (by decide +kernel)) ggX5_mark_X5_fits
theorem dX5_mark_0 : decode cX5_mark 0 = .ok (.aload_n 0, 1) := by decide +kernel
theorem dX5_mark_1 : decode cX5_mark 1 = .ok (.getfield 13, 3) := by decide +kernel
theorem dX5_mark_4 : decode cX5_mark 4 = .ok (.lconst 0, 1) := by decide +kernel
theorem dX5_mark_5 : decode cX5_mark 5 = .ok (.lcmp, 1) := by decide +kernel
theorem dX5_mark_6 : decode cX5_mark 6 = .ok (.ifCond .ne 16, 3) := by decide +kernel
theorem dX5_mark_9 : decode cX5_mark 9 = .ok (.aload_n 0, 1) := by decide +kernel
theorem dX5_mark_10 : decode cX5_mark 10 = .ok (.lload_n 1, 1) := by decide +kernel
theorem dX5_mark_11 : decode cX5_mark 11 = .ok (.putfield 7, 3) := by decide +kernel
theorem dX5_mark_14 : decode cX5_mark 14 = .ok (.aload_n 0, 1) := by decide +kernel
theorem dX5_mark_15 : decode cX5_mark 15 = .ok (.lconst 1, 1) := by decide +kernel
theorem dX5_mark_16 : decode cX5_mark 16 = .ok (.putfield 13, 3) := by decide +kernel
theorem dX5_mark_19 : decode cX5_mark 19 = .ok (.goto 83, 3) := by decide +kernel
theorem dX5_mark_22 : decode cX5_mark 22 = .ok (.lload_n 1, 1) := by decide +kernel
theorem dX5_mark_23 : decode cX5_mark 23 = .ok (.aload_n 0, 1) := by decide +kernel
theorem dX5_mark_24 : decode cX5_mark 24 = .ok (.getfield 7, 3) := by decide +kernel
theorem dX5_mark_27 : decode cX5_mark 27 = .ok (.invokestatic 22, 3) := by decide +kernel
theorem dX5_mark_30 : decode cX5_mark 30 = .ok (.ifCond .eq 42, 3) := by decide +kernel
theorem dX5_mark_33 : decode cX5_mark 33 = .ok (.lload_n 1, 1) := by decide +kernel
theorem dX5_mark_34 : decode cX5_mark 34 = .ok (.aload_n 0, 1) := by decide +kernel
theorem dX5_mark_35 : decode cX5_mark 35 = .ok (.getfield 7, 3) := by decide +kernel
theorem dX5_mark_38 : decode cX5_mark 38 = .ok (.lsub, 1) := by decide +kernel
theorem dX5_mark_39 : decode cX5_mark 39 = .ok (.lstore_n 3, 1) := by decide +kernel
theorem dX5_mark_40 : decode cX5_mark 40 = .ok (.aload_n 0, 1) := by decide +kernel
theorem dX5_mark_41 : decode cX5_mark 41 = .ok (.lload_n 3, 1) := by decide +kernel
theorem dX5_mark_42 : decode cX5_mark 42 = .ok (.invokestatic 26, 3) := by decide +kernel
theorem dX5_mark_45 : decode cX5_mark 45 = .ok (.ifCond .eq 15, 3) := by decide +kernel
theorem dX5_mark_48 : decode cX5_mark 48 = .ok (.aload_n 0, 1) := by decide +kernel
theorem dX5_mark_49 : decode cX5_mark 49 = .ok (.getfield 13, 3) := by decide +kernel
theorem dX5_mark_52 : decode cX5_mark 52 = .ok (.lload_n 3, 1) := by decide +kernel
theorem dX5_mark_53 : decode cX5_mark 53 = .ok (.l2i, 1) := by decide +kernel
theorem dX5_mark_54 : decode cX5_mark 54 = .ok (.lshl, 1) := by decide +kernel
theorem dX5_mark_55 : decode cX5_mark 55 = .ok (.lconst 1, 1) := by decide +kernel
theorem dX5_mark_56 : decode cX5_mark 56 = .ok (.lor, 1) := by decide +kernel
theorem dX5_mark_57 : decode cX5_mark 57 = .ok (.goto 4, 3) := by decide +kernel
theorem dX5_mark_60 : decode cX5_mark 60 = .ok (.lconst 1, 1) := by decide +kernel
theorem dX5_mark_61 : decode cX5_mark 61 = .ok (.putfield 13, 3) := by decide +kernel
theorem dX5_mark_64 : decode cX5_mark 64 = .ok (.aload_n 0, 1) := by decide +kernel
theorem dX5_mark_65 : decode cX5_mark 65 = .ok (.lload_n 1, 1) := by decide +kernel
theorem dX5_mark_66 : decode cX5_mark 66 = .ok (.putfield 7, 3) := by decide +kernel
theorem dX5_mark_69 : decode cX5_mark 69 = .ok (.goto 33, 3) := by decide +kernel
theorem dX5_mark_72 : decode cX5_mark 72 = .ok (.aload_n 0, 1) := by decide +kernel
theorem dX5_mark_73 : decode cX5_mark 73 = .ok (.getfield 7, 3) := by decide +kernel
theorem dX5_mark_76 : decode cX5_mark 76 = .ok (.lload_n 1, 1) := by decide +kernel
theorem dX5_mark_77 : decode cX5_mark 77 = .ok (.lsub, 1) := by decide +kernel
theorem dX5_mark_78 : decode cX5_mark 78 = .ok (.invokestatic 26, 3) := by decide +kernel
theorem dX5_mark_81 : decode cX5_mark 81 = .ok (.ifCond .eq 21, 3) := by decide +kernel
theorem dX5_mark_84 : decode cX5_mark 84 = .ok (.aload_n 0, 1) := by decide +kernel
theorem dX5_mark_85 : decode cX5_mark 85 = .ok (.dup, 1) := by decide +kernel
theorem dX5_mark_86 : decode cX5_mark 86 = .ok (.getfield 13, 3) := by decide +kernel
theorem dX5_mark_89 : decode cX5_mark 89 = .ok (.lconst 1, 1) := by decide +kernel
theorem dX5_mark_90 : decode cX5_mark 90 = .ok (.aload_n 0, 1) := by decide +kernel
theorem dX5_mark_91 : decode cX5_mark 91 = .ok (.getfield 7, 3) := by decide +kernel
theorem dX5_mark_94 : decode cX5_mark 94 = .ok (.lload_n 1, 1) := by decide +kernel
theorem dX5_mark_95 : decode cX5_mark 95 = .ok (.lsub, 1) := by decide +kernel
theorem dX5_mark_96 : decode cX5_mark 96 = .ok (.l2i, 1) := by decide +kernel
theorem dX5_mark_97 : decode cX5_mark 97 = .ok (.lshl, 1) := by decide +kernel
theorem dX5_mark_98 : decode cX5_mark 98 = .ok (.lor, 1) := by decide +kernel
theorem dX5_mark_99 : decode cX5_mark 99 = .ok (.putfield 13, 3) := by decide +kernel
theorem dX5_mark_102 : decode cX5_mark 102 = .ok (.return_, 1) := by decide +kernel
theorem dX5_fits_0 : decode cX5_fits 0 = .ok (.lload_n 0, 1) := by decide +kernel
theorem dX5_fits_1 : decode cX5_fits 1 = .ok (.lconst 0, 1) := by decide +kernel
theorem dX5_fits_2 : decode cX5_fits 2 = .ok (.lcmp, 1) := by decide +kernel
theorem dX5_fits_3 : decode cX5_fits 3 = .ok (.ifCond .lt 15, 3) := by decide +kernel
theorem dX5_fits_6 : decode cX5_fits 6 = .ok (.lload_n 0, 1) := by decide +kernel
theorem dX5_fits_7 : decode cX5_fits 7 = .ok (.ldc2_w 30, 3) := by decide +kernel
theorem dX5_fits_10 : decode cX5_fits 10 = .ok (.lcmp, 1) := by decide +kernel
theorem dX5_fits_11 : decode cX5_fits 11 = .ok (.ifCond .ge 7, 3) := by decide +kernel
theorem dX5_fits_14 : decode cX5_fits 14 = .ok (.iconst 1, 1) := by decide +kernel
theorem dX5_fits_15 : decode cX5_fits 15 = .ok (.goto 4, 3) := by decide +kernel
theorem dX5_fits_18 : decode cX5_fits 18 = .ok (.iconst 0, 1) := by decide +kernel
theorem dX5_fits_19 : decode cX5_fits 19 = .ok (.ireturn, 1) := by decide +kernel
theorem dX5_isAbove_0 : decode cX5_isAbove 0 = .ok (.lload_n 0, 1) := by decide +kernel
theorem dX5_isAbove_1 : decode cX5_isAbove 1 = .ok (.ldc2_w 32, 3) := by decide +kernel
theorem dX5_isAbove_4 : decode cX5_isAbove 4 = .ok (.lxor, 1) := by decide +kernel
theorem dX5_isAbove_5 : decode cX5_isAbove 5 = .ok (.lload_n 2, 1) := by decide +kernel
theorem dX5_isAbove_6 : decode cX5_isAbove 6 = .ok (.ldc2_w 32, 3) := by decide +kernel
theorem dX5_isAbove_9 : decode cX5_isAbove 9 = .ok (.lxor, 1) := by decide +kernel
theorem dX5_isAbove_10 : decode cX5_isAbove 10 = .ok (.lcmp, 1) := by decide +kernel
theorem dX5_isAbove_11 : decode cX5_isAbove 11 = .ok (.ifCond .le 7, 3) := by decide +kernel
theorem dX5_isAbove_14 : decode cX5_isAbove 14 = .ok (.iconst 1, 1) := by decide +kernel
theorem dX5_isAbove_15 : decode cX5_isAbove 15 = .ok (.goto 4, 3) := by decide +kernel
theorem dX5_isAbove_18 : decode cX5_isAbove 18 = .ok (.iconst 0, 1) := by decide +kernel
theorem dX5_isAbove_19 : decode cX5_isAbove 19 = .ok (.ireturn, 1) := by decide +kernel
set_option maxRecDepth 20000 in
theorem ggX6_init_X2_init : GoodIn wsX6_init wsX2_init := goodIn_r _ [23, 24, 2, 3, 25, 26, 27, 28, 4, 29, 30, 31, 32, 33, 34, 35, 36, 113, 114, 115, 116, 99, 100, 101] (by decide +kernel) (by decide +kernel)
set_option maxRecDepth 20000 in
theorem gX6_init_X2_init_n21 : GoodIn wsX6_init (wsX2_init) := ggX6_init_X2_init
set_option maxRecDepth 20000 in
theorem ggX6_init_X0_init : GoodIn wsX6_init wsX0_init := goodIn_r _ [38, 39, 2, 3, 4, 40, 102, 103] (by decide +kernel) (by decide +kernel)
set_option maxRecDepth 20000 in
theorem gX6_init_X0_init_n38 : GoodIn wsX6_init (wsX0_init) := ggX6_init_X0_init
set_option maxRecDepth 20000 in
theorem ggX6_init_X1_init : GoodIn wsX6_init wsX1_init := goodIn_r _ [43, 44, 2, 3, 45, 9, 10, 46, 47, 48, 49, 50, 4, 51, 52, 53, 54, 55, 56, 57, 58, 22, 23, 24, 25, 26, 27, 28, 29, 30, 31, 32, 33, 34, 35, 36, 59, 60, 61, 62, 63, 64, 65, 66, 99, 100, 101, 104, 105, 106, 107, 108, 109, 110, 111, 112, 117, 118, 119, 120, 121, 113, 114, 115, 116] (by decide +kernel) (by decide +kernel)
set_option maxRecDepth 20000 in
theorem gX6_init_X1_init : GoodIn wsX6_init (wsX1_init) := ggX6_init_X1_init
set_option maxRecDepth 20000 in
theorem ggX6_init_X6_init_ : GoodIn wsX6_init wsX6_init_ := goodIn_r _ [71, 5, 15, 13, 18, 19, 72, 73, 74, 75, 17, 76, 77, 78, 79, 80, 21, 81, 82, 83, 57, 84, 85, 86, 56, 87, 88, 89, 90, 91, 92, 93, 94, 95, 96, 97, 98, 102, 103, 104, 105, 106, 107, 108, 109, 110, 111, 112, 120, 121] (by decide +kernel) (by decide +kernel)
set_option maxRecDepth 20000 in
theorem gX6_init_X6_init_ : GoodIn wsX6_init (wsV RX6 49 RX6 yX6_init_ wsX6_init_) := goodIn_app (goodIn_of _ (by decide +kernel)) ggX6_init_X6_init_
theorem dX6_init_0 : decode cX6_init 0 = .ok (.aload_n 0, 1) := by decide +kernel
theorem dX6_init_1 : decode cX6_init 1 = .ok (.invokespecial 3, 3) := by decide +kernel
theorem dX6_init_4 : decode cX6_init 4 = .ok (.aload_n 0, 1) := by decide +kernel
theorem dX6_init_5 : decode cX6_init 5 = .ok (.bipush 32, 2) := by decide +kernel
theorem dX6_init_7 : decode cX6_init 7 = .ok (.newarray .int, 2) := by decide +kernel
theorem dX6_init_9 : decode cX6_init 9 = .ok (.putfield 9, 3) := by decide +kernel
theorem dX6_init_12 : decode cX6_init 12 = .ok (.aload_n 0, 1) := by decide +kernel
theorem dX6_init_13 : decode cX6_init 13 = .ok (.bipush 32, 2) := by decide +kernel
theorem dX6_init_15 : decode cX6_init 15 = .ok (.newarray .int, 2) := by decide +kernel
theorem dX6_init_17 : decode cX6_init 17 = .ok (.putfield 13, 3) := by decide +kernel
theorem dX6_init_20 : decode cX6_init 20 = .ok (.aload_n 0, 1) := by decide +kernel
theorem dX6_init_21 : decode cX6_init 21 = .ok (.bipush 32, 2) := by decide +kernel
theorem dX6_init_23 : decode cX6_init 23 = .ok (.newarray .int, 2) := by decide +kernel
theorem dX6_init_25 : decode cX6_init 25 = .ok (.putfield 16, 3) := by decide +kernel
theorem dX6_init_28 : decode cX6_init 28 = .ok (.aload_n 0, 1) := by decide +kernel
theorem dX6_init_29 : decode cX6_init 29 = .ok (.new 19, 3) := by decide +kernel
theorem dX6_init_32 : decode cX6_init 32 = .ok (.dup, 1) := by decide +kernel
theorem dX6_init_33 : decode cX6_init 33 = .ok (.invokespecial 21, 3) := by decide +kernel
theorem dX6_init_36 : decode cX6_init 36 = .ok (.putfield 22, 3) := by decide +kernel
theorem dX6_init_39 : decode cX6_init 39 = .ok (.aload_n 0, 1) := by decide +kernel
theorem dX6_init_40 : decode cX6_init 40 = .ok (.iconst 2, 1) := by decide +kernel
theorem dX6_init_41 : decode cX6_init 41 = .ok (.anewarray 26, 3) := by decide +kernel
theorem dX6_init_44 : decode cX6_init 44 = .ok (.putfield 28, 3) := by decide +kernel
theorem dX6_init_47 : decode cX6_init 47 = .ok (.aload_n 0, 1) := by decide +kernel
theorem dX6_init_48 : decode cX6_init 48 = .ok (.bipush 8, 2) := by decide +kernel
theorem dX6_init_50 : decode cX6_init 50 = .ok (.anewarray 32, 3) := by decide +kernel
theorem dX6_init_53 : decode cX6_init 53 = .ok (.putfield 34, 3) := by decide +kernel
theorem dX6_init_56 : decode cX6_init 56 = .ok (.aload_n 0, 1) := by decide +kernel
theorem dX6_init_57 : decode cX6_init 57 = .ok (.new 32, 3) := by decide +kernel
theorem dX6_init_60 : decode cX6_init 60 = .ok (.dup, 1) := by decide +kernel
theorem dX6_init_61 : decode cX6_init 61 = .ok (.invokespecial 38, 3) := by decide +kernel
theorem dX6_init_64 : decode cX6_init 64 = .ok (.putfield 39, 3) := by decide +kernel
theorem dX6_init_67 : decode cX6_init 67 = .ok (.aload_n 0, 1) := by decide +kernel
theorem dX6_init_68 : decode cX6_init 68 = .ok (.new 32, 3) := by decide +kernel
theorem dX6_init_71 : decode cX6_init 71 = .ok (.dup, 1) := by decide +kernel
theorem dX6_init_72 : decode cX6_init 72 = .ok (.invokespecial 38, 3) := by decide +kernel
theorem dX6_init_75 : decode cX6_init 75 = .ok (.putfield 43, 3) := by decide +kernel
theorem dX6_init_78 : decode cX6_init 78 = .ok (.iconst 0, 1) := by decide +kernel
theorem dX6_init_79 : decode cX6_init 79 = .ok (.istore_n 1, 1) := by decide +kernel
theorem dX6_init_80 : decode cX6_init 80 = .ok (.iload_n 1, 1) := by decide +kernel
theorem dX6_init_81 : decode cX6_init 81 = .ok (.iconst 2, 1) := by decide +kernel
theorem dX6_init_82 : decode cX6_init 82 = .ok (.if_icmp .ge 23, 3) := by decide +kernel
theorem dX6_init_85 : decode cX6_init 85 = .ok (.aload_n 0, 1) := by decide +kernel
theorem dX6_init_86 : decode cX6_init 86 = .ok (.getfield 28, 3) := by decide +kernel
theorem dX6_init_89 : decode cX6_init 89 = .ok (.iload_n 1, 1) := by decide +kernel
theorem dX6_init_90 : decode cX6_init 90 = .ok (.new 26, 3) := by decide +kernel
theorem dX6_init_93 : decode cX6_init 93 = .ok (.dup, 1) := by decide +kernel
theorem dX6_init_94 : decode cX6_init 94 = .ok (.iload_n 1, 1) := by decide +kernel
theorem dX6_init_95 : decode cX6_init 95 = .ok (.invokespecial 46, 3) := by decide +kernel
theorem dX6_init_98 : decode cX6_init 98 = .ok (.aastore, 1) := by decide +kernel
theorem dX6_init_99 : decode cX6_init 99 = .ok (.iinc 1 1, 3) := by decide +kernel
theorem dX6_init_102 : decode cX6_init 102 = .ok (.goto (-22), 3) := by decide +kernel
theorem dX6_init_105 : decode cX6_init 105 = .ok (.iconst 0, 1) := by decide +kernel
theorem dX6_init_106 : decode cX6_init 106 = .ok (.istore_n 1, 1) := by decide +kernel
theorem dX6_init_107 : decode cX6_init 107 = .ok (.iload_n 1, 1) := by decide +kernel
theorem dX6_init_108 : decode cX6_init 108 = .ok (.bipush 8, 2) := by decide +kernel
theorem dX6_init_110 : decode cX6_init 110 = .ok (.if_icmp .ge 22, 3) := by decide +kernel
theorem dX6_init_113 : decode cX6_init 113 = .ok (.aload_n 0, 1) := by decide +kernel
theorem dX6_init_114 : decode cX6_init 114 = .ok (.getfield 34, 3) := by decide +kernel
theorem dX6_init_117 : decode cX6_init 117 = .ok (.iload_n 1, 1) := by decide +kernel
theorem dX6_init_118 : decode cX6_init 118 = .ok (.new 32, 3) := by decide +kernel
theorem dX6_init_121 : decode cX6_init 121 = .ok (.dup, 1) := by decide +kernel
theorem dX6_init_122 : decode cX6_init 122 = .ok (.invokespecial 38, 3) := by decide +kernel
theorem dX6_init_125 : decode cX6_init 125 = .ok (.aastore, 1) := by decide +kernel
theorem dX6_init_126 : decode cX6_init 126 = .ok (.iinc 1 1, 3) := by decide +kernel
theorem dX6_init_129 : decode cX6_init 129 = .ok (.goto (-22), 3) := by decide +kernel
theorem dX6_init_132 : decode cX6_init 132 = .ok (.aload_n 0, 1) := by decide +kernel
theorem dX6_init_133 : decode cX6_init 133 = .ok (.invokevirtual 49, 3) := by decide +kernel
theorem dX6_init_136 : decode cX6_init 136 = .ok (.return_, 1) := by decide +kernel
set_option maxRecDepth 20000 in
theorem ggX6_init__X0_clear : GoodIn wsX6_init_ wsX0_clear := goodIn_r _ [11, 12, 37, 38] (by decide +kernel) (by decide +kernel)
set_option maxRecDepth 20000 in
theorem gX6_init__X0_clear : GoodIn wsX6_init_ (wsV RX6 52 RX0 yX0_clear wsX0_clear) := goodIn_app (goodIn_of _ (by decide +kernel)) ggX6_init__X0_clear
set_option maxRecDepth 20000 in
theorem ggX6_init__X1_forget : GoodIn wsX6_init_ wsX1_forget := goodIn_r _ [17, 18, 19, 20, 21, 22, 23, 24, 25, 26, 27, 39, 40, 41, 42, 43, 44, 45, 46, 47, 48, 49] (by decide +kernel) (by decide +kernel)
set_option maxRecDepth 20000 in
theorem gX6_init__X1_forget : GoodIn wsX6_init_ (wsV RX6 55 RX1 yX1_forget wsX1_forget) := goodIn_app (goodIn_of _ (by decide +kernel)) ggX6_init__X1_forget
theorem dX6_init__0 : decode cX6_init_ 0 = .ok (.iconst 0, 1) := by decide +kernel
theorem dX6_init__1 : decode cX6_init_ 1 = .ok (.istore_n 1, 1) := by decide +kernel
theorem dX6_init__2 : decode cX6_init_ 2 = .ok (.iload_n 1, 1) := by decide +kernel
theorem dX6_init__3 : decode cX6_init_ 3 = .ok (.bipush 32, 2) := by decide +kernel
theorem dX6_init__5 : decode cX6_init_ 5 = .ok (.if_icmp .ge 16, 3) := by decide +kernel
theorem dX6_init__8 : decode cX6_init_ 8 = .ok (.aload_n 0, 1) := by decide +kernel
theorem dX6_init__9 : decode cX6_init_ 9 = .ok (.getfield 9, 3) := by decide +kernel
theorem dX6_init__12 : decode cX6_init_ 12 = .ok (.iload_n 1, 1) := by decide +kernel
theorem dX6_init__13 : decode cX6_init_ 13 = .ok (.iconst 0, 1) := by decide +kernel
theorem dX6_init__14 : decode cX6_init_ 14 = .ok (.iastore, 1) := by decide +kernel
theorem dX6_init__15 : decode cX6_init_ 15 = .ok (.iinc 1 1, 3) := by decide +kernel
theorem dX6_init__18 : decode cX6_init_ 18 = .ok (.goto (-16), 3) := by decide +kernel
theorem dX6_init__21 : decode cX6_init_ 21 = .ok (.iconst 0, 1) := by decide +kernel
theorem dX6_init__22 : decode cX6_init_ 22 = .ok (.istore_n 1, 1) := by decide +kernel
theorem dX6_init__23 : decode cX6_init_ 23 = .ok (.iload_n 1, 1) := by decide +kernel
theorem dX6_init__24 : decode cX6_init_ 24 = .ok (.bipush 8, 2) := by decide +kernel
theorem dX6_init__26 : decode cX6_init_ 26 = .ok (.if_icmp .ge 18, 3) := by decide +kernel
theorem dX6_init__29 : decode cX6_init_ 29 = .ok (.aload_n 0, 1) := by decide +kernel
theorem dX6_init__30 : decode cX6_init_ 30 = .ok (.getfield 34, 3) := by decide +kernel
theorem dX6_init__33 : decode cX6_init_ 33 = .ok (.iload_n 1, 1) := by decide +kernel
theorem dX6_init__34 : decode cX6_init_ 34 = .ok (.aaload, 1) := by decide +kernel
theorem dX6_init__35 : decode cX6_init_ 35 = .ok (.invokevirtual 52, 3) := by decide +kernel
theorem dX6_init__38 : decode cX6_init_ 38 = .ok (.iinc 1 1, 3) := by decide +kernel
theorem dX6_init__41 : decode cX6_init_ 41 = .ok (.goto (-18), 3) := by decide +kernel
theorem dX6_init__44 : decode cX6_init_ 44 = .ok (.iconst 0, 1) := by decide +kernel
theorem dX6_init__45 : decode cX6_init_ 45 = .ok (.istore_n 1, 1) := by decide +kernel
theorem dX6_init__46 : decode cX6_init_ 46 = .ok (.iload_n 1, 1) := by decide +kernel
theorem dX6_init__47 : decode cX6_init_ 47 = .ok (.iconst 2, 1) := by decide +kernel
theorem dX6_init__48 : decode cX6_init_ 48 = .ok (.if_icmp .ge 18, 3) := by decide +kernel
theorem dX6_init__51 : decode cX6_init_ 51 = .ok (.aload_n 0, 1) := by decide +kernel
theorem dX6_init__52 : decode cX6_init_ 52 = .ok (.getfield 28, 3) := by decide +kernel
theorem dX6_init__55 : decode cX6_init_ 55 = .ok (.iload_n 1, 1) := by decide +kernel
theorem dX6_init__56 : decode cX6_init_ 56 = .ok (.aaload, 1) := by decide +kernel
theorem dX6_init__57 : decode cX6_init_ 57 = .ok (.invokevirtual 55, 3) := by decide +kernel
theorem dX6_init__60 : decode cX6_init_ 60 = .ok (.iinc 1 1, 3) := by decide +kernel
theorem dX6_init__63 : decode cX6_init_ 63 = .ok (.goto (-17), 3) := by decide +kernel
theorem dX6_init__66 : decode cX6_init_ 66 = .ok (.aload_n 0, 1) := by decide +kernel
theorem dX6_init__67 : decode cX6_init_ 67 = .ok (.getfield 39, 3) := by decide +kernel
theorem dX6_init__70 : decode cX6_init_ 70 = .ok (.invokevirtual 52, 3) := by decide +kernel
theorem dX6_init__73 : decode cX6_init_ 73 = .ok (.aload_n 0, 1) := by decide +kernel
theorem dX6_init__74 : decode cX6_init_ 74 = .ok (.getfield 43, 3) := by decide +kernel
theorem dX6_init__77 : decode cX6_init_ 77 = .ok (.invokevirtual 52, 3) := by decide +kernel
theorem dX6_init__80 : decode cX6_init_ 80 = .ok (.aload_n 0, 1) := by decide +kernel
theorem dX6_init__81 : decode cX6_init_ 81 = .ok (.iconst 0, 1) := by decide +kernel
theorem dX6_init__82 : decode cX6_init_ 82 = .ok (.putfield 58, 3) := by decide +kernel
theorem dX6_init__85 : decode cX6_init_ 85 = .ok (.return_, 1) := by decide +kernel
set_option maxRecDepth 20000 in
theorem ggX6_setPsk_X6_isByte : GoodIn wsX6_setPsk wsX6_isByte := goodIn_r _ [6] (by decide +kernel) (by decide +kernel)
set_option maxRecDepth 20000 in
theorem gX6_setPsk_X6_isByte : GoodIn wsX6_setPsk (va_wsS RX6 62 yX6_isByte wsX6_isByte) := goodIn_app (goodIn_of _ (by decide +kernel)) ggX6_setPsk_X6_isByte
theorem dX6_setPsk_0 : decode cX6_setPsk 0 = .ok (.aload_n 0, 1) := by decide +kernel
theorem dX6_setPsk_1 : decode cX6_setPsk 1 = .ok (.getfield 58, 3) := by decide +kernel
theorem dX6_setPsk_4 : decode cX6_setPsk 4 = .ok (.ifCond .ne 20, 3) := by decide +kernel
theorem dX6_setPsk_7 : decode cX6_setPsk 7 = .ok (.iload_n 1, 1) := by decide +kernel
theorem dX6_setPsk_8 : decode cX6_setPsk 8 = .ok (.ifCond .lt 16, 3) := by decide +kernel
theorem dX6_setPsk_11 : decode cX6_setPsk 11 = .ok (.iload_n 1, 1) := by decide +kernel
theorem dX6_setPsk_12 : decode cX6_setPsk 12 = .ok (.bipush 32, 2) := by decide +kernel
theorem dX6_setPsk_14 : decode cX6_setPsk 14 = .ok (.if_icmp .ge 10, 3) := by decide +kernel
theorem dX6_setPsk_17 : decode cX6_setPsk 17 = .ok (.iload_n 2, 1) := by decide +kernel
theorem dX6_setPsk_18 : decode cX6_setPsk 18 = .ok (.invokestatic 62, 3) := by decide +kernel
theorem dX6_setPsk_21 : decode cX6_setPsk 21 = .ok (.ifCond .ne 5, 3) := by decide +kernel
theorem dX6_setPsk_24 : decode cX6_setPsk 24 = .ok (.iconst 0, 1) := by decide +kernel
theorem dX6_setPsk_25 : decode cX6_setPsk 25 = .ok (.ireturn, 1) := by decide +kernel
theorem dX6_setPsk_26 : decode cX6_setPsk 26 = .ok (.aload_n 0, 1) := by decide +kernel
theorem dX6_setPsk_27 : decode cX6_setPsk 27 = .ok (.getfield 9, 3) := by decide +kernel
theorem dX6_setPsk_30 : decode cX6_setPsk 30 = .ok (.iload_n 1, 1) := by decide +kernel
theorem dX6_setPsk_31 : decode cX6_setPsk 31 = .ok (.iload_n 2, 1) := by decide +kernel
theorem dX6_setPsk_32 : decode cX6_setPsk 32 = .ok (.iastore, 1) := by decide +kernel
theorem dX6_setPsk_33 : decode cX6_setPsk 33 = .ok (.iconst 1, 1) := by decide +kernel
theorem dX6_setPsk_34 : decode cX6_setPsk 34 = .ok (.ireturn, 1) := by decide +kernel
set_option maxRecDepth 20000 in
theorem ggX6_open_X2_begin : GoodIn wsX6_open wsX2_begin := goodIn_r _ [11, 12, 13, 14, 15, 10, 16, 17, 18, 19, 20, 21, 22, 23, 24, 25, 26, 27, 28, 106, 107, 108, 109, 110, 111, 112] (by decide +kernel) (by decide +kernel)
set_option maxRecDepth 20000 in
theorem gX6_open_X2_begin : GoodIn wsX6_open (wsV RX6 66 RX2 yX2_begin wsX2_begin) := goodIn_app (goodIn_of _ (by decide +kernel)) ggX6_open_X2_begin
set_option maxRecDepth 20000 in
theorem ggX6_open_X2_appendAll : GoodIn wsX6_open wsX2_appendAll := goodIn_r _ [32, 17, 24, 25, 26, 21, 27, 23, 28, 106, 107, 108, 109, 110, 111, 112] (by decide +kernel) (by decide +kernel)
set_option maxRecDepth 20000 in
theorem gX6_open_X2_appendAll : GoodIn wsX6_open (wsV RX6 70 RX2 yX2_appendAll wsX2_appendAll) := goodIn_app (goodIn_of _ (by decide +kernel)) ggX6_open_X2_appendAll
set_option maxRecDepth 20000 in
theorem ggX6_open_X2_finish : GoodIn wsX6_open wsX2_finish := goodIn_r _ [36, 17, 37, 38, 39, 40, 21, 41, 42, 43, 23, 44, 45, 46, 47, 48, 49, 25, 26, 27, 28, 50, 51, 52, 53, 54, 55, 56, 57, 58, 59, 60, 61, 62, 13, 14, 15, 10, 16, 12, 18, 19, 20, 22, 24, 63, 30, 31, 32, 106, 107, 108, 109, 110, 111, 112] (by decide +kernel) (by decide +kernel)
set_option maxRecDepth 20000 in
theorem gX6_open_X2_finish : GoodIn wsX6_open (wsV RX6 73 RX2 yX2_finish wsX2_finish) := goodIn_app (goodIn_of _ (by decide +kernel)) ggX6_open_X2_finish
set_option maxRecDepth 20000 in
theorem ggX6_open_X1_startEpoch : GoodIn wsX6_open wsX1_startEpoch := goodIn_r _ [68, 69, 70, 71, 72, 73, 74, 67, 75, 76, 77, 78, 8, 9, 10, 11, 12, 13, 14, 15, 16, 17, 18, 19, 20, 21, 22, 23, 24, 25, 26, 27, 28, 79, 80, 81, 82, 83, 34, 35, 36, 37, 38, 39, 40, 41, 42, 43, 44, 45, 46, 47, 48, 49, 50, 51, 52, 53, 54, 55, 56, 57, 58, 59, 60, 61, 62, 63, 30, 31, 32, 84, 85, 86, 87, 88, 89, 90, 91, 92, 93, 94, 95, 96, 113, 114, 115, 116, 117, 118, 119, 120, 121, 106, 107, 108, 109, 110, 111, 112, 122, 123] (by decide +kernel) (by decide +kernel)
set_option maxRecDepth 20000 in
theorem gX6_open_X1_startEpoch : GoodIn wsX6_open (wsV RX6 76 RX1 yX1_startEpoch wsX1_startEpoch) := goodIn_app (goodIn_of _ (by decide +kernel)) ggX6_open_X1_startEpoch
theorem dX6_open_0 : decode cX6_open 0 = .ok (.aload_n 0, 1) := by decide +kernel
theorem dX6_open_1 : decode cX6_open 1 = .ok (.getfield 58, 3) := by decide +kernel
theorem dX6_open_4 : decode cX6_open 4 = .ok (.ifCond .eq 4, 3) := by decide +kernel
theorem dX6_open_7 : decode cX6_open 7 = .ok (.return_, 1) := by decide +kernel
theorem dX6_open_8 : decode cX6_open 8 = .ok (.aload_n 0, 1) := by decide +kernel
theorem dX6_open_9 : decode cX6_open 9 = .ok (.getfield 22, 3) := by decide +kernel
theorem dX6_open_12 : decode cX6_open 12 = .ok (.aload_n 0, 1) := by decide +kernel
theorem dX6_open_13 : decode cX6_open 13 = .ok (.getfield 13, 3) := by decide +kernel
theorem dX6_open_16 : decode cX6_open 16 = .ok (.invokevirtual 66, 3) := by decide +kernel
theorem dX6_open_19 : decode cX6_open 19 = .ok (.aload_n 0, 1) := by decide +kernel
theorem dX6_open_20 : decode cX6_open 20 = .ok (.getfield 22, 3) := by decide +kernel
theorem dX6_open_23 : decode cX6_open 23 = .ok (.aload_n 0, 1) := by decide +kernel
theorem dX6_open_24 : decode cX6_open 24 = .ok (.getfield 9, 3) := by decide +kernel
theorem dX6_open_27 : decode cX6_open 27 = .ok (.invokevirtual 70, 3) := by decide +kernel
theorem dX6_open_30 : decode cX6_open 30 = .ok (.aload_n 0, 1) := by decide +kernel
theorem dX6_open_31 : decode cX6_open 31 = .ok (.getfield 22, 3) := by decide +kernel
theorem dX6_open_34 : decode cX6_open 34 = .ok (.aload_n 0, 1) := by decide +kernel
theorem dX6_open_35 : decode cX6_open 35 = .ok (.getfield 16, 3) := by decide +kernel
theorem dX6_open_38 : decode cX6_open 38 = .ok (.invokevirtual 73, 3) := by decide +kernel
theorem dX6_open_41 : decode cX6_open 41 = .ok (.iconst 0, 1) := by decide +kernel
theorem dX6_open_42 : decode cX6_open 42 = .ok (.istore_n 1, 1) := by decide +kernel
theorem dX6_open_43 : decode cX6_open 43 = .ok (.iload_n 1, 1) := by decide +kernel
theorem dX6_open_44 : decode cX6_open 44 = .ok (.iconst 2, 1) := by decide +kernel
theorem dX6_open_45 : decode cX6_open 45 = .ok (.if_icmp .ge 23, 3) := by decide +kernel
theorem dX6_open_48 : decode cX6_open 48 = .ok (.aload_n 0, 1) := by decide +kernel
theorem dX6_open_49 : decode cX6_open 49 = .ok (.getfield 28, 3) := by decide +kernel
theorem dX6_open_52 : decode cX6_open 52 = .ok (.iload_n 1, 1) := by decide +kernel
theorem dX6_open_53 : decode cX6_open 53 = .ok (.aaload, 1) := by decide +kernel
theorem dX6_open_54 : decode cX6_open 54 = .ok (.iconst 0, 1) := by decide +kernel
theorem dX6_open_55 : decode cX6_open 55 = .ok (.aload_n 0, 1) := by decide +kernel
theorem dX6_open_56 : decode cX6_open 56 = .ok (.getfield 16, 3) := by decide +kernel
theorem dX6_open_59 : decode cX6_open 59 = .ok (.invokevirtual 76, 3) := by decide +kernel
theorem dX6_open_62 : decode cX6_open 62 = .ok (.iinc 1 1, 3) := by decide +kernel
theorem dX6_open_65 : decode cX6_open 65 = .ok (.goto (-22), 3) := by decide +kernel
theorem dX6_open_68 : decode cX6_open 68 = .ok (.aload_n 0, 1) := by decide +kernel
theorem dX6_open_69 : decode cX6_open 69 = .ok (.iconst 1, 1) := by decide +kernel
theorem dX6_open_70 : decode cX6_open 70 = .ok (.putfield 58, 3) := by decide +kernel
theorem dX6_open_73 : decode cX6_open 73 = .ok (.return_, 1) := by decide +kernel
set_option maxRecDepth 20000 in
theorem ggX6_put_X6_isByte : GoodIn wsX6_put wsX6_isByte := goodIn_r _ [5] (by decide +kernel) (by decide +kernel)
set_option maxRecDepth 20000 in
theorem gX6_put_X6_isByte : GoodIn wsX6_put (va_wsS RX6 62 yX6_isByte wsX6_isByte) := goodIn_app (goodIn_of _ (by decide +kernel)) ggX6_put_X6_isByte
set_option maxRecDepth 20000 in
theorem ggX6_put_X0_size : GoodIn wsX6_put wsX0_size := goodIn_r _ [10, 11, 26, 27] (by decide +kernel) (by decide +kernel)
set_option maxRecDepth 20000 in
theorem gX6_put_X0_size : GoodIn wsX6_put (wsV RX6 80 RX0 yX0_size wsX0_size) := goodIn_app (goodIn_of _ (by decide +kernel)) ggX6_put_X0_size
set_option maxRecDepth 20000 in
theorem ggX6_put_X0_append : GoodIn wsX6_put wsX0_append := goodIn_r _ [15, 11, 16, 26, 27] (by decide +kernel) (by decide +kernel)
set_option maxRecDepth 20000 in
theorem gX6_put_X0_append : GoodIn wsX6_put (wsV RX6 84 RX0 yX0_append wsX0_append) := goodIn_app (goodIn_of _ (by decide +kernel)) ggX6_put_X0_append
theorem dX6_put_0 : decode cX6_put 0 = .ok (.iload_n 1, 1) := by decide +kernel
theorem dX6_put_1 : decode cX6_put 1 = .ok (.invokestatic 62, 3) := by decide +kernel
theorem dX6_put_4 : decode cX6_put 4 = .ok (.ifCond .eq 15, 3) := by decide +kernel
theorem dX6_put_7 : decode cX6_put 7 = .ok (.aload_n 0, 1) := by decide +kernel
theorem dX6_put_8 : decode cX6_put 8 = .ok (.getfield 39, 3) := by decide +kernel
theorem dX6_put_11 : decode cX6_put 11 = .ok (.invokevirtual 80, 3) := by decide +kernel
theorem dX6_put_14 : decode cX6_put 14 = .ok (.bipush 96, 2) := by decide +kernel
theorem dX6_put_16 : decode cX6_put 16 = .ok (.if_icmp .lt 5, 3) := by decide +kernel
theorem dX6_put_19 : decode cX6_put 19 = .ok (.iconst 0, 1) := by decide +kernel
theorem dX6_put_20 : decode cX6_put 20 = .ok (.ireturn, 1) := by decide +kernel
theorem dX6_put_21 : decode cX6_put 21 = .ok (.aload_n 0, 1) := by decide +kernel
theorem dX6_put_22 : decode cX6_put 22 = .ok (.getfield 39, 3) := by decide +kernel
theorem dX6_put_25 : decode cX6_put 25 = .ok (.iload_n 1, 1) := by decide +kernel
theorem dX6_put_26 : decode cX6_put 26 = .ok (.invokevirtual 84, 3) := by decide +kernel
theorem dX6_put_29 : decode cX6_put 29 = .ok (.iconst 1, 1) := by decide +kernel
theorem dX6_put_30 : decode cX6_put 30 = .ok (.ireturn, 1) := by decide +kernel
set_option maxRecDepth 20000 in
theorem ggX6_send_X6_isSide : GoodIn wsX6_send wsX6_isSide := goodIn_r _ [8] (by decide +kernel) (by decide +kernel)
set_option maxRecDepth 20000 in
theorem gX6_send_X6_isSide : GoodIn wsX6_send (va_wsS RX6 87 yX6_isSide wsX6_isSide) := goodIn_app (goodIn_of _ (by decide +kernel)) ggX6_send_X6_isSide
set_option maxRecDepth 20000 in
theorem ggX6_send_X6_firstEmptySlot : GoodIn wsX6_send wsX6_firstEmptySlot := goodIn_r _ [12, 4, 13, 14, 15, 16, 17, 18, 161, 162, 163, 164, 165, 166, 167, 168, 169, 170, 171] (by decide +kernel) (by decide +kernel)
set_option maxRecDepth 20000 in
theorem gX6_send_X6_firstEmptySlot : GoodIn wsX6_send (wsV RX6 90 RX6 yX6_firstEmptySlot wsX6_firstEmptySlot) := goodIn_app (goodIn_of _ (by decide +kernel)) ggX6_send_X6_firstEmptySlot
set_option maxRecDepth 20000 in
theorem ggX6_send_X1_write : GoodIn wsX6_send wsX1_write := goodIn_r _ [23, 24, 25, 26, 27, 28, 29, 30, 31, 32, 16, 33, 18, 34, 35, 36, 37, 38, 39, 40, 41, 42, 43, 44, 45, 46, 47, 48, 49, 50, 51, 52, 53, 54, 55, 56, 57, 58, 59, 60, 61, 62, 63, 64, 65, 66, 67, 68, 69, 70, 71, 72, 73, 74, 75, 76, 77, 78, 79, 80, 81, 82, 83, 84, 85, 86, 87, 88, 89, 90, 91, 92, 93, 94, 95, 96, 22, 97, 98, 99, 100, 101, 102, 103, 104, 105, 106, 107, 108, 109, 110, 111, 112, 113, 114, 115, 116, 117, 118, 119, 120, 121, 122, 123, 124, 125, 126, 127, 128, 129, 130, 131, 132, 133, 134, 135, 136, 137, 138, 139, 140, 141, 142, 143, 144, 145, 146, 147, 148, 149, 150, 151, 152, 153, 154, 155, 156, 157, 158, 159, 172, 173, 174, 175, 176, 177, 178, 179, 180, 170, 171, 181, 182, 183, 184, 185, 186, 187, 188, 189, 190] (by decide +kernel) (by decide +kernel)
set_option maxRecDepth 20000 in
theorem gX6_send_X1_write : GoodIn wsX6_send (wsV RX6 93 RX1 yX1_write wsX1_write) := goodIn_app (goodIn_of _ (by decide +kernel)) ggX6_send_X1_write
set_option maxRecDepth 20000 in
theorem ggX6_send_X0_clear : GoodIn wsX6_send wsX0_clear := goodIn_r _ [37, 18, 170, 171] (by decide +kernel) (by decide +kernel)
set_option maxRecDepth 20000 in
theorem gX6_send_X0_clear : GoodIn wsX6_send (wsV RX6 52 RX0 yX0_clear wsX0_clear) := goodIn_app (goodIn_of _ (by decide +kernel)) ggX6_send_X0_clear
theorem dX6_send_0 : decode cX6_send 0 = .ok (.iload_n 1, 1) := by decide +kernel
theorem dX6_send_1 : decode cX6_send 1 = .ok (.invokestatic 87, 3) := by decide +kernel
theorem dX6_send_4 : decode cX6_send 4 = .ok (.ifCond .eq 10, 3) := by decide +kernel
theorem dX6_send_7 : decode cX6_send 7 = .ok (.aload_n 0, 1) := by decide +kernel
theorem dX6_send_8 : decode cX6_send 8 = .ok (.getfield 58, 3) := by decide +kernel
theorem dX6_send_11 : decode cX6_send 11 = .ok (.ifCond .ne 5, 3) := by decide +kernel
theorem dX6_send_14 : decode cX6_send 14 = .ok (.iconst (-1), 1) := by decide +kernel
theorem dX6_send_15 : decode cX6_send 15 = .ok (.ireturn, 1) := by decide +kernel
theorem dX6_send_16 : decode cX6_send 16 = .ok (.aload_n 0, 1) := by decide +kernel
theorem dX6_send_17 : decode cX6_send 17 = .ok (.invokevirtual 90, 3) := by decide +kernel
theorem dX6_send_20 : decode cX6_send 20 = .ok (.istore_n 2, 1) := by decide +kernel
theorem dX6_send_21 : decode cX6_send 21 = .ok (.iload_n 2, 1) := by decide +kernel
theorem dX6_send_22 : decode cX6_send 22 = .ok (.iconst (-1), 1) := by decide +kernel
theorem dX6_send_23 : decode cX6_send 23 = .ok (.if_icmp .ne 6, 3) := by decide +kernel
theorem dX6_send_26 : decode cX6_send 26 = .ok (.bipush (-2), 2) := by decide +kernel
theorem dX6_send_28 : decode cX6_send 28 = .ok (.ireturn, 1) := by decide +kernel
theorem dX6_send_29 : decode cX6_send 29 = .ok (.aload_n 0, 1) := by decide +kernel
theorem dX6_send_30 : decode cX6_send 30 = .ok (.getfield 28, 3) := by decide +kernel
theorem dX6_send_33 : decode cX6_send 33 = .ok (.iload_n 1, 1) := by decide +kernel
theorem dX6_send_34 : decode cX6_send 34 = .ok (.aaload, 1) := by decide +kernel
theorem dX6_send_35 : decode cX6_send 35 = .ok (.aload_n 0, 1) := by decide +kernel
theorem dX6_send_36 : decode cX6_send 36 = .ok (.getfield 39, 3) := by decide +kernel
theorem dX6_send_39 : decode cX6_send 39 = .ok (.aload_n 0, 1) := by decide +kernel
theorem dX6_send_40 : decode cX6_send 40 = .ok (.getfield 34, 3) := by decide +kernel
theorem dX6_send_43 : decode cX6_send 43 = .ok (.iload_n 2, 1) := by decide +kernel
theorem dX6_send_44 : decode cX6_send 44 = .ok (.aaload, 1) := by decide +kernel
theorem dX6_send_45 : decode cX6_send 45 = .ok (.invokevirtual 93, 3) := by decide +kernel
theorem dX6_send_48 : decode cX6_send 48 = .ok (.aload_n 0, 1) := by decide +kernel
theorem dX6_send_49 : decode cX6_send 49 = .ok (.getfield 39, 3) := by decide +kernel
theorem dX6_send_52 : decode cX6_send 52 = .ok (.invokevirtual 52, 3) := by decide +kernel
theorem dX6_send_55 : decode cX6_send 55 = .ok (.iload_n 2, 1) := by decide +kernel
theorem dX6_send_56 : decode cX6_send 56 = .ok (.ireturn, 1) := by decide +kernel
set_option maxRecDepth 20000 in
theorem ggX6_deliver_X6_isSlot : GoodIn wsX6_deliver wsX6_isSlot := goodIn_r _ [8] (by decide +kernel) (by decide +kernel)
set_option maxRecDepth 20000 in
theorem gX6_deliver_X6_isSlot : GoodIn wsX6_deliver (va_wsS RX6 97 yX6_isSlot wsX6_isSlot) := goodIn_app (goodIn_of _ (by decide +kernel)) ggX6_deliver_X6_isSlot
set_option maxRecDepth 20000 in
theorem ggX6_deliver_X6_isSide : GoodIn wsX6_deliver wsX6_isSide := goodIn_r _ [11] (by decide +kernel) (by decide +kernel)
set_option maxRecDepth 20000 in
theorem gX6_deliver_X6_isSide : GoodIn wsX6_deliver (va_wsS RX6 87 yX6_isSide wsX6_isSide) := goodIn_app (goodIn_of _ (by decide +kernel)) ggX6_deliver_X6_isSide
set_option maxRecDepth 20000 in
theorem ggX6_deliver_X0_isEmpty : GoodIn wsX6_deliver wsX0_isEmpty := goodIn_r _ [16, 17, 203, 204] (by decide +kernel) (by decide +kernel)
set_option maxRecDepth 20000 in
theorem gX6_deliver_X0_isEmpty : GoodIn wsX6_deliver (wsV RX6 100 RX0 yX0_isEmpty wsX0_isEmpty) := goodIn_app (goodIn_of _ (by decide +kernel)) ggX6_deliver_X0_isEmpty
set_option maxRecDepth 20000 in
theorem ggX6_deliver_X1_judge : GoodIn wsX6_deliver wsX1_judge := goodIn_r _ [22, 23, 24, 25, 26, 27, 21, 28, 29, 30, 31, 32, 15, 33, 34, 35, 36, 37, 17, 38, 39, 40, 41, 42, 43, 44, 45, 46, 47, 48, 49, 50, 51, 52, 53, 54, 55, 56, 57, 58, 59, 60, 61, 62, 63, 64, 65, 66, 67, 68, 69, 70, 71, 72, 73, 74, 75, 76, 77, 78, 79, 80, 81, 82, 83, 84, 85, 86, 87, 88, 89, 90, 91, 92, 93, 94, 95, 96, 97, 98, 99, 100, 101, 102, 103, 104, 105, 106, 107, 108, 109, 110, 111, 112, 113, 114, 115, 116, 117, 118, 119, 120, 121, 122, 123, 124, 125, 126, 127, 128, 129, 130, 131, 132, 133, 205, 206, 207, 208, 209, 210, 211, 212, 213, 203, 204, 214, 215, 216, 217, 218, 219, 220, 221, 222] (by decide +kernel) (by decide +kernel)
set_option maxRecDepth 20000 in
theorem gX6_deliver_X1_judge : GoodIn wsX6_deliver (wsV RX6 104 RX1 yX1_judge wsX1_judge) := goodIn_app (goodIn_of _ (by decide +kernel)) ggX6_deliver_X1_judge
set_option maxRecDepth 20000 in
theorem ggX6_deliver_X1_read : GoodIn wsX6_deliver wsX1_read := goodIn_r _ [137, 138, 139, 24, 30, 31, 32, 15, 33, 34, 35, 36, 37, 17, 38, 140, 141, 142, 143, 144, 145, 146, 147, 148, 149, 150, 151, 152, 153, 154, 155, 156, 157, 158, 159, 160, 161, 39, 162, 163, 164, 165, 166, 167, 168, 169, 170, 171, 172, 173, 174, 175, 176, 177, 178, 179, 180, 181, 182, 183, 184, 185, 186, 187, 188, 189, 190, 191, 192, 118, 193, 120, 121, 122, 123, 124, 125, 126, 127, 128, 129, 205, 206, 207, 208, 209, 210, 211, 212, 213, 203, 204, 223, 224, 225, 221, 222] (by decide +kernel) (by decide +kernel)
set_option maxRecDepth 20000 in
theorem gX6_deliver_X1_read : GoodIn wsX6_deliver (wsV RX6 108 RX1 yX1_read wsX1_read) := goodIn_app (goodIn_of _ (by decide +kernel)) ggX6_deliver_X1_read
theorem dX6_deliver_0 : decode cX6_deliver 0 = .ok (.iload_n 1, 1) := by decide +kernel
theorem dX6_deliver_1 : decode cX6_deliver 1 = .ok (.invokestatic 97, 3) := by decide +kernel
theorem dX6_deliver_4 : decode cX6_deliver 4 = .ok (.ifCond .eq 29, 3) := by decide +kernel
theorem dX6_deliver_7 : decode cX6_deliver 7 = .ok (.iload_n 2, 1) := by decide +kernel
theorem dX6_deliver_8 : decode cX6_deliver 8 = .ok (.invokestatic 87, 3) := by decide +kernel
theorem dX6_deliver_11 : decode cX6_deliver 11 = .ok (.ifCond .eq 22, 3) := by decide +kernel
theorem dX6_deliver_14 : decode cX6_deliver 14 = .ok (.aload_n 0, 1) := by decide +kernel
theorem dX6_deliver_15 : decode cX6_deliver 15 = .ok (.getfield 58, 3) := by decide +kernel
theorem dX6_deliver_18 : decode cX6_deliver 18 = .ok (.ifCond .eq 15, 3) := by decide +kernel
theorem dX6_deliver_21 : decode cX6_deliver 21 = .ok (.aload_n 0, 1) := by decide +kernel
theorem dX6_deliver_22 : decode cX6_deliver 22 = .ok (.getfield 34, 3) := by decide +kernel
theorem dX6_deliver_25 : decode cX6_deliver 25 = .ok (.iload_n 1, 1) := by decide +kernel
theorem dX6_deliver_26 : decode cX6_deliver 26 = .ok (.aaload, 1) := by decide +kernel
theorem dX6_deliver_27 : decode cX6_deliver 27 = .ok (.invokevirtual 100, 3) := by decide +kernel
theorem dX6_deliver_30 : decode cX6_deliver 30 = .ok (.ifCond .eq 5, 3) := by decide +kernel
theorem dX6_deliver_33 : decode cX6_deliver 33 = .ok (.iconst 1, 1) := by decide +kernel
theorem dX6_deliver_34 : decode cX6_deliver 34 = .ok (.ireturn, 1) := by decide +kernel
theorem dX6_deliver_35 : decode cX6_deliver 35 = .ok (.aload_n 0, 1) := by decide +kernel
theorem dX6_deliver_36 : decode cX6_deliver 36 = .ok (.getfield 28, 3) := by decide +kernel
theorem dX6_deliver_39 : decode cX6_deliver 39 = .ok (.iconst 1, 1) := by decide +kernel
theorem dX6_deliver_40 : decode cX6_deliver 40 = .ok (.iload_n 2, 1) := by decide +kernel
theorem dX6_deliver_41 : decode cX6_deliver 41 = .ok (.isub, 1) := by decide +kernel
theorem dX6_deliver_42 : decode cX6_deliver 42 = .ok (.aaload, 1) := by decide +kernel
theorem dX6_deliver_43 : decode cX6_deliver 43 = .ok (.astore_n 3, 1) := by decide +kernel
theorem dX6_deliver_44 : decode cX6_deliver 44 = .ok (.aload_n 3, 1) := by decide +kernel
theorem dX6_deliver_45 : decode cX6_deliver 45 = .ok (.aload_n 0, 1) := by decide +kernel
theorem dX6_deliver_46 : decode cX6_deliver 46 = .ok (.getfield 34, 3) := by decide +kernel
theorem dX6_deliver_49 : decode cX6_deliver 49 = .ok (.iload_n 1, 1) := by decide +kernel
theorem dX6_deliver_50 : decode cX6_deliver 50 = .ok (.aaload, 1) := by decide +kernel
theorem dX6_deliver_51 : decode cX6_deliver 51 = .ok (.invokevirtual 104, 3) := by decide +kernel
theorem dX6_deliver_54 : decode cX6_deliver 54 = .ok (.istore 4, 2) := by decide +kernel
theorem dX6_deliver_56 : decode cX6_deliver 56 = .ok (.iload 4, 2) := by decide +kernel
theorem dX6_deliver_58 : decode cX6_deliver 58 = .ok (.ifCond .ne 17, 3) := by decide +kernel
theorem dX6_deliver_61 : decode cX6_deliver 61 = .ok (.aload_n 3, 1) := by decide +kernel
theorem dX6_deliver_62 : decode cX6_deliver 62 = .ok (.aload_n 0, 1) := by decide +kernel
theorem dX6_deliver_63 : decode cX6_deliver 63 = .ok (.getfield 34, 3) := by decide +kernel
theorem dX6_deliver_66 : decode cX6_deliver 66 = .ok (.iload_n 1, 1) := by decide +kernel
theorem dX6_deliver_67 : decode cX6_deliver 67 = .ok (.aaload, 1) := by decide +kernel
theorem dX6_deliver_68 : decode cX6_deliver 68 = .ok (.aload_n 0, 1) := by decide +kernel
theorem dX6_deliver_69 : decode cX6_deliver 69 = .ok (.getfield 43, 3) := by decide +kernel
theorem dX6_deliver_72 : decode cX6_deliver 72 = .ok (.invokevirtual 108, 3) := by decide +kernel
theorem dX6_deliver_75 : decode cX6_deliver 75 = .ok (.iload 4, 2) := by decide +kernel
theorem dX6_deliver_77 : decode cX6_deliver 77 = .ok (.ireturn, 1) := by decide +kernel
set_option maxRecDepth 20000 in
theorem ggX6_got_X0_at : GoodIn wsX6_got wsX0_at := goodIn_r _ [6, 7, 8, 18, 19] (by decide +kernel) (by decide +kernel)
set_option maxRecDepth 20000 in
theorem gX6_got_X0_at : GoodIn wsX6_got (wsV RX6 111 RX0 yX0_at wsX0_at) := goodIn_app (goodIn_of _ (by decide +kernel)) ggX6_got_X0_at
theorem dX6_got_0 : decode cX6_got 0 = .ok (.aload_n 0, 1) := by decide +kernel
theorem dX6_got_1 : decode cX6_got 1 = .ok (.getfield 43, 3) := by decide +kernel
theorem dX6_got_4 : decode cX6_got 4 = .ok (.iload_n 1, 1) := by decide +kernel
theorem dX6_got_5 : decode cX6_got 5 = .ok (.invokevirtual 111, 3) := by decide +kernel
theorem dX6_got_8 : decode cX6_got 8 = .ok (.ireturn, 1) := by decide +kernel
set_option maxRecDepth 20000 in
theorem ggX6_gotLen_X0_size : GoodIn wsX6_gotLen wsX0_size := goodIn_r _ [6, 7, 17, 18] (by decide +kernel) (by decide +kernel)
set_option maxRecDepth 20000 in
theorem gX6_gotLen_X0_size : GoodIn wsX6_gotLen (wsV RX6 80 RX0 yX0_size wsX0_size) := goodIn_app (goodIn_of _ (by decide +kernel)) ggX6_gotLen_X0_size
theorem dX6_gotLen_0 : decode cX6_gotLen 0 = .ok (.aload_n 0, 1) := by decide +kernel
theorem dX6_gotLen_1 : decode cX6_gotLen 1 = .ok (.getfield 43, 3) := by decide +kernel
theorem dX6_gotLen_4 : decode cX6_gotLen 4 = .ok (.invokevirtual 80, 3) := by decide +kernel
theorem dX6_gotLen_7 : decode cX6_gotLen 7 = .ok (.ireturn, 1) := by decide +kernel
set_option maxRecDepth 20000 in
theorem ggX6_corrupt_X6_isSlot : GoodIn wsX6_corrupt wsX6_isSlot := goodIn_r _ [5] (by decide +kernel) (by decide +kernel)
set_option maxRecDepth 20000 in
theorem gX6_corrupt_X6_isSlot : GoodIn wsX6_corrupt (va_wsS RX6 97 yX6_isSlot wsX6_isSlot) := goodIn_app (goodIn_of _ (by decide +kernel)) ggX6_corrupt_X6_isSlot
set_option maxRecDepth 20000 in
theorem ggX6_corrupt_X6_isByte : GoodIn wsX6_corrupt wsX6_isByte := goodIn_r _ [8] (by decide +kernel) (by decide +kernel)
set_option maxRecDepth 20000 in
theorem gX6_corrupt_X6_isByte : GoodIn wsX6_corrupt (va_wsS RX6 62 yX6_isByte wsX6_isByte) := goodIn_app (goodIn_of _ (by decide +kernel)) ggX6_corrupt_X6_isByte
set_option maxRecDepth 20000 in
theorem ggX6_corrupt_X0_change : GoodIn wsX6_corrupt wsX0_change := goodIn_r _ [13, 14, 15, 25, 26] (by decide +kernel) (by decide +kernel)
set_option maxRecDepth 20000 in
theorem gX6_corrupt_X0_change : GoodIn wsX6_corrupt (wsV RX6 115 RX0 yX0_change wsX0_change) := goodIn_app (goodIn_of _ (by decide +kernel)) ggX6_corrupt_X0_change
theorem dX6_corrupt_0 : decode cX6_corrupt 0 = .ok (.iload_n 1, 1) := by decide +kernel
theorem dX6_corrupt_1 : decode cX6_corrupt 1 = .ok (.invokestatic 97, 3) := by decide +kernel
theorem dX6_corrupt_4 : decode cX6_corrupt 4 = .ok (.ifCond .eq 28, 3) := by decide +kernel
theorem dX6_corrupt_7 : decode cX6_corrupt 7 = .ok (.iload_n 3, 1) := by decide +kernel
theorem dX6_corrupt_8 : decode cX6_corrupt 8 = .ok (.invokestatic 62, 3) := by decide +kernel
theorem dX6_corrupt_11 : decode cX6_corrupt 11 = .ok (.ifCond .eq 21, 3) := by decide +kernel
theorem dX6_corrupt_14 : decode cX6_corrupt 14 = .ok (.aload_n 0, 1) := by decide +kernel
theorem dX6_corrupt_15 : decode cX6_corrupt 15 = .ok (.getfield 34, 3) := by decide +kernel
theorem dX6_corrupt_18 : decode cX6_corrupt 18 = .ok (.iload_n 1, 1) := by decide +kernel
theorem dX6_corrupt_19 : decode cX6_corrupt 19 = .ok (.aaload, 1) := by decide +kernel
theorem dX6_corrupt_20 : decode cX6_corrupt 20 = .ok (.iload_n 2, 1) := by decide +kernel
theorem dX6_corrupt_21 : decode cX6_corrupt 21 = .ok (.iload_n 3, 1) := by decide +kernel
theorem dX6_corrupt_22 : decode cX6_corrupt 22 = .ok (.invokevirtual 115, 3) := by decide +kernel
theorem dX6_corrupt_25 : decode cX6_corrupt 25 = .ok (.ifCond .eq 7, 3) := by decide +kernel
theorem dX6_corrupt_28 : decode cX6_corrupt 28 = .ok (.iconst 1, 1) := by decide +kernel
theorem dX6_corrupt_29 : decode cX6_corrupt 29 = .ok (.goto 4, 3) := by decide +kernel
theorem dX6_corrupt_32 : decode cX6_corrupt 32 = .ok (.iconst 0, 1) := by decide +kernel
theorem dX6_corrupt_33 : decode cX6_corrupt 33 = .ok (.ireturn, 1) := by decide +kernel
set_option maxRecDepth 20000 in
theorem ggX6_drop_X6_isSlot : GoodIn wsX6_drop wsX6_isSlot := goodIn_r _ [5] (by decide +kernel) (by decide +kernel)
set_option maxRecDepth 20000 in
theorem gX6_drop_X6_isSlot : GoodIn wsX6_drop (va_wsS RX6 97 yX6_isSlot wsX6_isSlot) := goodIn_app (goodIn_of _ (by decide +kernel)) ggX6_drop_X6_isSlot
set_option maxRecDepth 20000 in
theorem ggX6_drop_X0_isEmpty : GoodIn wsX6_drop wsX0_isEmpty := goodIn_r _ [10, 11, 25, 26] (by decide +kernel) (by decide +kernel)
set_option maxRecDepth 20000 in
theorem gX6_drop_X0_isEmpty : GoodIn wsX6_drop (wsV RX6 100 RX0 yX0_isEmpty wsX0_isEmpty) := goodIn_app (goodIn_of _ (by decide +kernel)) ggX6_drop_X0_isEmpty
set_option maxRecDepth 20000 in
theorem ggX6_drop_X0_clear : GoodIn wsX6_drop wsX0_clear := goodIn_r _ [15, 11, 25, 26] (by decide +kernel) (by decide +kernel)
set_option maxRecDepth 20000 in
theorem gX6_drop_X0_clear : GoodIn wsX6_drop (wsV RX6 52 RX0 yX0_clear wsX0_clear) := goodIn_app (goodIn_of _ (by decide +kernel)) ggX6_drop_X0_clear
theorem dX6_drop_0 : decode cX6_drop 0 = .ok (.iload_n 1, 1) := by decide +kernel
theorem dX6_drop_1 : decode cX6_drop 1 = .ok (.invokestatic 97, 3) := by decide +kernel
theorem dX6_drop_4 : decode cX6_drop 4 = .ok (.ifCond .eq 15, 3) := by decide +kernel
theorem dX6_drop_7 : decode cX6_drop 7 = .ok (.aload_n 0, 1) := by decide +kernel
theorem dX6_drop_8 : decode cX6_drop 8 = .ok (.getfield 34, 3) := by decide +kernel
theorem dX6_drop_11 : decode cX6_drop 11 = .ok (.iload_n 1, 1) := by decide +kernel
theorem dX6_drop_12 : decode cX6_drop 12 = .ok (.aaload, 1) := by decide +kernel
theorem dX6_drop_13 : decode cX6_drop 13 = .ok (.invokevirtual 100, 3) := by decide +kernel
theorem dX6_drop_16 : decode cX6_drop 16 = .ok (.ifCond .eq 5, 3) := by decide +kernel
theorem dX6_drop_19 : decode cX6_drop 19 = .ok (.iconst 0, 1) := by decide +kernel
theorem dX6_drop_20 : decode cX6_drop 20 = .ok (.ireturn, 1) := by decide +kernel
theorem dX6_drop_21 : decode cX6_drop 21 = .ok (.aload_n 0, 1) := by decide +kernel
theorem dX6_drop_22 : decode cX6_drop 22 = .ok (.getfield 34, 3) := by decide +kernel
theorem dX6_drop_25 : decode cX6_drop 25 = .ok (.iload_n 1, 1) := by decide +kernel
theorem dX6_drop_26 : decode cX6_drop 26 = .ok (.aaload, 1) := by decide +kernel
theorem dX6_drop_27 : decode cX6_drop 27 = .ok (.invokevirtual 52, 3) := by decide +kernel
theorem dX6_drop_30 : decode cX6_drop 30 = .ok (.iconst 1, 1) := by decide +kernel
theorem dX6_drop_31 : decode cX6_drop 31 = .ok (.ireturn, 1) := by decide +kernel
set_option maxRecDepth 20000 in
theorem ggX6_rekey_X6_isSide : GoodIn wsX6_rekey wsX6_isSide := goodIn_r _ [7] (by decide +kernel) (by decide +kernel)
set_option maxRecDepth 20000 in
theorem gX6_rekey_X6_isSide : GoodIn wsX6_rekey (va_wsS RX6 87 yX6_isSide wsX6_isSide) := goodIn_app (goodIn_of _ (by decide +kernel)) ggX6_rekey_X6_isSide
set_option maxRecDepth 20000 in
theorem ggX6_rekey_X1_makeNextRoot : GoodIn wsX6_rekey wsX1_makeNextRoot := goodIn_r _ [12, 13, 14, 15, 16, 17, 18, 19, 20, 21, 22, 23, 24, 25, 26, 27, 28, 29, 30, 31, 32, 33, 34, 35, 36, 37, 38, 39, 40, 41, 42, 43, 44, 45, 46, 47, 48, 49, 50, 51, 52, 53, 54, 55, 56, 57, 58, 59, 60, 61, 62, 63, 64, 65, 66, 67, 68, 69, 70, 71, 72, 113, 114, 115, 116, 117, 118, 119, 120, 121, 122, 123, 124, 125, 126, 127, 128] (by decide +kernel) (by decide +kernel)
set_option maxRecDepth 20000 in
theorem gX6_rekey_X1_makeNextRoot : GoodIn wsX6_rekey (wsV RX6 119 RX1 yX1_makeNextRoot wsX1_makeNextRoot) := goodIn_app (goodIn_of _ (by decide +kernel)) ggX6_rekey_X1_makeNextRoot
set_option maxRecDepth 20000 in
theorem ggX6_rekey_X1_epoch : GoodIn wsX6_rekey wsX1_epoch := goodIn_r _ [76, 77, 113, 114, 115, 116, 117, 118, 119, 120, 121] (by decide +kernel) (by decide +kernel)
set_option maxRecDepth 20000 in
theorem gX6_rekey_X1_epoch : GoodIn wsX6_rekey (wsV RX6 122 RX1 yX1_epoch wsX1_epoch) := goodIn_app (goodIn_of _ (by decide +kernel)) ggX6_rekey_X1_epoch
set_option maxRecDepth 20000 in
theorem ggX6_rekey_X1_startEpoch : GoodIn wsX6_rekey wsX1_startEpoch := goodIn_r _ [81, 15, 14, 77, 82, 83, 84, 11, 85, 13, 86, 16, 17, 18, 19, 20, 21, 22, 23, 24, 25, 26, 27, 28, 29, 30, 31, 32, 33, 34, 35, 36, 37, 87, 88, 89, 90, 42, 43, 44, 45, 46, 47, 48, 49, 50, 51, 52, 53, 54, 55, 56, 57, 58, 59, 60, 61, 62, 63, 64, 65, 66, 67, 68, 69, 70, 71, 72, 39, 40, 41, 91, 92, 93, 94, 95, 96, 97, 98, 99, 100, 101, 102, 103, 113, 114, 115, 116, 117, 118, 119, 120, 121, 122, 123, 124, 125, 126, 127, 128, 129, 130] (by decide +kernel) (by decide +kernel)
set_option maxRecDepth 20000 in
theorem gX6_rekey_X1_startEpoch : GoodIn wsX6_rekey (wsV RX6 76 RX1 yX1_startEpoch wsX1_startEpoch) := goodIn_app (goodIn_of _ (by decide +kernel)) ggX6_rekey_X1_startEpoch
theorem dX6_rekey_0 : decode cX6_rekey 0 = .ok (.iload_n 1, 1) := by decide +kernel
theorem dX6_rekey_1 : decode cX6_rekey 1 = .ok (.invokestatic 87, 3) := by decide +kernel
theorem dX6_rekey_4 : decode cX6_rekey 4 = .ok (.ifCond .eq 10, 3) := by decide +kernel
theorem dX6_rekey_7 : decode cX6_rekey 7 = .ok (.aload_n 0, 1) := by decide +kernel
theorem dX6_rekey_8 : decode cX6_rekey 8 = .ok (.getfield 58, 3) := by decide +kernel
theorem dX6_rekey_11 : decode cX6_rekey 11 = .ok (.ifCond .ne 5, 3) := by decide +kernel
theorem dX6_rekey_14 : decode cX6_rekey 14 = .ok (.iconst (-1), 1) := by decide +kernel
theorem dX6_rekey_15 : decode cX6_rekey 15 = .ok (.ireturn, 1) := by decide +kernel
theorem dX6_rekey_16 : decode cX6_rekey 16 = .ok (.aload_n 0, 1) := by decide +kernel
theorem dX6_rekey_17 : decode cX6_rekey 17 = .ok (.getfield 28, 3) := by decide +kernel
theorem dX6_rekey_20 : decode cX6_rekey 20 = .ok (.iload_n 1, 1) := by decide +kernel
theorem dX6_rekey_21 : decode cX6_rekey 21 = .ok (.aaload, 1) := by decide +kernel
theorem dX6_rekey_22 : decode cX6_rekey 22 = .ok (.astore_n 2, 1) := by decide +kernel
theorem dX6_rekey_23 : decode cX6_rekey 23 = .ok (.aload_n 2, 1) := by decide +kernel
theorem dX6_rekey_24 : decode cX6_rekey 24 = .ok (.aload_n 0, 1) := by decide +kernel
theorem dX6_rekey_25 : decode cX6_rekey 25 = .ok (.getfield 16, 3) := by decide +kernel
theorem dX6_rekey_28 : decode cX6_rekey 28 = .ok (.invokevirtual 119, 3) := by decide +kernel
theorem dX6_rekey_31 : decode cX6_rekey 31 = .ok (.aload_n 2, 1) := by decide +kernel
theorem dX6_rekey_32 : decode cX6_rekey 32 = .ok (.aload_n 2, 1) := by decide +kernel
theorem dX6_rekey_33 : decode cX6_rekey 33 = .ok (.invokevirtual 122, 3) := by decide +kernel
theorem dX6_rekey_36 : decode cX6_rekey 36 = .ok (.iconst 1, 1) := by decide +kernel
theorem dX6_rekey_37 : decode cX6_rekey 37 = .ok (.iadd, 1) := by decide +kernel
theorem dX6_rekey_38 : decode cX6_rekey 38 = .ok (.aload_n 0, 1) := by decide +kernel
theorem dX6_rekey_39 : decode cX6_rekey 39 = .ok (.getfield 16, 3) := by decide +kernel
theorem dX6_rekey_42 : decode cX6_rekey 42 = .ok (.invokevirtual 76, 3) := by decide +kernel
theorem dX6_rekey_45 : decode cX6_rekey 45 = .ok (.aload_n 2, 1) := by decide +kernel
theorem dX6_rekey_46 : decode cX6_rekey 46 = .ok (.invokevirtual 122, 3) := by decide +kernel
theorem dX6_rekey_49 : decode cX6_rekey 49 = .ok (.ireturn, 1) := by decide +kernel
set_option maxRecDepth 20000 in
theorem ggX6_wireAt_X6_isSlot : GoodIn wsX6_wireAt wsX6_isSlot := goodIn_r _ [5] (by decide +kernel) (by decide +kernel)
set_option maxRecDepth 20000 in
theorem gX6_wireAt_X6_isSlot : GoodIn wsX6_wireAt (va_wsS RX6 97 yX6_isSlot wsX6_isSlot) := goodIn_app (goodIn_of _ (by decide +kernel)) ggX6_wireAt_X6_isSlot
set_option maxRecDepth 20000 in
theorem ggX6_wireAt_X0_at : GoodIn wsX6_wireAt wsX0_at := goodIn_r _ [10, 11, 12, 22, 23] (by decide +kernel) (by decide +kernel)
set_option maxRecDepth 20000 in
theorem gX6_wireAt_X0_at : GoodIn wsX6_wireAt (wsV RX6 111 RX0 yX0_at wsX0_at) := goodIn_app (goodIn_of _ (by decide +kernel)) ggX6_wireAt_X0_at
theorem dX6_wireAt_0 : decode cX6_wireAt 0 = .ok (.iload_n 1, 1) := by decide +kernel

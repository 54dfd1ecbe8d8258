theorem dX4_rootCount_0 : decode cX4_rootCount 0 = .ok (.aload_n 0, 1) := by decide +kernel
theorem dX4_rootCount_1 : decode cX4_rootCount 1 = .ok (.getfield 31, 3) := by decide +kernel
theorem dX4_rootCount_4 : decode cX4_rootCount 4 = .ok (.lconst 0, 1) := by decide +kernel
theorem dX4_rootCount_5 : decode cX4_rootCount 5 = .ok (.lcmp, 1) := by decide +kernel
theorem dX4_rootCount_6 : decode cX4_rootCount 6 = .ok (.ifCond .ne 18, 3) := by decide +kernel
theorem dX4_rootCount_9 : decode cX4_rootCount 9 = .ok (.aload_n 0, 1) := by decide +kernel
theorem dX4_rootCount_10 : decode cX4_rootCount 10 = .ok (.getfield 43, 3) := by decide +kernel
theorem dX4_rootCount_13 : decode cX4_rootCount 13 = .ok (.lconst 0, 1) := by decide +kernel
theorem dX4_rootCount_14 : decode cX4_rootCount 14 = .ok (.lcmp, 1) := by decide +kernel
theorem dX4_rootCount_15 : decode cX4_rootCount 15 = .ok (.ifCond .ne 7, 3) := by decide +kernel
theorem dX4_rootCount_18 : decode cX4_rootCount 18 = .ok (.iconst 0, 1) := by decide +kernel
theorem dX4_rootCount_19 : decode cX4_rootCount 19 = .ok (.goto 4, 3) := by decide +kernel
theorem dX4_rootCount_22 : decode cX4_rootCount 22 = .ok (.iconst 1, 1) := by decide +kernel
theorem dX4_rootCount_23 : decode cX4_rootCount 23 = .ok (.ireturn, 1) := by decide +kernel
theorem dX4_rootCount_24 : decode cX4_rootCount 24 = .ok (.aload_n 0, 1) := by decide +kernel
theorem dX4_rootCount_25 : decode cX4_rootCount 25 = .ok (.invokevirtual 54, 3) := by decide +kernel
theorem dX4_rootCount_28 : decode cX4_rootCount 28 = .ok (.lstore_n 1, 1) := by decide +kernel
theorem dX4_rootCount_29 : decode cX4_rootCount 29 = .ok (.lload_n 1, 1) := by decide +kernel
theorem dX4_rootCount_30 : decode cX4_rootCount 30 = .ok (.lconst 0, 1) := by decide +kernel
theorem dX4_rootCount_31 : decode cX4_rootCount 31 = .ok (.lcmp, 1) := by decide +kernel
theorem dX4_rootCount_32 : decode cX4_rootCount 32 = .ok (.ifCond .ne 5, 3) := by decide +kernel
theorem dX4_rootCount_35 : decode cX4_rootCount 35 = .ok (.iconst 1, 1) := by decide +kernel
theorem dX4_rootCount_36 : decode cX4_rootCount 36 = .ok (.ireturn, 1) := by decide +kernel
theorem dX4_rootCount_37 : decode cX4_rootCount 37 = .ok (.lload_n 1, 1) := by decide +kernel
theorem dX4_rootCount_38 : decode cX4_rootCount 38 = .ok (.lconst 0, 1) := by decide +kernel
theorem dX4_rootCount_39 : decode cX4_rootCount 39 = .ok (.lcmp, 1) := by decide +kernel
theorem dX4_rootCount_40 : decode cX4_rootCount 40 = .ok (.ifCond .le 7, 3) := by decide +kernel
theorem dX4_rootCount_43 : decode cX4_rootCount 43 = .ok (.iconst 2, 1) := by decide +kernel
theorem dX4_rootCount_44 : decode cX4_rootCount 44 = .ok (.goto 4, 3) := by decide +kernel
theorem dX4_rootCount_47 : decode cX4_rootCount 47 = .ok (.iconst 0, 1) := by decide +kernel
theorem dX4_rootCount_48 : decode cX4_rootCount 48 = .ok (.ireturn, 1) := by decide +kernel
theorem dX4_branch_0 : decode cX4_branch 0 = .ok (.iload_n 1, 1) := by decide +kernel
theorem dX4_branch_1 : decode cX4_branch 1 = .ok (.ifCond .ne 7, 3) := by decide +kernel
theorem dX4_branch_4 : decode cX4_branch 4 = .ok (.iconst (-1), 1) := by decide +kernel
theorem dX4_branch_5 : decode cX4_branch 5 = .ok (.goto 4, 3) := by decide +kernel
theorem dX4_branch_8 : decode cX4_branch 8 = .ok (.iconst 1, 1) := by decide +kernel
theorem dX4_branch_9 : decode cX4_branch 9 = .ok (.ireturn, 1) := by decide +kernel
set_option maxRecDepth 20000 in
theorem ggX4_signAtRoot_J13_signum_95d88 : GoodIn wsX4_signAtRoot wsJ13_signum_95d88 := goodIn_r _ [8] (by decide +kernel) (by decide +kernel)
set_option maxRecDepth 20000 in
theorem gX4_signAtRoot_J13_signum_95d88 : GoodIn wsX4_signAtRoot (va_wsS RX4 58 yJ13_signum_95d88 wsJ13_signum_95d88) := goodIn_app (goodIn_of _ (by decide +kernel)) ggX4_signAtRoot_J13_signum_95d88
set_option maxRecDepth 20000 in
theorem ggX4_signAtRoot_X4_discriminant : GoodIn wsX4_signAtRoot wsX4_discriminant := goodIn_r _ [13, 3, 14, 1, 2, 19, 20, 21] (by decide +kernel) (by decide +kernel)
set_option maxRecDepth 20000 in
theorem gX4_signAtRoot_X4_discriminant : GoodIn wsX4_signAtRoot (wsV RX4 54 RX4 yX4_discriminant wsX4_discriminant) := goodIn_app (goodIn_of _ (by decide +kernel)) ggX4_signAtRoot_X4_discriminant
set_option maxRecDepth 20000 in
theorem ggX4_signAtRoot_X4_branch : GoodIn wsX4_signAtRoot wsX4_branch := goodIn_r _ [18] (by decide +kernel) (by decide +kernel)
set_option maxRecDepth 20000 in
theorem gX4_signAtRoot_X4_branch : GoodIn wsX4_signAtRoot (wsV RX4 66 RX4 yX4_branch wsX4_branch) := goodIn_app (goodIn_of _ (by decide +kernel)) ggX4_signAtRoot_X4_branch
theorem dX4_signAtRoot_0 : decode cX4_signAtRoot 0 = .ok (.aload_n 0, 1) := by decide +kernel
theorem dX4_signAtRoot_1 : decode cX4_signAtRoot 1 = .ok (.getfield 31, 3) := by decide +kernel
theorem dX4_signAtRoot_4 : decode cX4_signAtRoot 4 = .ok (.lconst 0, 1) := by decide +kernel
theorem dX4_signAtRoot_5 : decode cX4_signAtRoot 5 = .ok (.lcmp, 1) := by decide +kernel
theorem dX4_signAtRoot_6 : decode cX4_signAtRoot 6 = .ok (.ifCond .ne 44, 3) := by decide +kernel
theorem dX4_signAtRoot_9 : decode cX4_signAtRoot 9 = .ok (.lload_n 2, 1) := by decide +kernel
theorem dX4_signAtRoot_10 : decode cX4_signAtRoot 10 = .ok (.aload_n 0, 1) := by decide +kernel
theorem dX4_signAtRoot_11 : decode cX4_signAtRoot 11 = .ok (.getfield 49, 3) := by decide +kernel
theorem dX4_signAtRoot_14 : decode cX4_signAtRoot 14 = .ok (.lmul, 1) := by decide +kernel
theorem dX4_signAtRoot_15 : decode cX4_signAtRoot 15 = .ok (.aload_n 0, 1) := by decide +kernel
theorem dX4_signAtRoot_16 : decode cX4_signAtRoot 16 = .ok (.getfield 49, 3) := by decide +kernel
theorem dX4_signAtRoot_19 : decode cX4_signAtRoot 19 = .ok (.lmul, 1) := by decide +kernel
theorem dX4_signAtRoot_20 : decode cX4_signAtRoot 20 = .ok (.lload 4, 2) := by decide +kernel
theorem dX4_signAtRoot_22 : decode cX4_signAtRoot 22 = .ok (.aload_n 0, 1) := by decide +kernel
theorem dX4_signAtRoot_23 : decode cX4_signAtRoot 23 = .ok (.getfield 43, 3) := by decide +kernel
theorem dX4_signAtRoot_26 : decode cX4_signAtRoot 26 = .ok (.lmul, 1) := by decide +kernel
theorem dX4_signAtRoot_27 : decode cX4_signAtRoot 27 = .ok (.aload_n 0, 1) := by decide +kernel
theorem dX4_signAtRoot_28 : decode cX4_signAtRoot 28 = .ok (.getfield 49, 3) := by decide +kernel
theorem dX4_signAtRoot_31 : decode cX4_signAtRoot 31 = .ok (.lmul, 1) := by decide +kernel
theorem dX4_signAtRoot_32 : decode cX4_signAtRoot 32 = .ok (.lsub, 1) := by decide +kernel
theorem dX4_signAtRoot_33 : decode cX4_signAtRoot 33 = .ok (.lload 6, 2) := by decide +kernel
theorem dX4_signAtRoot_35 : decode cX4_signAtRoot 35 = .ok (.aload_n 0, 1) := by decide +kernel
theorem dX4_signAtRoot_36 : decode cX4_signAtRoot 36 = .ok (.getfield 43, 3) := by decide +kernel
theorem dX4_signAtRoot_39 : decode cX4_signAtRoot 39 = .ok (.lmul, 1) := by decide +kernel
theorem dX4_signAtRoot_40 : decode cX4_signAtRoot 40 = .ok (.aload_n 0, 1) := by decide +kernel
theorem dX4_signAtRoot_41 : decode cX4_signAtRoot 41 = .ok (.getfield 43, 3) := by decide +kernel
theorem dX4_signAtRoot_44 : decode cX4_signAtRoot 44 = .ok (.lmul, 1) := by decide +kernel
theorem dX4_signAtRoot_45 : decode cX4_signAtRoot 45 = .ok (.ladd, 1) := by decide +kernel
theorem dX4_signAtRoot_46 : decode cX4_signAtRoot 46 = .ok (.invokestatic 58, 3) := by decide +kernel
theorem dX4_signAtRoot_49 : decode cX4_signAtRoot 49 = .ok (.ireturn, 1) := by decide +kernel
theorem dX4_signAtRoot_50 : decode cX4_signAtRoot 50 = .ok (.aload_n 0, 1) := by decide +kernel
theorem dX4_signAtRoot_51 : decode cX4_signAtRoot 51 = .ok (.getfield 31, 3) := by decide +kernel
theorem dX4_signAtRoot_54 : decode cX4_signAtRoot 54 = .ok (.lload 4, 2) := by decide +kernel
theorem dX4_signAtRoot_56 : decode cX4_signAtRoot 56 = .ok (.lmul, 1) := by decide +kernel
theorem dX4_signAtRoot_57 : decode cX4_signAtRoot 57 = .ok (.lload_n 2, 1) := by decide +kernel
theorem dX4_signAtRoot_58 : decode cX4_signAtRoot 58 = .ok (.aload_n 0, 1) := by decide +kernel
theorem dX4_signAtRoot_59 : decode cX4_signAtRoot 59 = .ok (.getfield 43, 3) := by decide +kernel
theorem dX4_signAtRoot_62 : decode cX4_signAtRoot 62 = .ok (.lmul, 1) := by decide +kernel
theorem dX4_signAtRoot_63 : decode cX4_signAtRoot 63 = .ok (.lsub, 1) := by decide +kernel
theorem dX4_signAtRoot_64 : decode cX4_signAtRoot 64 = .ok (.lstore 8, 2) := by decide +kernel
theorem dX4_signAtRoot_66 : decode cX4_signAtRoot 66 = .ok (.aload_n 0, 1) := by decide +kernel
theorem dX4_signAtRoot_67 : decode cX4_signAtRoot 67 = .ok (.getfield 31, 3) := by decide +kernel
theorem dX4_signAtRoot_70 : decode cX4_signAtRoot 70 = .ok (.lload 6, 2) := by decide +kernel
theorem dX4_signAtRoot_72 : decode cX4_signAtRoot 72 = .ok (.lmul, 1) := by decide +kernel
theorem dX4_signAtRoot_73 : decode cX4_signAtRoot 73 = .ok (.lload_n 2, 1) := by decide +kernel
theorem dX4_signAtRoot_74 : decode cX4_signAtRoot 74 = .ok (.aload_n 0, 1) := by decide +kernel
theorem dX4_signAtRoot_75 : decode cX4_signAtRoot 75 = .ok (.getfield 49, 3) := by decide +kernel
theorem dX4_signAtRoot_78 : decode cX4_signAtRoot 78 = .ok (.lmul, 1) := by decide +kernel
theorem dX4_signAtRoot_79 : decode cX4_signAtRoot 79 = .ok (.lsub, 1) := by decide +kernel
theorem dX4_signAtRoot_80 : decode cX4_signAtRoot 80 = .ok (.lstore 10, 2) := by decide +kernel
theorem dX4_signAtRoot_82 : decode cX4_signAtRoot 82 = .ok (.aload_n 0, 1) := by decide +kernel
theorem dX4_signAtRoot_83 : decode cX4_signAtRoot 83 = .ok (.getfield 43, 3) := by decide +kernel
theorem dX4_signAtRoot_86 : decode cX4_signAtRoot 86 = .ok (.lload 6, 2) := by decide +kernel
theorem dX4_signAtRoot_88 : decode cX4_signAtRoot 88 = .ok (.lmul, 1) := by decide +kernel
theorem dX4_signAtRoot_89 : decode cX4_signAtRoot 89 = .ok (.lload 4, 2) := by decide +kernel
theorem dX4_signAtRoot_91 : decode cX4_signAtRoot 91 = .ok (.aload_n 0, 1) := by decide +kernel
theorem dX4_signAtRoot_92 : decode cX4_signAtRoot 92 = .ok (.getfield 49, 3) := by decide +kernel
theorem dX4_signAtRoot_95 : decode cX4_signAtRoot 95 = .ok (.lmul, 1) := by decide +kernel
theorem dX4_signAtRoot_96 : decode cX4_signAtRoot 96 = .ok (.lsub, 1) := by decide +kernel
theorem dX4_signAtRoot_97 : decode cX4_signAtRoot 97 = .ok (.lstore 12, 2) := by decide +kernel
theorem dX4_signAtRoot_99 : decode cX4_signAtRoot 99 = .ok (.ldc2_w 64, 3) := by decide +kernel
theorem dX4_signAtRoot_102 : decode cX4_signAtRoot 102 = .ok (.aload_n 0, 1) := by decide +kernel
theorem dX4_signAtRoot_103 : decode cX4_signAtRoot 103 = .ok (.getfield 31, 3) := by decide +kernel
theorem dX4_signAtRoot_106 : decode cX4_signAtRoot 106 = .ok (.lmul, 1) := by decide +kernel
theorem dX4_signAtRoot_107 : decode cX4_signAtRoot 107 = .ok (.lload 10, 2) := by decide +kernel
theorem dX4_signAtRoot_109 : decode cX4_signAtRoot 109 = .ok (.lmul, 1) := by decide +kernel
theorem dX4_signAtRoot_110 : decode cX4_signAtRoot 110 = .ok (.lload 8, 2) := by decide +kernel
theorem dX4_signAtRoot_112 : decode cX4_signAtRoot 112 = .ok (.aload_n 0, 1) := by decide +kernel
theorem dX4_signAtRoot_113 : decode cX4_signAtRoot 113 = .ok (.getfield 43, 3) := by decide +kernel
theorem dX4_signAtRoot_116 : decode cX4_signAtRoot 116 = .ok (.lmul, 1) := by decide +kernel
theorem dX4_signAtRoot_117 : decode cX4_signAtRoot 117 = .ok (.lsub, 1) := by decide +kernel
theorem dX4_signAtRoot_118 : decode cX4_signAtRoot 118 = .ok (.invokestatic 58, 3) := by decide +kernel
theorem dX4_signAtRoot_121 : decode cX4_signAtRoot 121 = .ok (.istore 14, 2) := by decide +kernel
theorem dX4_signAtRoot_123 : decode cX4_signAtRoot 123 = .ok (.aload_n 0, 1) := by decide +kernel
theorem dX4_signAtRoot_124 : decode cX4_signAtRoot 124 = .ok (.invokevirtual 54, 3) := by decide +kernel
theorem dX4_signAtRoot_127 : decode cX4_signAtRoot 127 = .ok (.lconst 0, 1) := by decide +kernel
theorem dX4_signAtRoot_128 : decode cX4_signAtRoot 128 = .ok (.lcmp, 1) := by decide +kernel
theorem dX4_signAtRoot_129 : decode cX4_signAtRoot 129 = .ok (.ifCond .ne 7, 3) := by decide +kernel
theorem dX4_signAtRoot_132 : decode cX4_signAtRoot 132 = .ok (.iconst 0, 1) := by decide +kernel
theorem dX4_signAtRoot_133 : decode cX4_signAtRoot 133 = .ok (.goto 14, 3) := by decide +kernel
theorem dX4_signAtRoot_136 : decode cX4_signAtRoot 136 = .ok (.aload_n 0, 1) := by decide +kernel
theorem dX4_signAtRoot_137 : decode cX4_signAtRoot 137 = .ok (.iload_n 1, 1) := by decide +kernel
theorem dX4_signAtRoot_138 : decode cX4_signAtRoot 138 = .ok (.invokevirtual 66, 3) := by decide +kernel
theorem dX4_signAtRoot_141 : decode cX4_signAtRoot 141 = .ok (.lload 8, 2) := by decide +kernel
theorem dX4_signAtRoot_143 : decode cX4_signAtRoot 143 = .ok (.invokestatic 58, 3) := by decide +kernel
theorem dX4_signAtRoot_146 : decode cX4_signAtRoot 146 = .ok (.imul, 1) := by decide +kernel
theorem dX4_signAtRoot_147 : decode cX4_signAtRoot 147 = .ok (.istore 15, 2) := by decide +kernel
theorem dX4_signAtRoot_149 : decode cX4_signAtRoot 149 = .ok (.iload 14, 2) := by decide +kernel
theorem dX4_signAtRoot_151 : decode cX4_signAtRoot 151 = .ok (.iload 15, 2) := by decide +kernel
theorem dX4_signAtRoot_153 : decode cX4_signAtRoot 153 = .ok (.imul, 1) := by decide +kernel
theorem dX4_signAtRoot_154 : decode cX4_signAtRoot 154 = .ok (.ifCond .lt 16, 3) := by decide +kernel
theorem dX4_signAtRoot_157 : decode cX4_signAtRoot 157 = .ok (.iload 14, 2) := by decide +kernel
theorem dX4_signAtRoot_159 : decode cX4_signAtRoot 159 = .ok (.ifCond .eq 8, 3) := by decide +kernel
theorem dX4_signAtRoot_162 : decode cX4_signAtRoot 162 = .ok (.iload 14, 2) := by decide +kernel
theorem dX4_signAtRoot_164 : decode cX4_signAtRoot 164 = .ok (.goto 5, 3) := by decide +kernel
theorem dX4_signAtRoot_167 : decode cX4_signAtRoot 167 = .ok (.iload 15, 2) := by decide +kernel
theorem dX4_signAtRoot_169 : decode cX4_signAtRoot 169 = .ok (.ireturn, 1) := by decide +kernel
theorem dX4_signAtRoot_170 : decode cX4_signAtRoot 170 = .ok (.lload 10, 2) := by decide +kernel
theorem dX4_signAtRoot_172 : decode cX4_signAtRoot 172 = .ok (.lload 10, 2) := by decide +kernel
theorem dX4_signAtRoot_174 : decode cX4_signAtRoot 174 = .ok (.lmul, 1) := by decide +kernel
theorem dX4_signAtRoot_175 : decode cX4_signAtRoot 175 = .ok (.lload 8, 2) := by decide +kernel
theorem dX4_signAtRoot_177 : decode cX4_signAtRoot 177 = .ok (.lload 12, 2) := by decide +kernel
theorem dX4_signAtRoot_179 : decode cX4_signAtRoot 179 = .ok (.lmul, 1) := by decide +kernel
theorem dX4_signAtRoot_180 : decode cX4_signAtRoot 180 = .ok (.lsub, 1) := by decide +kernel
theorem dX4_signAtRoot_181 : decode cX4_signAtRoot 181 = .ok (.invokestatic 58, 3) := by decide +kernel
theorem dX4_signAtRoot_184 : decode cX4_signAtRoot 184 = .ok (.istore 16, 2) := by decide +kernel
theorem dX4_signAtRoot_186 : decode cX4_signAtRoot 186 = .ok (.iload 16, 2) := by decide +kernel
theorem dX4_signAtRoot_188 : decode cX4_signAtRoot 188 = .ok (.ifCond .lt 11, 3) := by decide +kernel
theorem dX4_signAtRoot_191 : decode cX4_signAtRoot 191 = .ok (.iload 14, 2) := by decide +kernel
theorem dX4_signAtRoot_193 : decode cX4_signAtRoot 193 = .ok (.iload 16, 2) := by decide +kernel
theorem dX4_signAtRoot_195 : decode cX4_signAtRoot 195 = .ok (.imul, 1) := by decide +kernel
theorem dX4_signAtRoot_196 : decode cX4_signAtRoot 196 = .ok (.goto 5, 3) := by decide +kernel
theorem dX4_signAtRoot_199 : decode cX4_signAtRoot 199 = .ok (.iload 15, 2) := by decide +kernel
theorem dX4_signAtRoot_201 : decode cX4_signAtRoot 201 = .ok (.ireturn, 1) := by decide +kernel
set_option maxRecDepth 20000 in
theorem ggX4_signAtRootOf_X4_signAtRoot : GoodIn wsX4_signAtRootOf wsX4_signAtRoot := goodIn_r _ [8, 1, 3, 2, 9, 10, 11, 12, 13, 14, 15, 16, 7, 17, 18, 19, 20, 21, 22, 23, 24, 25] (by decide +kernel) (by decide +kernel)
set_option maxRecDepth 20000 in
theorem gX4_signAtRootOf_X4_signAtRoot : GoodIn wsX4_signAtRootOf (wsV RX4 69 RX4 yX4_signAtRoot wsX4_signAtRoot) := goodIn_app (goodIn_of _ (by decide +kernel)) ggX4_signAtRootOf_X4_signAtRoot
theorem dX4_signAtRootOf_0 : decode cX4_signAtRootOf 0 = .ok (.aload_n 1, 1) := by decide +kernel
theorem dX4_signAtRootOf_1 : decode cX4_signAtRootOf 1 = .ok (.iload_n 2, 1) := by decide +kernel
theorem dX4_signAtRootOf_2 : decode cX4_signAtRootOf 2 = .ok (.aload_n 0, 1) := by decide +kernel
theorem dX4_signAtRootOf_3 : decode cX4_signAtRootOf 3 = .ok (.getfield 31, 3) := by decide +kernel
theorem dX4_signAtRootOf_6 : decode cX4_signAtRootOf 6 = .ok (.aload_n 0, 1) := by decide +kernel
theorem dX4_signAtRootOf_7 : decode cX4_signAtRootOf 7 = .ok (.getfield 43, 3) := by decide +kernel
theorem dX4_signAtRootOf_10 : decode cX4_signAtRootOf 10 = .ok (.aload_n 0, 1) := by decide +kernel
theorem dX4_signAtRootOf_11 : decode cX4_signAtRootOf 11 = .ok (.getfield 49, 3) := by decide +kernel
theorem dX4_signAtRootOf_14 : decode cX4_signAtRootOf 14 = .ok (.invokevirtual 69, 3) := by decide +kernel
theorem dX4_signAtRootOf_17 : decode cX4_signAtRootOf 17 = .ok (.ireturn, 1) := by decide +kernel
set_option maxRecDepth 20000 in
theorem ggX4_sideOfStart_X4_signAtRoot : GoodIn wsX4_sideOfStart wsX4_signAtRoot := goodIn_r _ [5, 6, 7, 8, 9, 10, 11, 12, 13, 14, 15, 16, 4, 17, 18, 19, 20, 21, 22, 23, 24, 25] (by decide +kernel) (by decide +kernel)
set_option maxRecDepth 20000 in
theorem gX4_sideOfStart_X4_signAtRoot : GoodIn wsX4_sideOfStart (wsV RX4 69 RX4 yX4_signAtRoot wsX4_signAtRoot) := goodIn_app (goodIn_of _ (by decide +kernel)) ggX4_sideOfStart_X4_signAtRoot
theorem dX4_sideOfStart_0 : decode cX4_sideOfStart 0 = .ok (.aload_n 0, 1) := by decide +kernel
theorem dX4_sideOfStart_1 : decode cX4_sideOfStart 1 = .ok (.iload_n 1, 1) := by decide +kernel
theorem dX4_sideOfStart_2 : decode cX4_sideOfStart 2 = .ok (.lconst 0, 1) := by decide +kernel
theorem dX4_sideOfStart_3 : decode cX4_sideOfStart 3 = .ok (.lconst 1, 1) := by decide +kernel
theorem dX4_sideOfStart_4 : decode cX4_sideOfStart 4 = .ok (.lconst 0, 1) := by decide +kernel
theorem dX4_sideOfStart_5 : decode cX4_sideOfStart 5 = .ok (.invokevirtual 69, 3) := by decide +kernel
theorem dX4_sideOfStart_8 : decode cX4_sideOfStart 8 = .ok (.ireturn, 1) := by decide +kernel
set_option maxRecDepth 20000 in
theorem ggX4_sideOfEnd_X4_signAtRoot : GoodIn wsX4_sideOfEnd wsX4_signAtRoot := goodIn_r _ [6, 7, 8, 9, 10, 11, 12, 13, 14, 15, 16, 17, 5, 18, 19, 20, 21, 22, 23, 24, 25, 26] (by decide +kernel) (by decide +kernel)
set_option maxRecDepth 20000 in
theorem gX4_sideOfEnd_X4_signAtRoot : GoodIn wsX4_sideOfEnd (wsV RX4 69 RX4 yX4_signAtRoot wsX4_signAtRoot) := goodIn_app (goodIn_of _ (by decide +kernel)) ggX4_sideOfEnd_X4_signAtRoot
theorem dX4_sideOfEnd_0 : decode cX4_sideOfEnd 0 = .ok (.aload_n 0, 1) := by decide +kernel
theorem dX4_sideOfEnd_1 : decode cX4_sideOfEnd 1 = .ok (.iload_n 1, 1) := by decide +kernel
theorem dX4_sideOfEnd_2 : decode cX4_sideOfEnd 2 = .ok (.lconst 0, 1) := by decide +kernel
theorem dX4_sideOfEnd_3 : decode cX4_sideOfEnd 3 = .ok (.lconst 1, 1) := by decide +kernel
theorem dX4_sideOfEnd_4 : decode cX4_sideOfEnd 4 = .ok (.ldc2_w 73, 3) := by decide +kernel
theorem dX4_sideOfEnd_7 : decode cX4_sideOfEnd 7 = .ok (.invokevirtual 69, 3) := by decide +kernel
theorem dX4_sideOfEnd_10 : decode cX4_sideOfEnd 10 = .ok (.ireturn, 1) := by decide +kernel
set_option maxRecDepth 20000 in
theorem ggX4_isOnPiece_X4_sideOfStart : GoodIn wsX4_isOnPiece wsX4_sideOfStart := goodIn_r _ [5, 6, 7, 8, 4, 9, 10, 11, 12, 13, 14, 15, 16, 17, 18, 19, 20, 21, 22, 23, 24, 25, 26, 32, 33, 34] (by decide +kernel) (by decide +kernel)
set_option maxRecDepth 20000 in
theorem gX4_isOnPiece_X4_sideOfStart : GoodIn wsX4_isOnPiece (wsV RX4 75 RX4 yX4_sideOfStart wsX4_sideOfStart) := goodIn_app (goodIn_of _ (by decide +kernel)) ggX4_isOnPiece_X4_sideOfStart
set_option maxRecDepth 20000 in
theorem ggX4_isOnPiece_X4_sideOfEnd : GoodIn wsX4_isOnPiece wsX4_sideOfEnd := goodIn_r _ [30, 31, 6, 7, 8, 4, 9, 10, 11, 12, 13, 14, 15, 16, 17, 18, 19, 20, 21, 22, 23, 24, 25, 26, 32, 33, 34] (by decide +kernel) (by decide +kernel)
set_option maxRecDepth 20000 in
theorem gX4_isOnPiece_X4_sideOfEnd : GoodIn wsX4_isOnPiece (wsV RX4 78 RX4 yX4_sideOfEnd wsX4_sideOfEnd) := goodIn_app (goodIn_of _ (by decide +kernel)) ggX4_isOnPiece_X4_sideOfEnd
theorem dX4_isOnPiece_0 : decode cX4_isOnPiece 0 = .ok (.aload_n 0, 1) := by decide +kernel
theorem dX4_isOnPiece_1 : decode cX4_isOnPiece 1 = .ok (.iload_n 1, 1) := by decide +kernel
theorem dX4_isOnPiece_2 : decode cX4_isOnPiece 2 = .ok (.invokevirtual 75, 3) := by decide +kernel
theorem dX4_isOnPiece_5 : decode cX4_isOnPiece 5 = .ok (.ifCond .lt 15, 3) := by decide +kernel
theorem dX4_isOnPiece_8 : decode cX4_isOnPiece 8 = .ok (.aload_n 0, 1) := by decide +kernel
theorem dX4_isOnPiece_9 : decode cX4_isOnPiece 9 = .ok (.iload_n 1, 1) := by decide +kernel
theorem dX4_isOnPiece_10 : decode cX4_isOnPiece 10 = .ok (.invokevirtual 78, 3) := by decide +kernel
theorem dX4_isOnPiece_13 : decode cX4_isOnPiece 13 = .ok (.ifCond .gt 7, 3) := by decide +kernel
theorem dX4_isOnPiece_16 : decode cX4_isOnPiece 16 = .ok (.iconst 1, 1) := by decide +kernel
theorem dX4_isOnPiece_17 : decode cX4_isOnPiece 17 = .ok (.goto 4, 3) := by decide +kernel
theorem dX4_isOnPiece_20 : decode cX4_isOnPiece 20 = .ok (.iconst 0, 1) := by decide +kernel
theorem dX4_isOnPiece_21 : decode cX4_isOnPiece 21 = .ok (.ireturn, 1) := by decide +kernel
set_option maxRecDepth 20000 in
theorem ggX4_zerosOnPiece_X4_isZero : GoodIn wsX4_zerosOnPiece wsX4_isZero := goodIn_r _ [5, 6, 7, 8, 44, 45, 46] (by decide +kernel) (by decide +kernel)
set_option maxRecDepth 20000 in
theorem gX4_zerosOnPiece_X4_isZero : GoodIn wsX4_zerosOnPiece (wsV RX4 81 RX4 yX4_isZero wsX4_isZero) := goodIn_app (goodIn_of _ (by decide +kernel)) ggX4_zerosOnPiece_X4_isZero
set_option maxRecDepth 20000 in
theorem ggX4_zerosOnPiece_X4_rootCount : GoodIn wsX4_zerosOnPiece wsX4_rootCount := goodIn_r _ [12, 6, 7, 13, 14, 15, 4, 16, 17, 8, 44, 45, 46] (by decide +kernel) (by decide +kernel)
set_option maxRecDepth 20000 in
theorem gX4_zerosOnPiece_X4_rootCount : GoodIn wsX4_zerosOnPiece (wsV RX4 85 RX4 yX4_rootCount wsX4_rootCount) := goodIn_app (goodIn_of _ (by decide +kernel)) ggX4_zerosOnPiece_X4_rootCount
set_option maxRecDepth 20000 in
theorem ggX4_zerosOnPiece_X4_isOnPiece : GoodIn wsX4_zerosOnPiece wsX4_isOnPiece := goodIn_r _ [21, 22, 23, 24, 4, 25, 26, 27, 28, 29, 6, 8, 7, 30, 31, 32, 33, 34, 13, 14, 15, 16, 17, 35, 36, 37, 38, 39, 40, 41, 42, 43, 44, 45, 46] (by decide +kernel) (by decide +kernel)
set_option maxRecDepth 20000 in
theorem gX4_zerosOnPiece_X4_isOnPiece : GoodIn wsX4_zerosOnPiece (wsV RX4 89 RX4 yX4_isOnPiece wsX4_isOnPiece) := goodIn_app (goodIn_of _ (by decide +kernel)) ggX4_zerosOnPiece_X4_isOnPiece
theorem dX4_zerosOnPiece_0 : decode cX4_zerosOnPiece 0 = .ok (.aload_n 0, 1) := by decide +kernel
theorem dX4_zerosOnPiece_1 : decode cX4_zerosOnPiece 1 = .ok (.invokevirtual 81, 3) := by decide +kernel
theorem dX4_zerosOnPiece_4 : decode cX4_zerosOnPiece 4 = .ok (.ifCond .eq 5, 3) := by decide +kernel
theorem dX4_zerosOnPiece_7 : decode cX4_zerosOnPiece 7 = .ok (.iconst 3, 1) := by decide +kernel
theorem dX4_zerosOnPiece_8 : decode cX4_zerosOnPiece 8 = .ok (.ireturn, 1) := by decide +kernel
theorem dX4_zerosOnPiece_9 : decode cX4_zerosOnPiece 9 = .ok (.iconst 0, 1) := by decide +kernel
theorem dX4_zerosOnPiece_10 : decode cX4_zerosOnPiece 10 = .ok (.istore_n 1, 1) := by decide +kernel
theorem dX4_zerosOnPiece_11 : decode cX4_zerosOnPiece 11 = .ok (.aload_n 0, 1) := by decide +kernel
theorem dX4_zerosOnPiece_12 : decode cX4_zerosOnPiece 12 = .ok (.invokevirtual 85, 3) := by decide +kernel
theorem dX4_zerosOnPiece_15 : decode cX4_zerosOnPiece 15 = .ok (.istore_n 2, 1) := by decide +kernel
theorem dX4_zerosOnPiece_16 : decode cX4_zerosOnPiece 16 = .ok (.iconst 0, 1) := by decide +kernel
theorem dX4_zerosOnPiece_17 : decode cX4_zerosOnPiece 17 = .ok (.istore_n 3, 1) := by decide +kernel
theorem dX4_zerosOnPiece_18 : decode cX4_zerosOnPiece 18 = .ok (.iload_n 3, 1) := by decide +kernel
theorem dX4_zerosOnPiece_19 : decode cX4_zerosOnPiece 19 = .ok (.iload_n 2, 1) := by decide +kernel
theorem dX4_zerosOnPiece_20 : decode cX4_zerosOnPiece 20 = .ok (.if_icmp .ge 20, 3) := by decide +kernel
theorem dX4_zerosOnPiece_23 : decode cX4_zerosOnPiece 23 = .ok (.aload_n 0, 1) := by decide +kernel
theorem dX4_zerosOnPiece_24 : decode cX4_zerosOnPiece 24 = .ok (.iload_n 3, 1) := by decide +kernel
theorem dX4_zerosOnPiece_25 : decode cX4_zerosOnPiece 25 = .ok (.invokevirtual 89, 3) := by decide +kernel
theorem dX4_zerosOnPiece_28 : decode cX4_zerosOnPiece 28 = .ok (.ifCond .eq 6, 3) := by decide +kernel
theorem dX4_zerosOnPiece_31 : decode cX4_zerosOnPiece 31 = .ok (.iinc 1 1, 3) := by decide +kernel
theorem dX4_zerosOnPiece_34 : decode cX4_zerosOnPiece 34 = .ok (.iinc 3 1, 3) := by decide +kernel
theorem dX4_zerosOnPiece_37 : decode cX4_zerosOnPiece 37 = .ok (.goto (-19), 3) := by decide +kernel
theorem dX4_zerosOnPiece_40 : decode cX4_zerosOnPiece 40 = .ok (.iload_n 1, 1) := by decide +kernel
theorem dX4_zerosOnPiece_41 : decode cX4_zerosOnPiece 41 = .ok (.ireturn, 1) := by decide +kernel
set_option maxRecDepth 20000 in
theorem ggX4_meetsZeroOf_X4_isZero : GoodIn wsX4_meetsZeroOf wsX4_isZero := goodIn_r _ [5, 6, 7, 8, 52, 53, 54] (by decide +kernel) (by decide +kernel)
set_option maxRecDepth 20000 in
theorem gX4_meetsZeroOf_X4_isZero : GoodIn wsX4_meetsZeroOf (wsV RX4 81 RX4 yX4_isZero wsX4_isZero) := goodIn_app (goodIn_of _ (by decide +kernel)) ggX4_meetsZeroOf_X4_isZero
set_option maxRecDepth 20000 in
theorem ggX4_meetsZeroOf_X4_zerosOnPiece : GoodIn wsX4_meetsZeroOf wsX4_zerosOnPiece := goodIn_r _ [12, 1, 2, 3, 4, 5, 6, 7, 8, 13, 14, 15, 16, 17, 18, 19, 20, 21, 22, 23, 24, 25, 26, 27, 28, 29, 30, 31, 32, 33, 34, 35, 36, 37, 38, 39, 40, 41, 42, 43, 44, 45, 46, 47, 52, 53, 54] (by decide +kernel) (by decide +kernel)
set_option maxRecDepth 20000 in
theorem gX4_meetsZeroOf_X4_zerosOnPiece : GoodIn wsX4_meetsZeroOf (wsV RX4 93 RX4 yX4_zerosOnPiece wsX4_zerosOnPiece) := goodIn_app (goodIn_of _ (by decide +kernel)) ggX4_meetsZeroOf_X4_zerosOnPiece
set_option maxRecDepth 20000 in
theorem ggX4_meetsZeroOf_X4_rootCount : GoodIn wsX4_meetsZeroOf wsX4_rootCount := goodIn_r _ [16, 6, 7, 17, 18, 19, 4, 20, 21, 8, 52, 53, 54] (by decide +kernel) (by decide +kernel)
set_option maxRecDepth 20000 in
theorem gX4_meetsZeroOf_X4_rootCount : GoodIn wsX4_meetsZeroOf (wsV RX4 85 RX4 yX4_rootCount wsX4_rootCount) := goodIn_app (goodIn_of _ (by decide +kernel)) ggX4_meetsZeroOf_X4_rootCount
set_option maxRecDepth 20000 in
theorem ggX4_meetsZeroOf_X4_isOnPiece : GoodIn wsX4_meetsZeroOf wsX4_isOnPiece := goodIn_r _ [25, 26, 27, 28, 4, 29, 30, 31, 32, 33, 6, 8, 7, 34, 35, 36, 37, 38, 17, 18, 19, 20, 21, 39, 40, 41, 42, 43, 44, 45, 46, 47, 52, 53, 54] (by decide +kernel) (by decide +kernel)
set_option maxRecDepth 20000 in
theorem gX4_meetsZeroOf_X4_isOnPiece : GoodIn wsX4_meetsZeroOf (wsV RX4 89 RX4 yX4_isOnPiece wsX4_isOnPiece) := goodIn_app (goodIn_of _ (by decide +kernel)) ggX4_meetsZeroOf_X4_isOnPiece
set_option maxRecDepth 20000 in
theorem ggX4_meetsZeroOf_X4_signAtRootOf : GoodIn wsX4_meetsZeroOf wsX4_signAtRootOf := goodIn_r _ [51, 6, 7, 8, 30, 31, 32, 4, 33, 34, 35, 36, 37, 38, 17, 18, 19, 20, 21, 39, 40, 41, 42, 52, 53, 54] (by decide +kernel) (by decide +kernel)
set_option maxRecDepth 20000 in
theorem gX4_meetsZeroOf_X4_signAtRootOf : GoodIn wsX4_meetsZeroOf (wsV RX4 96 RX4 yX4_signAtRootOf wsX4_signAtRootOf) := goodIn_app (goodIn_of _ (by decide +kernel)) ggX4_meetsZeroOf_X4_signAtRootOf
theorem dX4_meetsZeroOf_0 : decode cX4_meetsZeroOf 0 = .ok (.aload_n 0, 1) := by decide +kernel
theorem dX4_meetsZeroOf_1 : decode cX4_meetsZeroOf 1 = .ok (.invokevirtual 81, 3) := by decide +kernel
theorem dX4_meetsZeroOf_4 : decode cX4_meetsZeroOf 4 = .ok (.ifCond .eq 16, 3) := by decide +kernel
theorem dX4_meetsZeroOf_7 : decode cX4_meetsZeroOf 7 = .ok (.aload_n 1, 1) := by decide +kernel
theorem dX4_meetsZeroOf_8 : decode cX4_meetsZeroOf 8 = .ok (.invokevirtual 93, 3) := by decide +kernel
theorem dX4_meetsZeroOf_11 : decode cX4_meetsZeroOf 11 = .ok (.ifCond .le 7, 3) := by decide +kernel
theorem dX4_meetsZeroOf_14 : decode cX4_meetsZeroOf 14 = .ok (.iconst 1, 1) := by decide +kernel
theorem dX4_meetsZeroOf_15 : decode cX4_meetsZeroOf 15 = .ok (.goto 4, 3) := by decide +kernel
theorem dX4_meetsZeroOf_18 : decode cX4_meetsZeroOf 18 = .ok (.iconst 0, 1) := by decide +kernel
theorem dX4_meetsZeroOf_19 : decode cX4_meetsZeroOf 19 = .ok (.ireturn, 1) := by decide +kernel
theorem dX4_meetsZeroOf_20 : decode cX4_meetsZeroOf 20 = .ok (.aload_n 0, 1) := by decide +kernel
theorem dX4_meetsZeroOf_21 : decode cX4_meetsZeroOf 21 = .ok (.invokevirtual 85, 3) := by decide +kernel
theorem dX4_meetsZeroOf_24 : decode cX4_meetsZeroOf 24 = .ok (.istore_n 2, 1) := by decide +kernel
theorem dX4_meetsZeroOf_25 : decode cX4_meetsZeroOf 25 = .ok (.iconst 0, 1) := by decide +kernel
theorem dX4_meetsZeroOf_26 : decode cX4_meetsZeroOf 26 = .ok (.istore_n 3, 1) := by decide +kernel
theorem dX4_meetsZeroOf_27 : decode cX4_meetsZeroOf 27 = .ok (.iload_n 3, 1) := by decide +kernel
theorem dX4_meetsZeroOf_28 : decode cX4_meetsZeroOf 28 = .ok (.iload_n 2, 1) := by decide +kernel
theorem dX4_meetsZeroOf_29 : decode cX4_meetsZeroOf 29 = .ok (.if_icmp .ge 28, 3) := by decide +kernel
theorem dX4_meetsZeroOf_32 : decode cX4_meetsZeroOf 32 = .ok (.aload_n 0, 1) := by decide +kernel
theorem dX4_meetsZeroOf_33 : decode cX4_meetsZeroOf 33 = .ok (.iload_n 3, 1) := by decide +kernel
theorem dX4_meetsZeroOf_34 : decode cX4_meetsZeroOf 34 = .ok (.invokevirtual 89, 3) := by decide +kernel
theorem dX4_meetsZeroOf_37 : decode cX4_meetsZeroOf 37 = .ok (.ifCond .eq 14, 3) := by decide +kernel
theorem dX4_meetsZeroOf_40 : decode cX4_meetsZeroOf 40 = .ok (.aload_n 1, 1) := by decide +kernel
theorem dX4_meetsZeroOf_41 : decode cX4_meetsZeroOf 41 = .ok (.aload_n 0, 1) := by decide +kernel
theorem dX4_meetsZeroOf_42 : decode cX4_meetsZeroOf 42 = .ok (.iload_n 3, 1) := by decide +kernel
theorem dX4_meetsZeroOf_43 : decode cX4_meetsZeroOf 43 = .ok (.invokevirtual 96, 3) := by decide +kernel
theorem dX4_meetsZeroOf_46 : decode cX4_meetsZeroOf 46 = .ok (.ifCond .ne 5, 3) := by decide +kernel
theorem dX4_meetsZeroOf_49 : decode cX4_meetsZeroOf 49 = .ok (.iconst 1, 1) := by decide +kernel
theorem dX4_meetsZeroOf_50 : decode cX4_meetsZeroOf 50 = .ok (.ireturn, 1) := by decide +kernel
theorem dX4_meetsZeroOf_51 : decode cX4_meetsZeroOf 51 = .ok (.iinc 3 1, 3) := by decide +kernel
theorem dX4_meetsZeroOf_54 : decode cX4_meetsZeroOf 54 = .ok (.goto (-27), 3) := by decide +kernel
theorem dX4_meetsZeroOf_57 : decode cX4_meetsZeroOf 57 = .ok (.iconst 0, 1) := by decide +kernel
theorem dX4_meetsZeroOf_58 : decode cX4_meetsZeroOf 58 = .ok (.ireturn, 1) := by decide +kernel
set_option maxRecDepth 20000 in
theorem ggX4_signAfterRoot_J13_signum_95d88 : GoodIn wsX4_signAfterRoot wsJ13_signum_95d88 := goodIn_r _ [6] (by decide +kernel) (by decide +kernel)
set_option maxRecDepth 20000 in
theorem gX4_signAfterRoot_J13_signum_95d88 : GoodIn wsX4_signAfterRoot (va_wsS RX4 58 yJ13_signum_95d88 wsJ13_signum_95d88) := goodIn_app (goodIn_of _ (by decide +kernel)) ggX4_signAfterRoot_J13_signum_95d88
set_option maxRecDepth 20000 in
theorem ggX4_signAfterRoot_X4_discriminant : GoodIn wsX4_signAfterRoot wsX4_discriminant := goodIn_r _ [11, 2, 12, 1, 13, 18, 19, 20] (by decide +kernel) (by decide +kernel)
set_option maxRecDepth 20000 in
theorem gX4_signAfterRoot_X4_discriminant : GoodIn wsX4_signAfterRoot (wsV RX4 54 RX4 yX4_discriminant wsX4_discriminant) := goodIn_app (goodIn_of _ (by decide +kernel)) ggX4_signAfterRoot_X4_discriminant
set_option maxRecDepth 20000 in
theorem ggX4_signAfterRoot_X4_branch : GoodIn wsX4_signAfterRoot wsX4_branch := goodIn_r _ [17] (by decide +kernel) (by decide +kernel)
set_option maxRecDepth 20000 in
theorem gX4_signAfterRoot_X4_branch : GoodIn wsX4_signAfterRoot (wsV RX4 66 RX4 yX4_branch wsX4_branch) := goodIn_app (goodIn_of _ (by decide +kernel)) ggX4_signAfterRoot_X4_branch
theorem dX4_signAfterRoot_0 : decode cX4_signAfterRoot 0 = .ok (.aload_n 0, 1) := by decide +kernel
theorem dX4_signAfterRoot_1 : decode cX4_signAfterRoot 1 = .ok (.getfield 31, 3) := by decide +kernel
theorem dX4_signAfterRoot_4 : decode cX4_signAfterRoot 4 = .ok (.lconst 0, 1) := by decide +kernel
theorem dX4_signAfterRoot_5 : decode cX4_signAfterRoot 5 = .ok (.lcmp, 1) := by decide +kernel
theorem dX4_signAfterRoot_6 : decode cX4_signAfterRoot 6 = .ok (.ifCond .ne 11, 3) := by decide +kernel
theorem dX4_signAfterRoot_9 : decode cX4_signAfterRoot 9 = .ok (.aload_n 0, 1) := by decide +kernel
theorem dX4_signAfterRoot_10 : decode cX4_signAfterRoot 10 = .ok (.getfield 43, 3) := by decide +kernel
theorem dX4_signAfterRoot_13 : decode cX4_signAfterRoot 13 = .ok (.invokestatic 58, 3) := by decide +kernel
theorem dX4_signAfterRoot_16 : decode cX4_signAfterRoot 16 = .ok (.ireturn, 1) := by decide +kernel
theorem dX4_signAfterRoot_17 : decode cX4_signAfterRoot 17 = .ok (.aload_n 0, 1) := by decide +kernel
theorem dX4_signAfterRoot_18 : decode cX4_signAfterRoot 18 = .ok (.invokevirtual 54, 3) := by decide +kernel
theorem dX4_signAfterRoot_21 : decode cX4_signAfterRoot 21 = .ok (.lconst 0, 1) := by decide +kernel
theorem dX4_signAfterRoot_22 : decode cX4_signAfterRoot 22 = .ok (.lcmp, 1) := by decide +kernel
theorem dX4_signAfterRoot_23 : decode cX4_signAfterRoot 23 = .ok (.ifCond .ne 13, 3) := by decide +kernel
theorem dX4_signAfterRoot_26 : decode cX4_signAfterRoot 26 = .ok (.aload_n 0, 1) := by decide +kernel
theorem dX4_signAfterRoot_27 : decode cX4_signAfterRoot 27 = .ok (.getfield 31, 3) := by decide +kernel
theorem dX4_signAfterRoot_30 : decode cX4_signAfterRoot 30 = .ok (.invokestatic 58, 3) := by decide +kernel
theorem dX4_signAfterRoot_33 : decode cX4_signAfterRoot 33 = .ok (.goto 8, 3) := by decide +kernel
theorem dX4_signAfterRoot_36 : decode cX4_signAfterRoot 36 = .ok (.aload_n 0, 1) := by decide +kernel
theorem dX4_signAfterRoot_37 : decode cX4_signAfterRoot 37 = .ok (.iload_n 1, 1) := by decide +kernel
theorem dX4_signAfterRoot_38 : decode cX4_signAfterRoot 38 = .ok (.invokevirtual 66, 3) := by decide +kernel
theorem dX4_signAfterRoot_41 : decode cX4_signAfterRoot 41 = .ok (.ireturn, 1) := by decide +kernel
set_option maxRecDepth 20000 in
theorem ggX4_signBeforeRoot_X4_discriminant : GoodIn wsX4_signBeforeRoot wsX4_discriminant := goodIn_r _ [6, 7, 8, 1, 9, 22, 23, 24] (by decide +kernel) (by decide +kernel)
set_option maxRecDepth 20000 in
theorem gX4_signBeforeRoot_X4_discriminant : GoodIn wsX4_signBeforeRoot (wsV RX4 54 RX4 yX4_discriminant wsX4_discriminant) := goodIn_app (goodIn_of _ (by decide +kernel)) ggX4_signBeforeRoot_X4_discriminant
set_option maxRecDepth 20000 in
theorem ggX4_signBeforeRoot_X4_signAfterRoot : GoodIn wsX4_signBeforeRoot wsX4_signAfterRoot := goodIn_r _ [13, 1, 7, 14, 15, 16, 17, 2, 3, 4, 5, 6, 8, 9, 18, 19, 20, 21, 22, 23, 24] (by decide +kernel) (by decide +kernel)
set_option maxRecDepth 20000 in
theorem gX4_signBeforeRoot_X4_signAfterRoot : GoodIn wsX4_signBeforeRoot (wsV RX4 100 RX4 yX4_signAfterRoot wsX4_signAfterRoot) := goodIn_app (goodIn_of _ (by decide +kernel)) ggX4_signBeforeRoot_X4_signAfterRoot
theorem dX4_signBeforeRoot_0 : decode cX4_signBeforeRoot 0 = .ok (.aload_n 0, 1) := by decide +kernel
theorem dX4_signBeforeRoot_1 : decode cX4_signBeforeRoot 1 = .ok (.getfield 31, 3) := by decide +kernel
theorem dX4_signBeforeRoot_4 : decode cX4_signBeforeRoot 4 = .ok (.lconst 0, 1) := by decide +kernel
theorem dX4_signBeforeRoot_5 : decode cX4_signBeforeRoot 5 = .ok (.lcmp, 1) := by decide +kernel
theorem dX4_signBeforeRoot_6 : decode cX4_signBeforeRoot 6 = .ok (.ifCond .eq 16, 3) := by decide +kernel
theorem dX4_signBeforeRoot_9 : decode cX4_signBeforeRoot 9 = .ok (.aload_n 0, 1) := by decide +kernel
theorem dX4_signBeforeRoot_10 : decode cX4_signBeforeRoot 10 = .ok (.invokevirtual 54, 3) := by decide +kernel
theorem dX4_signBeforeRoot_13 : decode cX4_signBeforeRoot 13 = .ok (.lconst 0, 1) := by decide +kernel
theorem dX4_signBeforeRoot_14 : decode cX4_signBeforeRoot 14 = .ok (.lcmp, 1) := by decide +kernel
theorem dX4_signBeforeRoot_15 : decode cX4_signBeforeRoot 15 = .ok (.ifCond .ne 7, 3) := by decide +kernel
theorem dX4_signBeforeRoot_18 : decode cX4_signBeforeRoot 18 = .ok (.iconst 1, 1) := by decide +kernel
theorem dX4_signBeforeRoot_19 : decode cX4_signBeforeRoot 19 = .ok (.goto 4, 3) := by decide +kernel
theorem dX4_signBeforeRoot_22 : decode cX4_signBeforeRoot 22 = .ok (.iconst 0, 1) := by decide +kernel
theorem dX4_signBeforeRoot_23 : decode cX4_signBeforeRoot 23 = .ok (.istore_n 2, 1) := by decide +kernel
theorem dX4_signBeforeRoot_24 : decode cX4_signBeforeRoot 24 = .ok (.iload_n 2, 1) := by decide +kernel
theorem dX4_signBeforeRoot_25 : decode cX4_signBeforeRoot 25 = .ok (.ifCond .eq 11, 3) := by decide +kernel
theorem dX4_signBeforeRoot_28 : decode cX4_signBeforeRoot 28 = .ok (.aload_n 0, 1) := by decide +kernel
theorem dX4_signBeforeRoot_29 : decode cX4_signBeforeRoot 29 = .ok (.iload_n 1, 1) := by decide +kernel
theorem dX4_signBeforeRoot_30 : decode cX4_signBeforeRoot 30 = .ok (.invokevirtual 100, 3) := by decide +kernel
theorem dX4_signBeforeRoot_33 : decode cX4_signBeforeRoot 33 = .ok (.goto 9, 3) := by decide +kernel
theorem dX4_signBeforeRoot_36 : decode cX4_signBeforeRoot 36 = .ok (.aload_n 0, 1) := by decide +kernel
theorem dX4_signBeforeRoot_37 : decode cX4_signBeforeRoot 37 = .ok (.iload_n 1, 1) := by decide +kernel
theorem dX4_signBeforeRoot_38 : decode cX4_signBeforeRoot 38 = .ok (.invokevirtual 100, 3) := by decide +kernel
theorem dX4_signBeforeRoot_41 : decode cX4_signBeforeRoot 41 = .ok (.ineg, 1) := by decide +kernel
theorem dX4_signBeforeRoot_42 : decode cX4_signBeforeRoot 42 = .ok (.ireturn, 1) := by decide +kernel
set_option maxRecDepth 20000 in
theorem ggX4_upwardCrossings_X4_rootCount : GoodIn wsX4_upwardCrossings wsX4_rootCount := goodIn_r _ [5, 6, 7, 8, 9, 10, 4, 11, 12, 13, 52, 53, 54] (by decide +kernel) (by decide +kernel)
set_option maxRecDepth 20000 in
theorem gX4_upwardCrossings_X4_rootCount : GoodIn wsX4_upwardCrossings (wsV RX4 85 RX4 yX4_rootCount wsX4_rootCount) := goodIn_app (goodIn_of _ (by decide +kernel)) ggX4_upwardCrossings_X4_rootCount
set_option maxRecDepth 20000 in
theorem ggX4_upwardCrossings_X4_isOnPiece : GoodIn wsX4_upwardCrossings wsX4_isOnPiece := goodIn_r _ [17, 18, 19, 20, 4, 21, 22, 23, 24, 25, 6, 13, 7, 26, 27, 28, 29, 30, 8, 9, 10, 11, 12, 31, 32, 33, 34, 35, 36, 37, 38, 39, 52, 53, 54] (by decide +kernel) (by decide +kernel)
set_option maxRecDepth 20000 in
theorem gX4_upwardCrossings_X4_isOnPiece : GoodIn wsX4_upwardCrossings (wsV RX4 89 RX4 yX4_isOnPiece wsX4_isOnPiece) := goodIn_app (goodIn_of _ (by decide +kernel)) ggX4_upwardCrossings_X4_isOnPiece
set_option maxRecDepth 20000 in
theorem ggX4_upwardCrossings_X4_signAtRootOf : GoodIn wsX4_upwardCrossings wsX4_signAtRootOf := goodIn_r _ [43, 6, 7, 13, 22, 23, 24, 4, 25, 26, 27, 28, 29, 30, 8, 9, 10, 11, 12, 31, 32, 33, 34, 52, 53, 54] (by decide +kernel) (by decide +kernel)
set_option maxRecDepth 20000 in
theorem gX4_upwardCrossings_X4_signAtRootOf : GoodIn wsX4_upwardCrossings (wsV RX4 96 RX4 yX4_signAtRootOf wsX4_signAtRootOf) := goodIn_app (goodIn_of _ (by decide +kernel)) ggX4_upwardCrossings_X4_signAtRootOf
set_option maxRecDepth 20000 in
theorem ggX4_upwardCrossings_X4_sideOfStart : GoodIn wsX4_upwardCrossings wsX4_sideOfStart := goodIn_r _ [21, 22, 23, 24, 4, 25, 6, 13, 7, 26, 27, 28, 29, 30, 8, 9, 10, 11, 12, 31, 32, 33, 34, 52, 53, 54] (by decide +kernel) (by decide +kernel)
set_option maxRecDepth 20000 in
theorem gX4_upwardCrossings_X4_sideOfStart : GoodIn wsX4_upwardCrossings (wsV RX4 75 RX4 yX4_sideOfStart wsX4_sideOfStart) := goodIn_app (goodIn_of _ (by decide +kernel)) ggX4_upwardCrossings_X4_sideOfStart
set_option maxRecDepth 20000 in
theorem ggX4_upwardCrossings_X4_signBeforeRoot : GoodIn wsX4_upwardCrossings wsX4_signBeforeRoot := goodIn_r _ [47, 6, 8, 9, 10, 4, 11, 7, 12, 13, 48, 49, 50, 51, 27, 28, 29, 30, 31, 32, 33, 34, 52, 53, 54] (by decide +kernel) (by decide +kernel)
set_option maxRecDepth 20000 in
theorem gX4_upwardCrossings_X4_signBeforeRoot : GoodIn wsX4_upwardCrossings (wsV RX4 103 RX4 yX4_signBeforeRoot wsX4_signBeforeRoot) := goodIn_app (goodIn_of _ (by decide +kernel)) ggX4_upwardCrossings_X4_signBeforeRoot
set_option maxRecDepth 20000 in
theorem ggX4_upwardCrossings_X4_sideOfEnd : GoodIn wsX4_upwardCrossings wsX4_sideOfEnd := goodIn_r _ [38, 39, 22, 23, 24, 4, 25, 6, 13, 7, 26, 27, 28, 29, 30, 8, 9, 10, 11, 12, 31, 32, 33, 34, 52, 53, 54] (by decide +kernel) (by decide +kernel)
set_option maxRecDepth 20000 in
theorem gX4_upwardCrossings_X4_sideOfEnd : GoodIn wsX4_upwardCrossings (wsV RX4 78 RX4 yX4_sideOfEnd wsX4_sideOfEnd) := goodIn_app (goodIn_of _ (by decide +kernel)) ggX4_upwardCrossings_X4_sideOfEnd
set_option maxRecDepth 20000 in
theorem ggX4_upwardCrossings_X4_signAfterRoot : GoodIn wsX4_upwardCrossings wsX4_signAfterRoot := goodIn_r _ [51, 6, 7, 27, 28, 29, 30, 8, 9, 10, 4, 11, 12, 13, 31, 32, 33, 34, 52, 53, 54] (by decide +kernel) (by decide +kernel)
set_option maxRecDepth 20000 in
theorem gX4_upwardCrossings_X4_signAfterRoot : GoodIn wsX4_upwardCrossings (wsV RX4 100 RX4 yX4_signAfterRoot wsX4_signAfterRoot) := goodIn_app (goodIn_of _ (by decide +kernel)) ggX4_upwardCrossings_X4_signAfterRoot
theorem dX4_upwardCrossings_0 : decode cX4_upwardCrossings 0 = .ok (.iconst 0, 1) := by decide +kernel
theorem dX4_upwardCrossings_1 : decode cX4_upwardCrossings 1 = .ok (.istore_n 2, 1) := by decide +kernel
theorem dX4_upwardCrossings_2 : decode cX4_upwardCrossings 2 = .ok (.aload_n 0, 1) := by decide +kernel
theorem dX4_upwardCrossings_3 : decode cX4_upwardCrossings 3 = .ok (.invokevirtual 85, 3) := by decide +kernel
theorem dX4_upwardCrossings_6 : decode cX4_upwardCrossings 6 = .ok (.istore_n 3, 1) := by decide +kernel
theorem dX4_upwardCrossings_7 : decode cX4_upwardCrossings 7 = .ok (.iconst 0, 1) := by decide +kernel
theorem dX4_upwardCrossings_8 : decode cX4_upwardCrossings 8 = .ok (.istore 4, 2) := by decide +kernel
theorem dX4_upwardCrossings_10 : decode cX4_upwardCrossings 10 = .ok (.iload 4, 2) := by decide +kernel
theorem dX4_upwardCrossings_12 : decode cX4_upwardCrossings 12 = .ok (.iload_n 3, 1) := by decide +kernel
theorem dX4_upwardCrossings_13 : decode cX4_upwardCrossings 13 = .ok (.if_icmp .ge 73, 3) := by decide +kernel
theorem dX4_upwardCrossings_16 : decode cX4_upwardCrossings 16 = .ok (.aload_n 0, 1) := by decide +kernel
theorem dX4_upwardCrossings_17 : decode cX4_upwardCrossings 17 = .ok (.iload 4, 2) := by decide +kernel
theorem dX4_upwardCrossings_19 : decode cX4_upwardCrossings 19 = .ok (.invokevirtual 89, 3) := by decide +kernel
theorem dX4_upwardCrossings_22 : decode cX4_upwardCrossings 22 = .ok (.ifCond .eq 58, 3) := by decide +kernel
theorem dX4_upwardCrossings_25 : decode cX4_upwardCrossings 25 = .ok (.aload_n 1, 1) := by decide +kernel
theorem dX4_upwardCrossings_26 : decode cX4_upwardCrossings 26 = .ok (.aload_n 0, 1) := by decide +kernel
theorem dX4_upwardCrossings_27 : decode cX4_upwardCrossings 27 = .ok (.iload 4, 2) := by decide +kernel
theorem dX4_upwardCrossings_29 : decode cX4_upwardCrossings 29 = .ok (.invokevirtual 96, 3) := by decide +kernel
theorem dX4_upwardCrossings_32 : decode cX4_upwardCrossings 32 = .ok (.ifCond .gt 6, 3) := by decide +kernel
theorem dX4_upwardCrossings_35 : decode cX4_upwardCrossings 35 = .ok (.goto 45, 3) := by decide +kernel
theorem dX4_upwardCrossings_38 : decode cX4_upwardCrossings 38 = .ok (.aload_n 0, 1) := by decide +kernel
theorem dX4_upwardCrossings_39 : decode cX4_upwardCrossings 39 = .ok (.iload 4, 2) := by decide +kernel
theorem dX4_upwardCrossings_41 : decode cX4_upwardCrossings 41 = .ok (.invokevirtual 75, 3) := by decide +kernel
theorem dX4_upwardCrossings_44 : decode cX4_upwardCrossings 44 = .ok (.ifCond .le 15, 3) := by decide +kernel
theorem dX4_upwardCrossings_47 : decode cX4_upwardCrossings 47 = .ok (.aload_n 0, 1) := by decide +kernel
theorem dX4_upwardCrossings_48 : decode cX4_upwardCrossings 48 = .ok (.iload 4, 2) := by decide +kernel
theorem dX4_upwardCrossings_50 : decode cX4_upwardCrossings 50 = .ok (.invokevirtual 103, 3) := by decide +kernel
theorem dX4_upwardCrossings_53 : decode cX4_upwardCrossings 53 = .ok (.ifCond .ge 6, 3) := by decide +kernel
theorem dX4_upwardCrossings_56 : decode cX4_upwardCrossings 56 = .ok (.iinc 2 1, 3) := by decide +kernel
theorem dX4_upwardCrossings_59 : decode cX4_upwardCrossings 59 = .ok (.aload_n 0, 1) := by decide +kernel
theorem dX4_upwardCrossings_60 : decode cX4_upwardCrossings 60 = .ok (.iload 4, 2) := by decide +kernel
theorem dX4_upwardCrossings_62 : decode cX4_upwardCrossings 62 = .ok (.invokevirtual 78, 3) := by decide +kernel
theorem dX4_upwardCrossings_65 : decode cX4_upwardCrossings 65 = .ok (.ifCond .ge 15, 3) := by decide +kernel
theorem dX4_upwardCrossings_68 : decode cX4_upwardCrossings 68 = .ok (.aload_n 0, 1) := by decide +kernel
theorem dX4_upwardCrossings_69 : decode cX4_upwardCrossings 69 = .ok (.iload 4, 2) := by decide +kernel
theorem dX4_upwardCrossings_71 : decode cX4_upwardCrossings 71 = .ok (.invokevirtual 100, 3) := by decide +kernel
theorem dX4_upwardCrossings_74 : decode cX4_upwardCrossings 74 = .ok (.ifCond .ge 6, 3) := by decide +kernel
theorem dX4_upwardCrossings_77 : decode cX4_upwardCrossings 77 = .ok (.iinc 2 (-1), 3) := by decide +kernel
theorem dX4_upwardCrossings_80 : decode cX4_upwardCrossings 80 = .ok (.iinc 4 1, 3) := by decide +kernel
theorem dX4_upwardCrossings_83 : decode cX4_upwardCrossings 83 = .ok (.goto (-73), 3) := by decide +kernel
theorem dX4_upwardCrossings_86 : decode cX4_upwardCrossings 86 = .ok (.iload_n 2, 1) := by decide +kernel
theorem dX4_upwardCrossings_87 : decode cX4_upwardCrossings 87 = .ok (.ireturn, 1) := by decide +kernel
theorem dX5_init_0 : decode cX5_init 0 = .ok (.aload_n 0, 1) := by decide +kernel
theorem dX5_init_1 : decode cX5_init 1 = .ok (.invokespecial 3, 3) := by decide +kernel
theorem dX5_init_4 : decode cX5_init 4 = .ok (.aload_n 0, 1) := by decide +kernel
theorem dX5_init_5 : decode cX5_init 5 = .ok (.bipush 16, 2) := by decide +kernel
theorem dX5_init_7 : decode cX5_init 7 = .ok (.newarray .int, 2) := by decide +kernel
theorem dX5_init_9 : decode cX5_init 9 = .ok (.putfield 9, 3) := by decide +kernel
theorem dX5_init_12 : decode cX5_init 12 = .ok (.aload_n 0, 1) := by decide +kernel
theorem dX5_init_13 : decode cX5_init 13 = .ok (.iconst 0, 1) := by decide +kernel
theorem dX5_init_14 : decode cX5_init 14 = .ok (.putfield 15, 3) := by decide +kernel
theorem dX5_init_17 : decode cX5_init 17 = .ok (.aload_n 0, 1) := by decide +kernel
theorem dX5_init_18 : decode cX5_init 18 = .ok (.iconst 0, 1) := by decide +kernel
theorem dX5_init_19 : decode cX5_init 19 = .ok (.putfield 19, 3) := by decide +kernel
theorem dX5_init_22 : decode cX5_init 22 = .ok (.return_, 1) := by decide +kernel
theorem dX5_isMissing_0 : decode cX5_isMissing 0 = .ok (.aload_n 0, 1) := by decide +kernel
theorem dX5_isMissing_1 : decode cX5_isMissing 1 = .ok (.getfield 15, 3) := by decide +kernel
theorem dX5_isMissing_4 : decode cX5_isMissing 4 = .ok (.ifCond .ne 7, 3) := by decide +kernel
theorem dX5_isMissing_7 : decode cX5_isMissing 7 = .ok (.iconst 1, 1) := by decide +kernel
theorem dX5_isMissing_8 : decode cX5_isMissing 8 = .ok (.goto 4, 3) := by decide +kernel
theorem dX5_isMissing_11 : decode cX5_isMissing 11 = .ok (.iconst 0, 1) := by decide +kernel
theorem dX5_isMissing_12 : decode cX5_isMissing 12 = .ok (.ireturn, 1) := by decide +kernel
theorem dX5_begin_0 : decode cX5_begin 0 = .ok (.aload_n 0, 1) := by decide +kernel
theorem dX5_begin_1 : decode cX5_begin 1 = .ok (.iload_n 1, 1) := by decide +kernel
theorem dX5_begin_2 : decode cX5_begin 2 = .ok (.putfield 15, 3) := by decide +kernel
theorem dX5_begin_5 : decode cX5_begin 5 = .ok (.aload_n 0, 1) := by decide +kernel
theorem dX5_begin_6 : decode cX5_begin 6 = .ok (.iload_n 2, 1) := by decide +kernel
theorem dX5_begin_7 : decode cX5_begin 7 = .ok (.putfield 19, 3) := by decide +kernel
theorem dX5_begin_10 : decode cX5_begin 10 = .ok (.iconst 0, 1) := by decide +kernel
theorem dX5_begin_11 : decode cX5_begin 11 = .ok (.istore_n 3, 1) := by decide +kernel
theorem dX5_begin_12 : decode cX5_begin 12 = .ok (.iload_n 3, 1) := by decide +kernel
theorem dX5_begin_13 : decode cX5_begin 13 = .ok (.bipush 16, 2) := by decide +kernel
theorem dX5_begin_15 : decode cX5_begin 15 = .ok (.if_icmp .ge 16, 3) := by decide +kernel
theorem dX5_begin_18 : decode cX5_begin 18 = .ok (.aload_n 0, 1) := by decide +kernel
theorem dX5_begin_19 : decode cX5_begin 19 = .ok (.getfield 9, 3) := by decide +kernel
theorem dX5_begin_22 : decode cX5_begin 22 = .ok (.iload_n 3, 1) := by decide +kernel
theorem dX5_begin_23 : decode cX5_begin 23 = .ok (.iconst 0, 1) := by decide +kernel
theorem dX5_begin_24 : decode cX5_begin 24 = .ok (.iastore, 1) := by decide +kernel
theorem dX5_begin_25 : decode cX5_begin 25 = .ok (.iinc 3 1, 3) := by decide +kernel
theorem dX5_begin_28 : decode cX5_begin 28 = .ok (.goto (-16), 3) := by decide +kernel
theorem dX5_begin_31 : decode cX5_begin 31 = .ok (.return_, 1) := by decide +kernel
theorem dX5_lowestBits_0 : decode cX5_lowestBits 0 = .ok (.aload_n 0, 1) := by decide +kernel
theorem dX5_lowestBits_1 : decode cX5_lowestBits 1 = .ok (.getfield 15, 3) := by decide +kernel
theorem dX5_lowestBits_4 : decode cX5_lowestBits 4 = .ok (.bipush 8, 2) := by decide +kernel
theorem dX5_lowestBits_6 : decode cX5_lowestBits 6 = .ok (.if_icmp .ne 6, 3) := by decide +kernel
theorem dX5_lowestBits_9 : decode cX5_lowestBits 9 = .ok (.iload_n 1, 1) := by decide +kernel
theorem dX5_lowestBits_10 : decode cX5_lowestBits 10 = .ok (.i2b, 1) := by decide +kernel
theorem dX5_lowestBits_11 : decode cX5_lowestBits 11 = .ok (.ireturn, 1) := by decide +kernel
theorem dX5_lowestBits_12 : decode cX5_lowestBits 12 = .ok (.aload_n 0, 1) := by decide +kernel
theorem dX5_lowestBits_13 : decode cX5_lowestBits 13 = .ok (.getfield 15, 3) := by decide +kernel
theorem dX5_lowestBits_16 : decode cX5_lowestBits 16 = .ok (.bipush 16, 2) := by decide +kernel
theorem dX5_lowestBits_18 : decode cX5_lowestBits 18 = .ok (.if_icmp .ne 8, 3) := by decide +kernel
theorem dX5_lowestBits_21 : decode cX5_lowestBits 21 = .ok (.iload_n 1, 1) := by decide +kernel
theorem dX5_lowestBits_22 : decode cX5_lowestBits 22 = .ok (.i2s, 1) := by decide +kernel
theorem dX5_lowestBits_23 : decode cX5_lowestBits 23 = .ok (.goto 4, 3) := by decide +kernel
theorem dX5_lowestBits_26 : decode cX5_lowestBits 26 = .ok (.iload_n 1, 1) := by decide +kernel
theorem dX5_lowestBits_27 : decode cX5_lowestBits 27 = .ok (.ireturn, 1) := by decide +kernel
theorem dX5_hasRange_0 : decode cX5_hasRange 0 = .ok (.iload_n 1, 1) := by decide +kernel
theorem dX5_hasRange_1 : decode cX5_hasRange 1 = .ok (.ifCond .lt 29, 3) := by decide +kernel
theorem dX5_hasRange_4 : decode cX5_hasRange 4 = .ok (.iload_n 2, 1) := by decide +kernel
theorem dX5_hasRange_5 : decode cX5_hasRange 5 = .ok (.ifCond .lt 25, 3) := by decide +kernel
theorem dX5_hasRange_8 : decode cX5_hasRange 8 = .ok (.iload_n 2, 1) := by decide +kernel
theorem dX5_hasRange_9 : decode cX5_hasRange 9 = .ok (.aload_n 0, 1) := by decide +kernel
theorem dX5_hasRange_10 : decode cX5_hasRange 10 = .ok (.getfield 19, 3) := by decide +kernel
theorem dX5_hasRange_13 : decode cX5_hasRange 13 = .ok (.if_icmp .gt 17, 3) := by decide +kernel
theorem dX5_hasRange_16 : decode cX5_hasRange 16 = .ok (.iload_n 1, 1) := by decide +kernel
theorem dX5_hasRange_17 : decode cX5_hasRange 17 = .ok (.aload_n 0, 1) := by decide +kernel
theorem dX5_hasRange_18 : decode cX5_hasRange 18 = .ok (.getfield 19, 3) := by decide +kernel
theorem dX5_hasRange_21 : decode cX5_hasRange 21 = .ok (.iload_n 2, 1) := by decide +kernel
theorem dX5_hasRange_22 : decode cX5_hasRange 22 = .ok (.isub, 1) := by decide +kernel
theorem dX5_hasRange_23 : decode cX5_hasRange 23 = .ok (.if_icmp .gt 7, 3) := by decide +kernel
theorem dX5_hasRange_26 : decode cX5_hasRange 26 = .ok (.iconst 1, 1) := by decide +kernel
theorem dX5_hasRange_27 : decode cX5_hasRange 27 = .ok (.goto 4, 3) := by decide +kernel
theorem dX5_hasRange_30 : decode cX5_hasRange 30 = .ok (.iconst 0, 1) := by decide +kernel
theorem dX5_hasRange_31 : decode cX5_hasRange 31 = .ok (.ireturn, 1) := by decide +kernel
theorem dX6_init_0 : decode cX6_init 0 = .ok (.aload_n 0, 1) := by decide +kernel
theorem dX6_init_1 : decode cX6_init 1 = .ok (.invokespecial 3, 3) := by decide +kernel
theorem dX6_init_4 : decode cX6_init 4 = .ok (.aload_n 0, 1) := by decide +kernel
theorem dX6_init_5 : decode cX6_init 5 = .ok (.iconst 5, 1) := by decide +kernel
theorem dX6_init_6 : decode cX6_init 6 = .ok (.bipush 10, 2) := by decide +kernel
theorem dX6_init_8 : decode cX6_init 8 = .ok (.multianewarray 9 2, 4) := by decide +kernel
theorem dX6_init_12 : decode cX6_init 12 = .ok (.putfield 11, 3) := by decide +kernel
theorem dX6_init_15 : decode cX6_init 15 = .ok (.return_, 1) := by decide +kernel
theorem dX6_fillRow_0 : decode cX6_fillRow 0 = .ok (.iconst 0, 1) := by decide +kernel
theorem dX6_fillRow_1 : decode cX6_fillRow 1 = .ok (.istore_n 3, 1) := by decide +kernel
theorem dX6_fillRow_2 : decode cX6_fillRow 2 = .ok (.iload_n 3, 1) := by decide +kernel
theorem dX6_fillRow_3 : decode cX6_fillRow 3 = .ok (.bipush 10, 2) := by decide +kernel
theorem dX6_fillRow_5 : decode cX6_fillRow 5 = .ok (.if_icmp .ge 21, 3) := by decide +kernel
theorem dX6_fillRow_8 : decode cX6_fillRow 8 = .ok (.aload_n 0, 1) := by decide +kernel
theorem dX6_fillRow_9 : decode cX6_fillRow 9 = .ok (.getfield 11, 3) := by decide +kernel
theorem dX6_fillRow_12 : decode cX6_fillRow 12 = .ok (.iload_n 1, 1) := by decide +kernel
theorem dX6_fillRow_13 : decode cX6_fillRow 13 = .ok (.aaload, 1) := by decide +kernel
theorem dX6_fillRow_14 : decode cX6_fillRow 14 = .ok (.iload_n 3, 1) := by decide +kernel
theorem dX6_fillRow_15 : decode cX6_fillRow 15 = .ok (.aload_n 2, 1) := by decide +kernel
theorem dX6_fillRow_16 : decode cX6_fillRow 16 = .ok (.iload_n 3, 1) := by decide +kernel
theorem dX6_fillRow_17 : decode cX6_fillRow 17 = .ok (.iaload, 1) := by decide +kernel
theorem dX6_fillRow_18 : decode cX6_fillRow 18 = .ok (.i2l, 1) := by decide +kernel
theorem dX6_fillRow_19 : decode cX6_fillRow 19 = .ok (.lastore, 1) := by decide +kernel
theorem dX6_fillRow_20 : decode cX6_fillRow 20 = .ok (.iinc 3 1, 3) := by decide +kernel
theorem dX6_fillRow_23 : decode cX6_fillRow 23 = .ok (.goto (-21), 3) := by decide +kernel
theorem dX6_fillRow_26 : decode cX6_fillRow 26 = .ok (.return_, 1) := by decide +kernel
set_option maxRecDepth 20000 in
theorem ggX6_rank_X6_raisePivot : GoodIn wsX6_rank wsX6_raisePivot := goodIn_r _ [6, 1, 7, 8, 9, 5, 10, 15] (by decide +kernel) (by decide +kernel)
set_option maxRecDepth 20000 in
theorem gX6_rank_X6_raisePivot : GoodIn wsX6_rank (wsV RX6 16 RX6 yX6_raisePivot wsX6_raisePivot) := goodIn_app (goodIn_of _ (by decide +kernel)) ggX6_rank_X6_raisePivot
set_option maxRecDepth 20000 in
theorem ggX6_rank_X6_clearBelow : GoodIn wsX6_rank wsX6_clearBelow := goodIn_r _ [14, 1, 15] (by decide +kernel) (by decide +kernel)
set_option maxRecDepth 20000 in
theorem gX6_rank_X6_clearBelow : GoodIn wsX6_rank (wsV RX6 20 RX6 yX6_clearBelow wsX6_clearBelow) := goodIn_app (goodIn_of _ (by decide +kernel)) ggX6_rank_X6_clearBelow
theorem dX6_rank_0 : decode cX6_rank 0 = .ok (.iconst 0, 1) := by decide +kernel
theorem dX6_rank_1 : decode cX6_rank 1 = .ok (.istore_n 1, 1) := by decide +kernel
theorem dX6_rank_2 : decode cX6_rank 2 = .ok (.lconst 1, 1) := by decide +kernel
theorem dX6_rank_3 : decode cX6_rank 3 = .ok (.lstore_n 2, 1) := by decide +kernel
theorem dX6_rank_4 : decode cX6_rank 4 = .ok (.iconst 0, 1) := by decide +kernel
theorem dX6_rank_5 : decode cX6_rank 5 = .ok (.istore 4, 2) := by decide +kernel
theorem dX6_rank_7 : decode cX6_rank 7 = .ok (.iload 4, 2) := by decide +kernel
theorem dX6_rank_9 : decode cX6_rank 9 = .ok (.bipush 10, 2) := by decide +kernel
theorem dX6_rank_11 : decode cX6_rank 11 = .ok (.if_icmp .ge 48, 3) := by decide +kernel
theorem dX6_rank_14 : decode cX6_rank 14 = .ok (.iload_n 1, 1) := by decide +kernel
theorem dX6_rank_15 : decode cX6_rank 15 = .ok (.iconst 5, 1) := by decide +kernel
theorem dX6_rank_16 : decode cX6_rank 16 = .ok (.if_icmp .ge 43, 3) := by decide +kernel
theorem dX6_rank_19 : decode cX6_rank 19 = .ok (.aload_n 0, 1) := by decide +kernel
theorem dX6_rank_20 : decode cX6_rank 20 = .ok (.iload_n 1, 1) := by decide +kernel
theorem dX6_rank_21 : decode cX6_rank 21 = .ok (.iload 4, 2) := by decide +kernel
theorem dX6_rank_23 : decode cX6_rank 23 = .ok (.invokevirtual 16, 3) := by decide +kernel
theorem dX6_rank_26 : decode cX6_rank 26 = .ok (.ifCond .ne 6, 3) := by decide +kernel
theorem dX6_rank_29 : decode cX6_rank 29 = .ok (.goto 24, 3) := by decide +kernel
theorem dX6_rank_32 : decode cX6_rank 32 = .ok (.aload_n 0, 1) := by decide +kernel
theorem dX6_rank_33 : decode cX6_rank 33 = .ok (.iload_n 1, 1) := by decide +kernel
theorem dX6_rank_34 : decode cX6_rank 34 = .ok (.iload 4, 2) := by decide +kernel
theorem dX6_rank_36 : decode cX6_rank 36 = .ok (.lload_n 2, 1) := by decide +kernel
theorem dX6_rank_37 : decode cX6_rank 37 = .ok (.invokevirtual 20, 3) := by decide +kernel
theorem dX6_rank_40 : decode cX6_rank 40 = .ok (.aload_n 0, 1) := by decide +kernel
theorem dX6_rank_41 : decode cX6_rank 41 = .ok (.getfield 11, 3) := by decide +kernel
theorem dX6_rank_44 : decode cX6_rank 44 = .ok (.iload_n 1, 1) := by decide +kernel
theorem dX6_rank_45 : decode cX6_rank 45 = .ok (.aaload, 1) := by decide +kernel
theorem dX6_rank_46 : decode cX6_rank 46 = .ok (.iload 4, 2) := by decide +kernel
theorem dX6_rank_48 : decode cX6_rank 48 = .ok (.laload, 1) := by decide +kernel
theorem dX6_rank_49 : decode cX6_rank 49 = .ok (.lstore_n 2, 1) := by decide +kernel
theorem dX6_rank_50 : decode cX6_rank 50 = .ok (.iinc 1 1, 3) := by decide +kernel
theorem dX6_rank_53 : decode cX6_rank 53 = .ok (.iinc 4 1, 3) := by decide +kernel
theorem dX6_rank_56 : decode cX6_rank 56 = .ok (.goto (-49), 3) := by decide +kernel
theorem dX6_rank_59 : decode cX6_rank 59 = .ok (.iload_n 1, 1) := by decide +kernel
theorem dX6_rank_60 : decode cX6_rank 60 = .ok (.ireturn, 1) := by decide +kernel
set_option maxRecDepth 20000 in
theorem ggX6_raisePivot_X6_swapRows : GoodIn wsX6_raisePivot wsX6_swapRows := goodIn_r _ [6, 1, 7] (by decide +kernel) (by decide +kernel)
set_option maxRecDepth 20000 in
theorem gX6_raisePivot_X6_swapRows : GoodIn wsX6_raisePivot (wsV RX6 24 RX6 yX6_swapRows wsX6_swapRows) := goodIn_app (goodIn_of _ (by decide +kernel)) ggX6_raisePivot_X6_swapRows
theorem dX6_raisePivot_0 : decode cX6_raisePivot 0 = .ok (.iload_n 1, 1) := by decide +kernel
theorem dX6_raisePivot_1 : decode cX6_raisePivot 1 = .ok (.istore_n 3, 1) := by decide +kernel
theorem dX6_raisePivot_2 : decode cX6_raisePivot 2 = .ok (.iload_n 3, 1) := by decide +kernel
theorem dX6_raisePivot_3 : decode cX6_raisePivot 3 = .ok (.iconst 5, 1) := by decide +kernel
theorem dX6_raisePivot_4 : decode cX6_raisePivot 4 = .ok (.if_icmp .ge 30, 3) := by decide +kernel
theorem dX6_raisePivot_7 : decode cX6_raisePivot 7 = .ok (.aload_n 0, 1) := by decide +kernel
theorem dX6_raisePivot_8 : decode cX6_raisePivot 8 = .ok (.getfield 11, 3) := by decide +kernel
theorem dX6_raisePivot_11 : decode cX6_raisePivot 11 = .ok (.iload_n 3, 1) := by decide +kernel
theorem dX6_raisePivot_12 : decode cX6_raisePivot 12 = .ok (.aaload, 1) := by decide +kernel
theorem dX6_raisePivot_13 : decode cX6_raisePivot 13 = .ok (.iload_n 2, 1) := by decide +kernel
theorem dX6_raisePivot_14 : decode cX6_raisePivot 14 = .ok (.laload, 1) := by decide +kernel
theorem dX6_raisePivot_15 : decode cX6_raisePivot 15 = .ok (.lconst 0, 1) := by decide +kernel
theorem dX6_raisePivot_16 : decode cX6_raisePivot 16 = .ok (.lcmp, 1) := by decide +kernel
theorem dX6_raisePivot_17 : decode cX6_raisePivot 17 = .ok (.ifCond .eq 11, 3) := by decide +kernel
theorem dX6_raisePivot_20 : decode cX6_raisePivot 20 = .ok (.aload_n 0, 1) := by decide +kernel
theorem dX6_raisePivot_21 : decode cX6_raisePivot 21 = .ok (.iload_n 3, 1) := by decide +kernel
theorem dX6_raisePivot_22 : decode cX6_raisePivot 22 = .ok (.iload_n 1, 1) := by decide +kernel
theorem dX6_raisePivot_23 : decode cX6_raisePivot 23 = .ok (.invokevirtual 24, 3) := by decide +kernel
theorem dX6_raisePivot_26 : decode cX6_raisePivot 26 = .ok (.iconst 1, 1) := by decide +kernel
theorem dX6_raisePivot_27 : decode cX6_raisePivot 27 = .ok (.ireturn, 1) := by decide +kernel
theorem dX6_raisePivot_28 : decode cX6_raisePivot 28 = .ok (.iinc 3 1, 3) := by decide +kernel
theorem dX6_raisePivot_31 : decode cX6_raisePivot 31 = .ok (.goto (-29), 3) := by decide +kernel
theorem dX6_raisePivot_34 : decode cX6_raisePivot 34 = .ok (.iconst 0, 1) := by decide +kernel
theorem dX6_raisePivot_35 : decode cX6_raisePivot 35 = .ok (.ireturn, 1) := by decide +kernel
theorem dX6_swapRows_0 : decode cX6_swapRows 0 = .ok (.iconst 0, 1) := by decide +kernel
theorem dX6_swapRows_1 : decode cX6_swapRows 1 = .ok (.istore_n 3, 1) := by decide +kernel
theorem dX6_swapRows_2 : decode cX6_swapRows 2 = .ok (.iload_n 3, 1) := by decide +kernel
theorem dX6_swapRows_3 : decode cX6_swapRows 3 = .ok (.bipush 10, 2) := by decide +kernel
theorem dX6_swapRows_5 : decode cX6_swapRows 5 = .ok (.if_icmp .ge 45, 3) := by decide +kernel
theorem dX6_swapRows_8 : decode cX6_swapRows 8 = .ok (.aload_n 0, 1) := by decide +kernel
theorem dX6_swapRows_9 : decode cX6_swapRows 9 = .ok (.getfield 11, 3) := by decide +kernel
theorem dX6_swapRows_12 : decode cX6_swapRows 12 = .ok (.iload_n 1, 1) := by decide +kernel
theorem dX6_swapRows_13 : decode cX6_swapRows 13 = .ok (.aaload, 1) := by decide +kernel
theorem dX6_swapRows_14 : decode cX6_swapRows 14 = .ok (.iload_n 3, 1) := by decide +kernel
theorem dX6_swapRows_15 : decode cX6_swapRows 15 = .ok (.laload, 1) := by decide +kernel
theorem dX6_swapRows_16 : decode cX6_swapRows 16 = .ok (.lstore 4, 2) := by decide +kernel
theorem dX6_swapRows_18 : decode cX6_swapRows 18 = .ok (.aload_n 0, 1) := by decide +kernel
theorem dX6_swapRows_19 : decode cX6_swapRows 19 = .ok (.getfield 11, 3) := by decide +kernel
theorem dX6_swapRows_22 : decode cX6_swapRows 22 = .ok (.iload_n 1, 1) := by decide +kernel
theorem dX6_swapRows_23 : decode cX6_swapRows 23 = .ok (.aaload, 1) := by decide +kernel
theorem dX6_swapRows_24 : decode cX6_swapRows 24 = .ok (.iload_n 3, 1) := by decide +kernel
theorem dX6_swapRows_25 : decode cX6_swapRows 25 = .ok (.aload_n 0, 1) := by decide +kernel
theorem dX6_swapRows_26 : decode cX6_swapRows 26 = .ok (.getfield 11, 3) := by decide +kernel
theorem dX6_swapRows_29 : decode cX6_swapRows 29 = .ok (.iload_n 2, 1) := by decide +kernel
theorem dX6_swapRows_30 : decode cX6_swapRows 30 = .ok (.aaload, 1) := by decide +kernel
theorem dX6_swapRows_31 : decode cX6_swapRows 31 = .ok (.iload_n 3, 1) := by decide +kernel
theorem dX6_swapRows_32 : decode cX6_swapRows 32 = .ok (.laload, 1) := by decide +kernel
theorem dX6_swapRows_33 : decode cX6_swapRows 33 = .ok (.lastore, 1) := by decide +kernel
theorem dX6_swapRows_34 : decode cX6_swapRows 34 = .ok (.aload_n 0, 1) := by decide +kernel
theorem dX6_swapRows_35 : decode cX6_swapRows 35 = .ok (.getfield 11, 3) := by decide +kernel
theorem dX6_swapRows_38 : decode cX6_swapRows 38 = .ok (.iload_n 2, 1) := by decide +kernel
theorem dX6_swapRows_39 : decode cX6_swapRows 39 = .ok (.aaload, 1) := by decide +kernel
theorem dX6_swapRows_40 : decode cX6_swapRows 40 = .ok (.iload_n 3, 1) := by decide +kernel
theorem dX6_swapRows_41 : decode cX6_swapRows 41 = .ok (.lload 4, 2) := by decide +kernel
theorem dX6_swapRows_43 : decode cX6_swapRows 43 = .ok (.lastore, 1) := by decide +kernel
theorem dX6_swapRows_44 : decode cX6_swapRows 44 = .ok (.iinc 3 1, 3) := by decide +kernel
theorem dX6_swapRows_47 : decode cX6_swapRows 47 = .ok (.goto (-45), 3) := by decide +kernel
theorem dX6_swapRows_50 : decode cX6_swapRows 50 = .ok (.return_, 1) := by decide +kernel
theorem dX6_clearBelow_0 : decode cX6_clearBelow 0 = .ok (.aload_n 0, 1) := by decide +kernel
theorem dX6_clearBelow_1 : decode cX6_clearBelow 1 = .ok (.getfield 11, 3) := by decide +kernel
theorem dX6_clearBelow_4 : decode cX6_clearBelow 4 = .ok (.iload_n 1, 1) := by decide +kernel
theorem dX6_clearBelow_5 : decode cX6_clearBelow 5 = .ok (.aaload, 1) := by decide +kernel
theorem dX6_clearBelow_6 : decode cX6_clearBelow 6 = .ok (.iload_n 2, 1) := by decide +kernel
theorem dX6_clearBelow_7 : decode cX6_clearBelow 7 = .ok (.laload, 1) := by decide +kernel
theorem dX6_clearBelow_8 : decode cX6_clearBelow 8 = .ok (.lstore 5, 2) := by decide +kernel
theorem dX6_clearBelow_10 : decode cX6_clearBelow 10 = .ok (.iload_n 1, 1) := by decide +kernel
theorem dX6_clearBelow_11 : decode cX6_clearBelow 11 = .ok (.iconst 1, 1) := by decide +kernel
theorem dX6_clearBelow_12 : decode cX6_clearBelow 12 = .ok (.iadd, 1) := by decide +kernel
theorem dX6_clearBelow_13 : decode cX6_clearBelow 13 = .ok (.istore 7, 2) := by decide +kernel
theorem dX6_clearBelow_15 : decode cX6_clearBelow 15 = .ok (.iload 7, 2) := by decide +kernel
theorem dX6_clearBelow_17 : decode cX6_clearBelow 17 = .ok (.iconst 5, 1) := by decide +kernel
theorem dX6_clearBelow_18 : decode cX6_clearBelow 18 = .ok (.if_icmp .ge 89, 3) := by decide +kernel
theorem dX6_clearBelow_21 : decode cX6_clearBelow 21 = .ok (.aload_n 0, 1) := by decide +kernel
theorem dX6_clearBelow_22 : decode cX6_clearBelow 22 = .ok (.getfield 11, 3) := by decide +kernel
theorem dX6_clearBelow_25 : decode cX6_clearBelow 25 = .ok (.iload 7, 2) := by decide +kernel
theorem dX6_clearBelow_27 : decode cX6_clearBelow 27 = .ok (.aaload, 1) := by decide +kernel
theorem dX6_clearBelow_28 : decode cX6_clearBelow 28 = .ok (.iload_n 2, 1) := by decide +kernel
theorem dX6_clearBelow_29 : decode cX6_clearBelow 29 = .ok (.laload, 1) := by decide +kernel
theorem dX6_clearBelow_30 : decode cX6_clearBelow 30 = .ok (.lstore 8, 2) := by decide +kernel
theorem dX6_clearBelow_32 : decode cX6_clearBelow 32 = .ok (.iload_n 2, 1) := by decide +kernel
theorem dX6_clearBelow_33 : decode cX6_clearBelow 33 = .ok (.istore 10, 2) := by decide +kernel
theorem dX6_clearBelow_35 : decode cX6_clearBelow 35 = .ok (.iload 10, 2) := by decide +kernel
theorem dX6_clearBelow_37 : decode cX6_clearBelow 37 = .ok (.bipush 10, 2) := by decide +kernel
theorem dX6_clearBelow_39 : decode cX6_clearBelow 39 = .ok (.if_icmp .ge 62, 3) := by decide +kernel
theorem dX6_clearBelow_42 : decode cX6_clearBelow 42 = .ok (.aload_n 0, 1) := by decide +kernel
theorem dX6_clearBelow_43 : decode cX6_clearBelow 43 = .ok (.getfield 11, 3) := by decide +kernel
theorem dX6_clearBelow_46 : decode cX6_clearBelow 46 = .ok (.iload 7, 2) := by decide +kernel
theorem dX6_clearBelow_48 : decode cX6_clearBelow 48 = .ok (.aaload, 1) := by decide +kernel
theorem dX6_clearBelow_49 : decode cX6_clearBelow 49 = .ok (.iload 10, 2) := by decide +kernel
theorem dX6_clearBelow_51 : decode cX6_clearBelow 51 = .ok (.laload, 1) := by decide +kernel
theorem dX6_clearBelow_52 : decode cX6_clearBelow 52 = .ok (.lload 5, 2) := by decide +kernel
theorem dX6_clearBelow_54 : decode cX6_clearBelow 54 = .ok (.lmul, 1) := by decide +kernel
theorem dX6_clearBelow_55 : decode cX6_clearBelow 55 = .ok (.lload 8, 2) := by decide +kernel
theorem dX6_clearBelow_57 : decode cX6_clearBelow 57 = .ok (.aload_n 0, 1) := by decide +kernel
theorem dX6_clearBelow_58 : decode cX6_clearBelow 58 = .ok (.getfield 11, 3) := by decide +kernel
theorem dX6_clearBelow_61 : decode cX6_clearBelow 61 = .ok (.iload_n 1, 1) := by decide +kernel
theorem dX6_clearBelow_62 : decode cX6_clearBelow 62 = .ok (.aaload, 1) := by decide +kernel
theorem dX6_clearBelow_63 : decode cX6_clearBelow 63 = .ok (.iload 10, 2) := by decide +kernel
theorem dX6_clearBelow_65 : decode cX6_clearBelow 65 = .ok (.laload, 1) := by decide +kernel
theorem dX6_clearBelow_66 : decode cX6_clearBelow 66 = .ok (.lmul, 1) := by decide +kernel
theorem dX6_clearBelow_67 : decode cX6_clearBelow 67 = .ok (.lsub, 1) := by decide +kernel
theorem dX6_clearBelow_68 : decode cX6_clearBelow 68 = .ok (.lstore 11, 2) := by decide +kernel
theorem dX6_clearBelow_70 : decode cX6_clearBelow 70 = .ok (.aload_n 0, 1) := by decide +kernel
theorem dX6_clearBelow_71 : decode cX6_clearBelow 71 = .ok (.getfield 11, 3) := by decide +kernel
theorem dX6_clearBelow_74 : decode cX6_clearBelow 74 = .ok (.iload 7, 2) := by decide +kernel
theorem dX6_clearBelow_76 : decode cX6_clearBelow 76 = .ok (.aaload, 1) := by decide +kernel
theorem dX6_clearBelow_77 : decode cX6_clearBelow 77 = .ok (.iload 10, 2) := by decide +kernel
theorem dX6_clearBelow_79 : decode cX6_clearBelow 79 = .ok (.lload_n 3, 1) := by decide +kernel
theorem dX6_clearBelow_80 : decode cX6_clearBelow 80 = .ok (.lconst 0, 1) := by decide +kernel
theorem dX6_clearBelow_81 : decode cX6_clearBelow 81 = .ok (.lcmp, 1) := by decide +kernel
theorem dX6_clearBelow_82 : decode cX6_clearBelow 82 = .ok (.ifCond .ne 8, 3) := by decide +kernel
theorem dX6_clearBelow_85 : decode cX6_clearBelow 85 = .ok (.lload 11, 2) := by decide +kernel
theorem dX6_clearBelow_87 : decode cX6_clearBelow 87 = .ok (.goto 7, 3) := by decide +kernel
theorem dX6_clearBelow_90 : decode cX6_clearBelow 90 = .ok (.lload 11, 2) := by decide +kernel
theorem dX6_clearBelow_92 : decode cX6_clearBelow 92 = .ok (.lload_n 3, 1) := by decide +kernel
theorem dX6_clearBelow_93 : decode cX6_clearBelow 93 = .ok (.ldiv, 1) := by decide +kernel
theorem dX6_clearBelow_94 : decode cX6_clearBelow 94 = .ok (.lastore, 1) := by decide +kernel
theorem dX6_clearBelow_95 : decode cX6_clearBelow 95 = .ok (.iinc 10 1, 3) := by decide +kernel
theorem dX6_clearBelow_98 : decode cX6_clearBelow 98 = .ok (.goto (-63), 3) := by decide +kernel
theorem dX6_clearBelow_101 : decode cX6_clearBelow 101 = .ok (.iinc 7 1, 3) := by decide +kernel
theorem dX6_clearBelow_104 : decode cX6_clearBelow 104 = .ok (.goto (-89), 3) := by decide +kernel
theorem dX6_clearBelow_107 : decode cX6_clearBelow 107 = .ok (.return_, 1) := by decide +kernel
set_option maxRecDepth 20000 in
theorem ggX7_init_X1_init : GoodIn wsX7_init wsX1_init := goodIn_r _ [37, 38, 2, 3, 39, 40, 41, 42, 43, 44, 45, 46, 18, 47, 104, 76, 77] (by decide +kernel) (by decide +kernel)
set_option maxRecDepth 20000 in
theorem gX7_init_X1_init_n9 : GoodIn wsX7_init (wsX1_init) := ggX7_init_X1_init
set_option maxRecDepth 20000 in
theorem ggX7_init_X0_init : GoodIn wsX7_init wsX0_init := goodIn_r _ [49, 50, 2, 3, 18, 51, 52, 53, 91, 92, 93] (by decide +kernel) (by decide +kernel)
set_option maxRecDepth 20000 in
theorem gX7_init_X0_init_n21 : GoodIn wsX7_init (wsX0_init) := ggX7_init_X0_init
set_option maxRecDepth 20000 in
theorem ggX7_init_X2_init : GoodIn wsX7_init wsX2_init := goodIn_r _ [55, 56, 2, 3, 57, 18, 58, 59, 60, 94, 95, 96] (by decide +kernel) (by decide +kernel)
set_option maxRecDepth 20000 in
theorem gX7_init_X2_init_n28 : GoodIn wsX7_init (wsX2_init) := ggX7_init_X2_init
set_option maxRecDepth 20000 in
theorem ggX7_init_X5_init : GoodIn wsX7_init wsX5_init := goodIn_r _ [62, 63, 2, 3, 18, 64, 65, 66, 97, 98, 99] (by decide +kernel) (by decide +kernel)
set_option maxRecDepth 20000 in
theorem gX7_init_X5_init_n47 : GoodIn wsX7_init (wsX5_init) := ggX7_init_X5_init
set_option maxRecDepth 20000 in
theorem ggX7_init_X4_init : GoodIn wsX7_init wsX4_init := goodIn_r _ [68, 69, 2, 3] (by decide +kernel) (by decide +kernel)
set_option maxRecDepth 20000 in
theorem gX7_init_X4_init_n50 : GoodIn wsX7_init (wsX4_init) := ggX7_init_X4_init
set_option maxRecDepth 20000 in
theorem ggX7_init_X6_init : GoodIn wsX7_init wsX6_init := goodIn_r _ [71, 72, 2, 3, 73, 74, 75, 103] (by decide +kernel) (by decide +kernel)
set_option maxRecDepth 20000 in
theorem gX7_init_X6_init_n66 : GoodIn wsX7_init (wsX6_init) := ggX7_init_X6_init
theorem dX7_init_0 : decode cX7_init 0 = .ok (.aload_n 0, 1) := by decide +kernel
theorem dX7_init_1 : decode cX7_init 1 = .ok (.invokespecial 1, 3) := by decide +kernel
theorem dX7_init_4 : decode cX7_init 4 = .ok (.aload_n 0, 1) := by decide +kernel
theorem dX7_init_5 : decode cX7_init 5 = .ok (.new 7, 3) := by decide +kernel
theorem dX7_init_8 : decode cX7_init 8 = .ok (.dup, 1) := by decide +kernel
theorem dX7_init_9 : decode cX7_init 9 = .ok (.invokespecial 9, 3) := by decide +kernel
theorem dX7_init_12 : decode cX7_init 12 = .ok (.putfield 10, 3) := by decide +kernel
theorem dX7_init_15 : decode cX7_init 15 = .ok (.aload_n 0, 1) := by decide +kernel
theorem dX7_init_16 : decode cX7_init 16 = .ok (.new 7, 3) := by decide +kernel
theorem dX7_init_19 : decode cX7_init 19 = .ok (.dup, 1) := by decide +kernel
theorem dX7_init_20 : decode cX7_init 20 = .ok (.invokespecial 9, 3) := by decide +kernel
theorem dX7_init_23 : decode cX7_init 23 = .ok (.putfield 16, 3) := by decide +kernel
theorem dX7_init_26 : decode cX7_init 26 = .ok (.aload_n 0, 1) := by decide +kernel
theorem dX7_init_27 : decode cX7_init 27 = .ok (.new 19, 3) := by decide +kernel
theorem dX7_init_30 : decode cX7_init 30 = .ok (.dup, 1) := by decide +kernel
theorem dX7_init_31 : decode cX7_init 31 = .ok (.invokespecial 21, 3) := by decide +kernel
theorem dX7_init_34 : decode cX7_init 34 = .ok (.putfield 22, 3) := by decide +kernel
theorem dX7_init_37 : decode cX7_init 37 = .ok (.aload_n 0, 1) := by decide +kernel
theorem dX7_init_38 : decode cX7_init 38 = .ok (.new 26, 3) := by decide +kernel
theorem dX7_init_41 : decode cX7_init 41 = .ok (.dup, 1) := by decide +kernel
theorem dX7_init_42 : decode cX7_init 42 = .ok (.invokespecial 28, 3) := by decide +kernel
theorem dX7_init_45 : decode cX7_init 45 = .ok (.putfield 29, 3) := by decide +kernel
theorem dX7_init_48 : decode cX7_init 48 = .ok (.aload_n 0, 1) := by decide +kernel
theorem dX7_init_49 : decode cX7_init 49 = .ok (.iconst 4, 1) := by decide +kernel
theorem dX7_init_50 : decode cX7_init 50 = .ok (.anewarray 7, 3) := by decide +kernel
theorem dX7_init_53 : decode cX7_init 53 = .ok (.putfield 33, 3) := by decide +kernel
theorem dX7_init_56 : decode cX7_init 56 = .ok (.aload_n 0, 1) := by decide +kernel
theorem dX7_init_57 : decode cX7_init 57 = .ok (.iconst 4, 1) := by decide +kernel
theorem dX7_init_58 : decode cX7_init 58 = .ok (.newarray .int, 2) := by decide +kernel
theorem dX7_init_60 : decode cX7_init 60 = .ok (.putfield 37, 3) := by decide +kernel
theorem dX7_init_63 : decode cX7_init 63 = .ok (.iconst 0, 1) := by decide +kernel
theorem dX7_init_64 : decode cX7_init 64 = .ok (.istore_n 1, 1) := by decide +kernel
theorem dX7_init_65 : decode cX7_init 65 = .ok (.iload_n 1, 1) := by decide +kernel
theorem dX7_init_66 : decode cX7_init 66 = .ok (.iconst 4, 1) := by decide +kernel
theorem dX7_init_67 : decode cX7_init 67 = .ok (.if_icmp .ge 29, 3) := by decide +kernel
theorem dX7_init_70 : decode cX7_init 70 = .ok (.aload_n 0, 1) := by decide +kernel
theorem dX7_init_71 : decode cX7_init 71 = .ok (.getfield 33, 3) := by decide +kernel
theorem dX7_init_74 : decode cX7_init 74 = .ok (.iload_n 1, 1) := by decide +kernel
theorem dX7_init_75 : decode cX7_init 75 = .ok (.new 7, 3) := by decide +kernel
theorem dX7_init_78 : decode cX7_init 78 = .ok (.dup, 1) := by decide +kernel
theorem dX7_init_79 : decode cX7_init 79 = .ok (.invokespecial 9, 3) := by decide +kernel
theorem dX7_init_82 : decode cX7_init 82 = .ok (.aastore, 1) := by decide +kernel
theorem dX7_init_83 : decode cX7_init 83 = .ok (.aload_n 0, 1) := by decide +kernel
theorem dX7_init_84 : decode cX7_init 84 = .ok (.getfield 37, 3) := by decide +kernel
theorem dX7_init_87 : decode cX7_init 87 = .ok (.iload_n 1, 1) := by decide +kernel
theorem dX7_init_88 : decode cX7_init 88 = .ok (.iconst (-1), 1) := by decide +kernel
theorem dX7_init_89 : decode cX7_init 89 = .ok (.iastore, 1) := by decide +kernel
theorem dX7_init_90 : decode cX7_init 90 = .ok (.iinc 1 1, 3) := by decide +kernel
theorem dX7_init_93 : decode cX7_init 93 = .ok (.goto (-28), 3) := by decide +kernel
theorem dX7_init_96 : decode cX7_init 96 = .ok (.aload_n 0, 1) := by decide +kernel
theorem dX7_init_97 : decode cX7_init 97 = .ok (.iconst 4, 1) := by decide +kernel
theorem dX7_init_98 : decode cX7_init 98 = .ok (.anewarray 41, 3) := by decide +kernel
theorem dX7_init_101 : decode cX7_init 101 = .ok (.putfield 43, 3) := by decide +kernel
theorem dX7_init_104 : decode cX7_init 104 = .ok (.iconst 0, 1) := by decide +kernel
theorem dX7_init_105 : decode cX7_init 105 = .ok (.istore_n 1, 1) := by decide +kernel
theorem dX7_init_106 : decode cX7_init 106 = .ok (.iload_n 1, 1) := by decide +kernel
theorem dX7_init_107 : decode cX7_init 107 = .ok (.iconst 4, 1) := by decide +kernel
theorem dX7_init_108 : decode cX7_init 108 = .ok (.if_icmp .ge 22, 3) := by decide +kernel
theorem dX7_init_111 : decode cX7_init 111 = .ok (.aload_n 0, 1) := by decide +kernel
theorem dX7_init_112 : decode cX7_init 112 = .ok (.getfield 43, 3) := by decide +kernel
theorem dX7_init_115 : decode cX7_init 115 = .ok (.iload_n 1, 1) := by decide +kernel
theorem dX7_init_116 : decode cX7_init 116 = .ok (.new 41, 3) := by decide +kernel
theorem dX7_init_119 : decode cX7_init 119 = .ok (.dup, 1) := by decide +kernel
theorem dX7_init_120 : decode cX7_init 120 = .ok (.invokespecial 47, 3) := by decide +kernel
theorem dX7_init_123 : decode cX7_init 123 = .ok (.aastore, 1) := by decide +kernel
theorem dX7_init_124 : decode cX7_init 124 = .ok (.iinc 1 1, 3) := by decide +kernel
theorem dX7_init_127 : decode cX7_init 127 = .ok (.goto (-21), 3) := by decide +kernel
theorem dX7_init_130 : decode cX7_init 130 = .ok (.aload_n 0, 1) := by decide +kernel
theorem dX7_init_131 : decode cX7_init 131 = .ok (.new 48, 3) := by decide +kernel
theorem dX7_init_134 : decode cX7_init 134 = .ok (.dup, 1) := by decide +kernel
theorem dX7_init_135 : decode cX7_init 135 = .ok (.invokespecial 50, 3) := by decide +kernel
theorem dX7_init_138 : decode cX7_init 138 = .ok (.putfield 51, 3) := by decide +kernel
theorem dX7_init_141 : decode cX7_init 141 = .ok (.aload_n 0, 1) := by decide +kernel
theorem dX7_init_142 : decode cX7_init 142 = .ok (.new 48, 3) := by decide +kernel
theorem dX7_init_145 : decode cX7_init 145 = .ok (.dup, 1) := by decide +kernel
theorem dX7_init_146 : decode cX7_init 146 = .ok (.invokespecial 50, 3) := by decide +kernel
theorem dX7_init_149 : decode cX7_init 149 = .ok (.putfield 55, 3) := by decide +kernel
theorem dX7_init_152 : decode cX7_init 152 = .ok (.aload_n 0, 1) := by decide +kernel
theorem dX7_init_153 : decode cX7_init 153 = .ok (.new 48, 3) := by decide +kernel
theorem dX7_init_156 : decode cX7_init 156 = .ok (.dup, 1) := by decide +kernel
theorem dX7_init_157 : decode cX7_init 157 = .ok (.invokespecial 50, 3) := by decide +kernel
theorem dX7_init_160 : decode cX7_init 160 = .ok (.putfield 58, 3) := by decide +kernel
theorem dX7_init_163 : decode cX7_init 163 = .ok (.aload_n 0, 1) := by decide +kernel
theorem dX7_init_164 : decode cX7_init 164 = .ok (.bipush 10, 2) := by decide +kernel
theorem dX7_init_166 : decode cX7_init 166 = .ok (.newarray .int, 2) := by decide +kernel
theorem dX7_init_168 : decode cX7_init 168 = .ok (.putfield 61, 3) := by decide +kernel
theorem dX7_init_171 : decode cX7_init 171 = .ok (.aload_n 0, 1) := by decide +kernel
theorem dX7_init_172 : decode cX7_init 172 = .ok (.new 64, 3) := by decide +kernel
theorem dX7_init_175 : decode cX7_init 175 = .ok (.dup, 1) := by decide +kernel
theorem dX7_init_176 : decode cX7_init 176 = .ok (.invokespecial 66, 3) := by decide +kernel
theorem dX7_init_179 : decode cX7_init 179 = .ok (.putfield 67, 3) := by decide +kernel
theorem dX7_init_182 : decode cX7_init 182 = .ok (.aload_n 0, 1) := by decide +kernel
theorem dX7_init_183 : decode cX7_init 183 = .ok (.iconst 0, 1) := by decide +kernel
theorem dX7_init_184 : decode cX7_init 184 = .ok (.putfield 71, 3) := by decide +kernel
theorem dX7_init_187 : decode cX7_init 187 = .ok (.return_, 1) := by decide +kernel
set_option maxRecDepth 20000 in
theorem ggX7_put_X7_isNumberIndex : GoodIn wsX7_put wsX7_isNumberIndex := goodIn_r _ [8] (by decide +kernel) (by decide +kernel)
set_option maxRecDepth 20000 in
theorem gX7_put_X7_isNumberIndex : GoodIn wsX7_put (va_wsS RX7 75 yX7_isNumberIndex wsX7_isNumberIndex) := goodIn_app (goodIn_of _ (by decide +kernel)) ggX7_put_X7_isNumberIndex
set_option maxRecDepth 20000 in
theorem ggX7_put_X7_isWithin : GoodIn wsX7_put wsX7_isWithin := goodIn_r _ [11] (by decide +kernel) (by decide +kernel)
set_option maxRecDepth 20000 in
theorem gX7_put_X7_isWithin : GoodIn wsX7_put (va_wsS RX7 79 yX7_isWithin wsX7_isWithin) := goodIn_app (goodIn_of _ (by decide +kernel)) ggX7_put_X7_isWithin
set_option maxRecDepth 20000 in
theorem ggX7_put_X7_finding : GoodIn wsX7_put wsX7_finding := goodIn_r _ [15, 16, 63, 64, 65, 66, 67, 68, 69, 70, 71, 72, 73, 74, 75] (by decide +kernel) (by decide +kernel)
set_option maxRecDepth 20000 in
theorem gX7_put_X7_finding : GoodIn wsX7_put (wsV RX7 84 RX7 yX7_finding wsX7_finding) := goodIn_app (goodIn_of _ (by decide +kernel)) ggX7_put_X7_finding
set_option maxRecDepth 20000 in
theorem ggX7_put_X1_become : GoodIn wsX7_put wsX1_become := goodIn_r _ [21, 22, 23, 24, 25, 26, 27, 28, 29, 30, 31, 32, 33, 77, 78, 76] (by decide +kernel) (by decide +kernel)
set_option maxRecDepth 20000 in
theorem gX7_put_X1_become : GoodIn wsX7_put (wsV RX7 88 RX1 yX1_become wsX1_become) := goodIn_app (goodIn_of _ (by decide +kernel)) ggX7_put_X1_become
set_option maxRecDepth 20000 in
theorem ggX7_put_X1_part : GoodIn wsX7_put wsX1_part := goodIn_r _ [37, 23, 22, 77, 78] (by decide +kernel) (by decide +kernel)
set_option maxRecDepth 20000 in
theorem gX7_put_X1_part : GoodIn wsX7_put (wsV RX7 92 RX1 yX1_part wsX1_part) := goodIn_app (goodIn_of _ (by decide +kernel)) ggX7_put_X1_part
set_option maxRecDepth 20000 in
theorem ggX7_put_X7_takeDraft : GoodIn wsX7_put wsX7_takeDraft := goodIn_r _ [41, 42, 3, 43, 2, 44, 45, 46, 47, 48, 49, 50, 51, 52, 53, 54, 55, 56, 57, 58, 31, 32, 33, 59, 60, 61, 62, 17, 18, 19, 20, 21, 22, 23, 24, 25, 26, 27, 28, 29, 30, 63, 64, 65, 66, 67, 68, 69, 70, 71, 72, 73, 74, 75, 79, 80, 81, 77, 78, 76, 82, 83, 84] (by decide +kernel) (by decide +kernel)
set_option maxRecDepth 20000 in
theorem gX7_put_X7_takeDraft : GoodIn wsX7_put (wsV RX7 101 RX7 yX7_takeDraft wsX7_takeDraft) := goodIn_app (goodIn_of _ (by decide +kernel)) ggX7_put_X7_takeDraft
theorem dX7_put_0 : decode cX7_put 0 = .ok (.iload_n 2, 1) := by decide +kernel
theorem dX7_put_1 : decode cX7_put 1 = .ok (.invokestatic 75, 3) := by decide +kernel
theorem dX7_put_4 : decode cX7_put 4 = .ok (.ifCond .eq 11, 3) := by decide +kernel
theorem dX7_put_7 : decode cX7_put 7 = .ok (.iload_n 3, 1) := by decide +kernel
theorem dX7_put_8 : decode cX7_put 8 = .ok (.iconst 4, 1) := by decide +kernel
theorem dX7_put_9 : decode cX7_put 9 = .ok (.invokestatic 79, 3) := by decide +kernel
theorem dX7_put_12 : decode cX7_put 12 = .ok (.ifCond .ne 10, 3) := by decide +kernel
theorem dX7_put_15 : decode cX7_put 15 = .ok (.aload_n 0, 1) := by decide +kernel
theorem dX7_put_16 : decode cX7_put 16 = .ok (.ldc 83, 2) := by decide +kernel
theorem dX7_put_18 : decode cX7_put 18 = .ok (.invokevirtual 84, 3) := by decide +kernel
theorem dX7_put_21 : decode cX7_put 21 = .ok (.ireturn, 1) := by decide +kernel
theorem dX7_put_22 : decode cX7_put 22 = .ok (.aload_n 0, 1) := by decide +kernel
theorem dX7_put_23 : decode cX7_put 23 = .ok (.getfield 16, 3) := by decide +kernel
theorem dX7_put_26 : decode cX7_put 26 = .ok (.aload_n 0, 1) := by decide +kernel
theorem dX7_put_27 : decode cX7_put 27 = .ok (.getfield 10, 3) := by decide +kernel
theorem dX7_put_30 : decode cX7_put 30 = .ok (.invokevirtual 88, 3) := by decide +kernel
theorem dX7_put_33 : decode cX7_put 33 = .ok (.aload_n 0, 1) := by decide +kernel
theorem dX7_put_34 : decode cX7_put 34 = .ok (.getfield 16, 3) := by decide +kernel
theorem dX7_put_37 : decode cX7_put 37 = .ok (.iload_n 1, 1) := by decide +kernel
theorem dX7_put_38 : decode cX7_put 38 = .ok (.invokevirtual 92, 3) := by decide +kernel
theorem dX7_put_41 : decode cX7_put 41 = .ok (.getfield 96, 3) := by decide +kernel
theorem dX7_put_44 : decode cX7_put 44 = .ok (.astore 4, 2) := by decide +kernel
theorem dX7_put_46 : decode cX7_put 46 = .ok (.aload 4, 2) := by decide +kernel
theorem dX7_put_48 : decode cX7_put 48 = .ok (.iload_n 2, 1) := by decide +kernel
theorem dX7_put_49 : decode cX7_put 49 = .ok (.iaload, 1) := by decide +kernel
theorem dX7_put_50 : decode cX7_put 50 = .ok (.istore 5, 2) := by decide +kernel
theorem dX7_put_52 : decode cX7_put 52 = .ok (.aload 4, 2) := by decide +kernel
theorem dX7_put_54 : decode cX7_put 54 = .ok (.iload_n 2, 1) := by decide +kernel
theorem dX7_put_55 : decode cX7_put 55 = .ok (.iload_n 3, 1) := by decide +kernel
theorem dX7_put_56 : decode cX7_put 56 = .ok (.iastore, 1) := by decide +kernel
theorem dX7_put_57 : decode cX7_put 57 = .ok (.aload_n 0, 1) := by decide +kernel
theorem dX7_put_58 : decode cX7_put 58 = .ok (.iload 5, 2) := by decide +kernel
theorem dX7_put_60 : decode cX7_put 60 = .ok (.invokevirtual 101, 3) := by decide +kernel
theorem dX7_put_63 : decode cX7_put 63 = .ok (.ireturn, 1) := by decide +kernel
set_option maxRecDepth 20000 in
theorem ggX7_number_X7_isNumberIndex : GoodIn wsX7_number wsX7_isNumberIndex := goodIn_r _ [7] (by decide +kernel) (by decide +kernel)
set_option maxRecDepth 20000 in
theorem gX7_number_X7_isNumberIndex : GoodIn wsX7_number (va_wsS RX7 75 yX7_isNumberIndex wsX7_isNumberIndex) := goodIn_app (goodIn_of _ (by decide +kernel)) ggX7_number_X7_isNumberIndex
set_option maxRecDepth 20000 in
theorem ggX7_number_X7_finding : GoodIn wsX7_number wsX7_finding := goodIn_r _ [11, 12, 20, 21, 22, 23, 24, 25, 26, 27, 28, 29, 30, 31, 32] (by decide +kernel) (by decide +kernel)
set_option maxRecDepth 20000 in
theorem gX7_number_X7_finding : GoodIn wsX7_number (wsV RX7 84 RX7 yX7_finding wsX7_finding) := goodIn_app (goodIn_of _ (by decide +kernel)) ggX7_number_X7_finding
set_option maxRecDepth 20000 in
theorem ggX7_number_X1_part : GoodIn wsX7_number wsX1_part := goodIn_r _ [17, 18, 19, 34, 35] (by decide +kernel) (by decide +kernel)
set_option maxRecDepth 20000 in
theorem gX7_number_X1_part : GoodIn wsX7_number (wsV RX7 92 RX1 yX1_part wsX1_part) := goodIn_app (goodIn_of _ (by decide +kernel)) ggX7_number_X1_part
theorem dX7_number_0 : decode cX7_number 0 = .ok (.iload_n 2, 1) := by decide +kernel
theorem dX7_number_1 : decode cX7_number 1 = .ok (.invokestatic 75, 3) := by decide +kernel
theorem dX7_number_4 : decode cX7_number 4 = .ok (.ifCond .ne 10, 3) := by decide +kernel
theorem dX7_number_7 : decode cX7_number 7 = .ok (.aload_n 0, 1) := by decide +kernel
theorem dX7_number_8 : decode cX7_number 8 = .ok (.ldc 83, 2) := by decide +kernel
theorem dX7_number_10 : decode cX7_number 10 = .ok (.invokevirtual 84, 3) := by decide +kernel
theorem dX7_number_13 : decode cX7_number 13 = .ok (.ireturn, 1) := by decide +kernel
theorem dX7_number_14 : decode cX7_number 14 = .ok (.aload_n 0, 1) := by decide +kernel
theorem dX7_number_15 : decode cX7_number 15 = .ok (.getfield 10, 3) := by decide +kernel
theorem dX7_number_18 : decode cX7_number 18 = .ok (.iload_n 1, 1) := by decide +kernel
theorem dX7_number_19 : decode cX7_number 19 = .ok (.invokevirtual 92, 3) := by decide +kernel
theorem dX7_number_22 : decode cX7_number 22 = .ok (.getfield 96, 3) := by decide +kernel
theorem dX7_number_25 : decode cX7_number 25 = .ok (.iload_n 2, 1) := by decide +kernel
theorem dX7_number_26 : decode cX7_number 26 = .ok (.iaload, 1) := by decide +kernel
theorem dX7_number_27 : decode cX7_number 27 = .ok (.ireturn, 1) := by decide +kernel
set_option maxRecDepth 20000 in
theorem ggX7_speed_X7_isPlace : GoodIn wsX7_speed wsX7_isPlace := goodIn_r _ [6, 7, 8, 5, 9] (by decide +kernel) (by decide +kernel)
set_option maxRecDepth 20000 in
theorem gX7_speed_X7_isPlace : GoodIn wsX7_speed (va_wsS RX7 104 yX7_isPlace wsX7_isPlace) := goodIn_app (goodIn_of _ (by decide +kernel)) ggX7_speed_X7_isPlace
set_option maxRecDepth 20000 in
theorem ggX7_speed_X7_finding : GoodIn wsX7_speed wsX7_finding := goodIn_r _ [13, 14, 32, 33, 34, 35, 36, 37, 38, 39, 40, 41, 42, 43, 44] (by decide +kernel) (by decide +kernel)
set_option maxRecDepth 20000 in
theorem gX7_speed_X7_finding : GoodIn wsX7_speed (wsV RX7 84 RX7 yX7_finding wsX7_finding) := goodIn_app (goodIn_of _ (by decide +kernel)) ggX7_speed_X7_finding
set_option maxRecDepth 20000 in
theorem ggX7_speed_X1_part : GoodIn wsX7_speed wsX1_part := goodIn_r _ [19, 20, 21, 45, 46] (by decide +kernel) (by decide +kernel)
set_option maxRecDepth 20000 in
theorem gX7_speed_X1_part : GoodIn wsX7_speed (wsV RX7 92 RX1 yX1_part wsX1_part) := goodIn_app (goodIn_of _ (by decide +kernel)) ggX7_speed_X1_part
set_option maxRecDepth 20000 in
theorem ggX7_speed_X3_at : GoodIn wsX7_speed wsX3_at := goodIn_r _ [26, 27, 28, 29, 30, 25, 31, 47] (by decide +kernel) (by decide +kernel)
set_option maxRecDepth 20000 in
theorem gX7_speed_X3_at : GoodIn wsX7_speed (wsV RX7 107 RX3 yX3_at wsX3_at) := goodIn_app (goodIn_of _ (by decide +kernel)) ggX7_speed_X3_at
theorem dX7_speed_0 : decode cX7_speed 0 = .ok (.iload_n 1, 1) := by decide +kernel
theorem dX7_speed_1 : decode cX7_speed 1 = .ok (.iload_n 2, 1) := by decide +kernel
theorem dX7_speed_2 : decode cX7_speed 2 = .ok (.invokestatic 104, 3) := by decide +kernel
theorem dX7_speed_5 : decode cX7_speed 5 = .ok (.ifCond .ne 10, 3) := by decide +kernel
theorem dX7_speed_8 : decode cX7_speed 8 = .ok (.aload_n 0, 1) := by decide +kernel
theorem dX7_speed_9 : decode cX7_speed 9 = .ok (.ldc 83, 2) := by decide +kernel
theorem dX7_speed_11 : decode cX7_speed 11 = .ok (.invokevirtual 84, 3) := by decide +kernel
theorem dX7_speed_14 : decode cX7_speed 14 = .ok (.ireturn, 1) := by decide +kernel
theorem dX7_speed_15 : decode cX7_speed 15 = .ok (.aload_n 0, 1) := by decide +kernel
theorem dX7_speed_16 : decode cX7_speed 16 = .ok (.getfield 10, 3) := by decide +kernel
theorem dX7_speed_19 : decode cX7_speed 19 = .ok (.iload_n 3, 1) := by decide +kernel
theorem dX7_speed_20 : decode cX7_speed 20 = .ok (.invokevirtual 92, 3) := by decide +kernel
theorem dX7_speed_23 : decode cX7_speed 23 = .ok (.iload_n 1, 1) := by decide +kernel
theorem dX7_speed_24 : decode cX7_speed 24 = .ok (.iload_n 2, 1) := by decide +kernel
theorem dX7_speed_25 : decode cX7_speed 25 = .ok (.invokevirtual 107, 3) := by decide +kernel
theorem dX7_speed_28 : decode cX7_speed 28 = .ok (.ireturn, 1) := by decide +kernel
set_option maxRecDepth 20000 in
theorem ggX7_slope_X7_isPlace : GoodIn wsX7_slope wsX7_isPlace := goodIn_r _ [6, 7, 8, 5, 9] (by decide +kernel) (by decide +kernel)
set_option maxRecDepth 20000 in
theorem gX7_slope_X7_isPlace : GoodIn wsX7_slope (va_wsS RX7 104 yX7_isPlace wsX7_isPlace) := goodIn_app (goodIn_of _ (by decide +kernel)) ggX7_slope_X7_isPlace
set_option maxRecDepth 20000 in
theorem ggX7_slope_X7_finding : GoodIn wsX7_slope wsX7_finding := goodIn_r _ [13, 14, 32, 33, 34, 35, 36, 37, 38, 39, 40, 41, 42, 43, 44] (by decide +kernel) (by decide +kernel)
set_option maxRecDepth 20000 in
theorem gX7_slope_X7_finding : GoodIn wsX7_slope (wsV RX7 84 RX7 yX7_finding wsX7_finding) := goodIn_app (goodIn_of _ (by decide +kernel)) ggX7_slope_X7_finding
set_option maxRecDepth 20000 in
theorem ggX7_slope_X1_part : GoodIn wsX7_slope wsX1_part := goodIn_r _ [19, 20, 21, 45, 46] (by decide +kernel) (by decide +kernel)
set_option maxRecDepth 20000 in
theorem gX7_slope_X1_part : GoodIn wsX7_slope (wsV RX7 92 RX1 yX1_part wsX1_part) := goodIn_app (goodIn_of _ (by decide +kernel)) ggX7_slope_X1_part
set_option maxRecDepth 20000 in
theorem ggX7_slope_X3_byX : GoodIn wsX7_slope wsX3_byX := goodIn_r _ [26, 27, 47] (by decide +kernel) (by decide +kernel)
set_option maxRecDepth 20000 in
theorem gX7_slope_X3_byX : GoodIn wsX7_slope (wsV RX7 111 RX3 yX3_byX wsX3_byX) := goodIn_app (goodIn_of _ (by decide +kernel)) ggX7_slope_X3_byX
set_option maxRecDepth 20000 in
theorem ggX7_slope_X3_byY : GoodIn wsX7_slope wsX3_byY := goodIn_r _ [31, 27, 47] (by decide +kernel) (by decide +kernel)
set_option maxRecDepth 20000 in
theorem gX7_slope_X3_byY : GoodIn wsX7_slope (wsV RX7 114 RX3 yX3_byY wsX3_byY) := goodIn_app (goodIn_of _ (by decide +kernel)) ggX7_slope_X3_byY
theorem dX7_slope_0 : decode cX7_slope 0 = .ok (.iload_n 1, 1) := by decide +kernel
theorem dX7_slope_1 : decode cX7_slope 1 = .ok (.iload_n 2, 1) := by decide +kernel
theorem dX7_slope_2 : decode cX7_slope 2 = .ok (.invokestatic 104, 3) := by decide +kernel
theorem dX7_slope_5 : decode cX7_slope 5 = .ok (.ifCond .eq 12, 3) := by decide +kernel
theorem dX7_slope_8 : decode cX7_slope 8 = .ok (.iload_n 3, 1) := by decide +kernel
theorem dX7_slope_9 : decode cX7_slope 9 = .ok (.ifCond .lt 8, 3) := by decide +kernel
theorem dX7_slope_12 : decode cX7_slope 12 = .ok (.iload_n 3, 1) := by decide +kernel
theorem dX7_slope_13 : decode cX7_slope 13 = .ok (.iconst 3, 1) := by decide +kernel
theorem dX7_slope_14 : decode cX7_slope 14 = .ok (.if_icmp .le 10, 3) := by decide +kernel
theorem dX7_slope_17 : decode cX7_slope 17 = .ok (.aload_n 0, 1) := by decide +kernel
theorem dX7_slope_18 : decode cX7_slope 18 = .ok (.ldc 83, 2) := by decide +kernel
theorem dX7_slope_20 : decode cX7_slope 20 = .ok (.invokevirtual 84, 3) := by decide +kernel
theorem dX7_slope_23 : decode cX7_slope 23 = .ok (.ireturn, 1) := by decide +kernel
theorem dX7_slope_24 : decode cX7_slope 24 = .ok (.aload_n 0, 1) := by decide +kernel
theorem dX7_slope_25 : decode cX7_slope 25 = .ok (.getfield 10, 3) := by decide +kernel
theorem dX7_slope_28 : decode cX7_slope 28 = .ok (.iload_n 3, 1) := by decide +kernel
theorem dX7_slope_29 : decode cX7_slope 29 = .ok (.iconst 2, 1) := by decide +kernel
theorem dX7_slope_30 : decode cX7_slope 30 = .ok (.if_icmp .lt 7, 3) := by decide +kernel
theorem dX7_slope_33 : decode cX7_slope 33 = .ok (.iconst 1, 1) := by decide +kernel
theorem dX7_slope_34 : decode cX7_slope 34 = .ok (.goto 4, 3) := by decide +kernel
theorem dX7_slope_37 : decode cX7_slope 37 = .ok (.iconst 0, 1) := by decide +kernel
theorem dX7_slope_38 : decode cX7_slope 38 = .ok (.invokevirtual 92, 3) := by decide +kernel
theorem dX7_slope_41 : decode cX7_slope 41 = .ok (.astore 4, 2) := by decide +kernel
theorem dX7_slope_43 : decode cX7_slope 43 = .ok (.iload_n 3, 1) := by decide +kernel
theorem dX7_slope_44 : decode cX7_slope 44 = .ok (.iconst 2, 1) := by decide +kernel
theorem dX7_slope_45 : decode cX7_slope 45 = .ok (.irem, 1) := by decide +kernel
theorem dX7_slope_46 : decode cX7_slope 46 = .ok (.ifCond .ne 13, 3) := by decide +kernel
theorem dX7_slope_49 : decode cX7_slope 49 = .ok (.aload 4, 2) := by decide +kernel
theorem dX7_slope_51 : decode cX7_slope 51 = .ok (.iload_n 1, 1) := by decide +kernel
theorem dX7_slope_52 : decode cX7_slope 52 = .ok (.iload_n 2, 1) := by decide +kernel
theorem dX7_slope_53 : decode cX7_slope 53 = .ok (.invokevirtual 111, 3) := by decide +kernel
theorem dX7_slope_56 : decode cX7_slope 56 = .ok (.goto 10, 3) := by decide +kernel
theorem dX7_slope_59 : decode cX7_slope 59 = .ok (.aload 4, 2) := by decide +kernel
theorem dX7_slope_61 : decode cX7_slope 61 = .ok (.iload_n 1, 1) := by decide +kernel
theorem dX7_slope_62 : decode cX7_slope 62 = .ok (.iload_n 2, 1) := by decide +kernel
theorem dX7_slope_63 : decode cX7_slope 63 = .ok (.invokevirtual 114, 3) := by decide +kernel
theorem dX7_slope_66 : decode cX7_slope 66 = .ok (.ireturn, 1) := by decide +kernel
set_option maxRecDepth 20000 in
theorem ggX7_back_X3_negatedFrom : GoodIn wsX7_back wsX3_negatedFrom := goodIn_r _ [9, 10, 67] (by decide +kernel) (by decide +kernel)
set_option maxRecDepth 20000 in
theorem gX7_back_X3_negatedFrom : GoodIn wsX7_back (wsV RX7 121 RX3 yX3_negatedFrom wsX3_negatedFrom) := goodIn_app (goodIn_of _ (by decide +kernel)) ggX7_back_X3_negatedFrom
set_option maxRecDepth 20000 in
theorem ggX7_back_X7_takeDraft : GoodIn wsX7_back wsX7_takeDraft := goodIn_r _ [15, 16, 3, 17, 1, 18, 19, 20, 21, 22, 23, 24, 25, 26, 27, 28, 29, 30, 31, 32, 33, 34, 35, 36, 37, 38, 39, 40, 41, 42, 43, 44, 45, 46, 47, 48, 49, 8, 50, 10, 51, 52, 53, 54, 55, 56, 57, 58, 59, 60, 61, 62, 63, 64, 68, 69, 70, 65, 66, 67, 71, 72, 73] (by decide +kernel) (by decide +kernel)
set_option maxRecDepth 20000 in
theorem gX7_back_X7_takeDraft : GoodIn wsX7_back (wsV RX7 101 RX7 yX7_takeDraft wsX7_takeDraft) := goodIn_app (goodIn_of _ (by decide +kernel)) ggX7_back_X7_takeDraft
theorem dX7_back_0 : decode cX7_back 0 = .ok (.aload_n 0, 1) := by decide +kernel
theorem dX7_back_1 : decode cX7_back 1 = .ok (.getfield 16, 3) := by decide +kernel
theorem dX7_back_4 : decode cX7_back 4 = .ok (.getfield 117, 3) := by decide +kernel
theorem dX7_back_7 : decode cX7_back 7 = .ok (.aload_n 0, 1) := by decide +kernel
theorem dX7_back_8 : decode cX7_back 8 = .ok (.getfield 10, 3) := by decide +kernel
theorem dX7_back_11 : decode cX7_back 11 = .ok (.getfield 117, 3) := by decide +kernel
theorem dX7_back_14 : decode cX7_back 14 = .ok (.invokevirtual 121, 3) := by decide +kernel
theorem dX7_back_17 : decode cX7_back 17 = .ok (.aload_n 0, 1) := by decide +kernel
theorem dX7_back_18 : decode cX7_back 18 = .ok (.getfield 16, 3) := by decide +kernel
theorem dX7_back_21 : decode cX7_back 21 = .ok (.getfield 125, 3) := by decide +kernel
theorem dX7_back_24 : decode cX7_back 24 = .ok (.aload_n 0, 1) := by decide +kernel
theorem dX7_back_25 : decode cX7_back 25 = .ok (.getfield 10, 3) := by decide +kernel
theorem dX7_back_28 : decode cX7_back 28 = .ok (.getfield 125, 3) := by decide +kernel
theorem dX7_back_31 : decode cX7_back 31 = .ok (.invokevirtual 121, 3) := by decide +kernel
theorem dX7_back_34 : decode cX7_back 34 = .ok (.aload_n 0, 1) := by decide +kernel
theorem dX7_back_35 : decode cX7_back 35 = .ok (.iconst 1, 1) := by decide +kernel
theorem dX7_back_36 : decode cX7_back 36 = .ok (.invokevirtual 101, 3) := by decide +kernel
theorem dX7_back_39 : decode cX7_back 39 = .ok (.ireturn, 1) := by decide +kernel
set_option maxRecDepth 20000 in
theorem ggX7_quarter_X3_turnedFrom : GoodIn wsX7_quarter wsX3_turnedFrom := goodIn_r _ [9, 10, 67] (by decide +kernel) (by decide +kernel)
set_option maxRecDepth 20000 in
theorem gX7_quarter_X3_turnedFrom : GoodIn wsX7_quarter (wsV RX7 128 RX3 yX3_turnedFrom wsX3_turnedFrom) := goodIn_app (goodIn_of _ (by decide +kernel)) ggX7_quarter_X3_turnedFrom
set_option maxRecDepth 20000 in
theorem ggX7_quarter_X7_takeDraft : GoodIn wsX7_quarter wsX7_takeDraft := goodIn_r _ [15, 16, 3, 17, 1, 18, 19, 20, 21, 22, 23, 24, 25, 26, 27, 28, 29, 30, 31, 32, 33, 34, 35, 36, 37, 38, 39, 40, 41, 42, 43, 44, 45, 46, 47, 48, 49, 8, 50, 10, 51, 52, 53, 54, 55, 56, 57, 58, 59, 60, 61, 62, 63, 64, 68, 69, 70, 65, 66, 67, 71, 72, 73] (by decide +kernel) (by decide +kernel)
set_option maxRecDepth 20000 in
theorem gX7_quarter_X7_takeDraft : GoodIn wsX7_quarter (wsV RX7 101 RX7 yX7_takeDraft wsX7_takeDraft) := goodIn_app (goodIn_of _ (by decide +kernel)) ggX7_quarter_X7_takeDraft
theorem dX7_quarter_0 : decode cX7_quarter 0 = .ok (.aload_n 0, 1) := by decide +kernel
theorem dX7_quarter_1 : decode cX7_quarter 1 = .ok (.getfield 16, 3) := by decide +kernel
theorem dX7_quarter_4 : decode cX7_quarter 4 = .ok (.getfield 117, 3) := by decide +kernel
theorem dX7_quarter_7 : decode cX7_quarter 7 = .ok (.aload_n 0, 1) := by decide +kernel
theorem dX7_quarter_8 : decode cX7_quarter 8 = .ok (.getfield 10, 3) := by decide +kernel
theorem dX7_quarter_11 : decode cX7_quarter 11 = .ok (.getfield 125, 3) := by decide +kernel
theorem dX7_quarter_14 : decode cX7_quarter 14 = .ok (.iconst (-1), 1) := by decide +kernel
theorem dX7_quarter_15 : decode cX7_quarter 15 = .ok (.invokevirtual 128, 3) := by decide +kernel
theorem dX7_quarter_18 : decode cX7_quarter 18 = .ok (.aload_n 0, 1) := by decide +kernel
theorem dX7_quarter_19 : decode cX7_quarter 19 = .ok (.getfield 16, 3) := by decide +kernel
theorem dX7_quarter_22 : decode cX7_quarter 22 = .ok (.getfield 125, 3) := by decide +kernel
theorem dX7_quarter_25 : decode cX7_quarter 25 = .ok (.aload_n 0, 1) := by decide +kernel
theorem dX7_quarter_26 : decode cX7_quarter 26 = .ok (.getfield 10, 3) := by decide +kernel
theorem dX7_quarter_29 : decode cX7_quarter 29 = .ok (.getfield 117, 3) := by decide +kernel
theorem dX7_quarter_32 : decode cX7_quarter 32 = .ok (.iconst 1, 1) := by decide +kernel
theorem dX7_quarter_33 : decode cX7_quarter 33 = .ok (.invokevirtual 128, 3) := by decide +kernel
theorem dX7_quarter_36 : decode cX7_quarter 36 = .ok (.aload_n 0, 1) := by decide +kernel
theorem dX7_quarter_37 : decode cX7_quarter 37 = .ok (.iconst 1, 1) := by decide +kernel
theorem dX7_quarter_38 : decode cX7_quarter 38 = .ok (.invokevirtual 101, 3) := by decide +kernel
theorem dX7_quarter_41 : decode cX7_quarter 41 = .ok (.ireturn, 1) := by decide +kernel
set_option maxRecDepth 20000 in
theorem ggX7_mirror_X3_mirroredFrom : GoodIn wsX7_mirror wsX3_mirroredFrom := goodIn_r _ [9, 10, 67] (by decide +kernel) (by decide +kernel)
set_option maxRecDepth 20000 in
theorem gX7_mirror_X3_mirroredFrom : GoodIn wsX7_mirror (wsV RX7 132 RX3 yX3_mirroredFrom wsX3_mirroredFrom) := goodIn_app (goodIn_of _ (by decide +kernel)) ggX7_mirror_X3_mirroredFrom
set_option maxRecDepth 20000 in
theorem ggX7_mirror_X7_takeDraft : GoodIn wsX7_mirror wsX7_takeDraft := goodIn_r _ [15, 16, 3, 17, 1, 18, 19, 20, 21, 22, 23, 24, 25, 26, 27, 28, 29, 30, 31, 32, 33, 34, 35, 36, 37, 38, 39, 40, 41, 42, 43, 44, 45, 46, 47, 48, 49, 8, 50, 10, 51, 52, 53, 54, 55, 56, 57, 58, 59, 60, 61, 62, 63, 64, 68, 69, 70, 65, 66, 67, 71, 72, 73] (by decide +kernel) (by decide +kernel)
set_option maxRecDepth 20000 in
theorem gX7_mirror_X7_takeDraft : GoodIn wsX7_mirror (wsV RX7 101 RX7 yX7_takeDraft wsX7_takeDraft) := goodIn_app (goodIn_of _ (by decide +kernel)) ggX7_mirror_X7_takeDraft
theorem dX7_mirror_0 : decode cX7_mirror 0 = .ok (.aload_n 0, 1) := by decide +kernel
theorem dX7_mirror_1 : decode cX7_mirror 1 = .ok (.getfield 16, 3) := by decide +kernel
theorem dX7_mirror_4 : decode cX7_mirror 4 = .ok (.getfield 117, 3) := by decide +kernel
theorem dX7_mirror_7 : decode cX7_mirror 7 = .ok (.aload_n 0, 1) := by decide +kernel
theorem dX7_mirror_8 : decode cX7_mirror 8 = .ok (.getfield 10, 3) := by decide +kernel
theorem dX7_mirror_11 : decode cX7_mirror 11 = .ok (.getfield 117, 3) := by decide +kernel
theorem dX7_mirror_14 : decode cX7_mirror 14 = .ok (.iconst (-1), 1) := by decide +kernel
theorem dX7_mirror_15 : decode cX7_mirror 15 = .ok (.invokevirtual 132, 3) := by decide +kernel
theorem dX7_mirror_18 : decode cX7_mirror 18 = .ok (.aload_n 0, 1) := by decide +kernel
theorem dX7_mirror_19 : decode cX7_mirror 19 = .ok (.getfield 16, 3) := by decide +kernel
theorem dX7_mirror_22 : decode cX7_mirror 22 = .ok (.getfield 125, 3) := by decide +kernel
theorem dX7_mirror_25 : decode cX7_mirror 25 = .ok (.aload_n 0, 1) := by decide +kernel
theorem dX7_mirror_26 : decode cX7_mirror 26 = .ok (.getfield 10, 3) := by decide +kernel
theorem dX7_mirror_29 : decode cX7_mirror 29 = .ok (.getfield 125, 3) := by decide +kernel
theorem dX7_mirror_32 : decode cX7_mirror 32 = .ok (.iconst 1, 1) := by decide +kernel
theorem dX7_mirror_33 : decode cX7_mirror 33 = .ok (.invokevirtual 132, 3) := by decide +kernel
theorem dX7_mirror_36 : decode cX7_mirror 36 = .ok (.aload_n 0, 1) := by decide +kernel
theorem dX7_mirror_37 : decode cX7_mirror 37 = .ok (.iconst 1, 1) := by decide +kernel
theorem dX7_mirror_38 : decode cX7_mirror 38 = .ok (.invokevirtual 101, 3) := by decide +kernel
theorem dX7_mirror_41 : decode cX7_mirror 41 = .ok (.ireturn, 1) := by decide +kernel
set_option maxRecDepth 20000 in
theorem ggX7_move_X7_isPlace : GoodIn wsX7_move wsX7_isPlace := goodIn_r _ [9, 10, 11, 8, 12] (by decide +kernel) (by decide +kernel)
set_option maxRecDepth 20000 in
theorem gX7_move_X7_isPlace : GoodIn wsX7_move (va_wsS RX7 104 yX7_isPlace wsX7_isPlace) := goodIn_app (goodIn_of _ (by decide +kernel)) ggX7_move_X7_isPlace
set_option maxRecDepth 20000 in
theorem ggX7_move_X7_finding : GoodIn wsX7_move wsX7_finding := goodIn_r _ [16, 17, 94, 95, 96, 97, 98, 99, 100, 101, 102, 103, 104, 105, 106] (by decide +kernel) (by decide +kernel)
set_option maxRecDepth 20000 in
theorem gX7_move_X7_finding : GoodIn wsX7_move (wsV RX7 84 RX7 yX7_finding wsX7_finding) := goodIn_app (goodIn_of _ (by decide +kernel)) ggX7_move_X7_finding
set_option maxRecDepth 20000 in
theorem ggX7_move_X3_movedFrom : GoodIn wsX7_move wsX3_movedFrom := goodIn_r _ [22, 23, 24, 25, 26, 21, 27, 28, 29, 30, 31, 32, 33, 34, 35, 36, 37, 38, 39, 40, 41, 42, 43, 44, 45, 46, 47, 109] (by decide +kernel) (by decide +kernel)
set_option maxRecDepth 20000 in
theorem gX7_move_X3_movedFrom : GoodIn wsX7_move (wsV RX7 135 RX3 yX3_movedFrom wsX3_movedFrom) := goodIn_app (goodIn_of _ (by decide +kernel)) ggX7_move_X3_movedFrom
set_option maxRecDepth 20000 in
theorem ggX7_move_X7_takeDraftIfItFits : GoodIn wsX7_move wsX7_takeDraftIfItFits := goodIn_r _ [51, 2, 52, 53, 54, 55, 56, 57, 58, 59, 60, 61, 62, 21, 63, 23, 11, 8, 12, 64, 65, 66, 67, 68, 4, 69, 70, 71, 72, 73, 74, 75, 76, 77, 78, 79, 80, 81, 82, 83, 84, 29, 30, 31, 85, 86, 87, 88, 89, 90, 91, 92, 93, 25, 26, 27, 28, 13, 14, 15, 16, 17, 94, 95, 96, 97, 98, 99, 100, 101, 102, 103, 104, 105, 106, 107, 108, 109, 110, 111, 112, 113, 114, 115] (by decide +kernel) (by decide +kernel)
set_option maxRecDepth 20000 in
theorem gX7_move_X7_takeDraftIfItFits : GoodIn wsX7_move (wsV RX7 139 RX7 yX7_takeDraftIfItFits wsX7_takeDraftIfItFits) := goodIn_app (goodIn_of _ (by decide +kernel)) ggX7_move_X7_takeDraftIfItFits
theorem dX7_move_0 : decode cX7_move 0 = .ok (.iload_n 1, 1) := by decide +kernel
theorem dX7_move_1 : decode cX7_move 1 = .ok (.iload_n 2, 1) := by decide +kernel
theorem dX7_move_2 : decode cX7_move 2 = .ok (.invokestatic 104, 3) := by decide +kernel
theorem dX7_move_5 : decode cX7_move 5 = .ok (.ifCond .ne 10, 3) := by decide +kernel
theorem dX7_move_8 : decode cX7_move 8 = .ok (.aload_n 0, 1) := by decide +kernel
theorem dX7_move_9 : decode cX7_move 9 = .ok (.ldc 83, 2) := by decide +kernel
theorem dX7_move_11 : decode cX7_move 11 = .ok (.invokevirtual 84, 3) := by decide +kernel
theorem dX7_move_14 : decode cX7_move 14 = .ok (.ireturn, 1) := by decide +kernel
theorem dX7_move_15 : decode cX7_move 15 = .ok (.aload_n 0, 1) := by decide +kernel
theorem dX7_move_16 : decode cX7_move 16 = .ok (.getfield 16, 3) := by decide +kernel
theorem dX7_move_19 : decode cX7_move 19 = .ok (.getfield 117, 3) := by decide +kernel
theorem dX7_move_22 : decode cX7_move 22 = .ok (.aload_n 0, 1) := by decide +kernel
theorem dX7_move_23 : decode cX7_move 23 = .ok (.getfield 10, 3) := by decide +kernel
theorem dX7_move_26 : decode cX7_move 26 = .ok (.getfield 117, 3) := by decide +kernel
theorem dX7_move_29 : decode cX7_move 29 = .ok (.iload_n 1, 1) := by decide +kernel
theorem dX7_move_30 : decode cX7_move 30 = .ok (.iload_n 2, 1) := by decide +kernel
theorem dX7_move_31 : decode cX7_move 31 = .ok (.invokevirtual 135, 3) := by decide +kernel
theorem dX7_move_34 : decode cX7_move 34 = .ok (.aload_n 0, 1) := by decide +kernel
theorem dX7_move_35 : decode cX7_move 35 = .ok (.getfield 16, 3) := by decide +kernel
theorem dX7_move_38 : decode cX7_move 38 = .ok (.getfield 125, 3) := by decide +kernel
theorem dX7_move_41 : decode cX7_move 41 = .ok (.aload_n 0, 1) := by decide +kernel
theorem dX7_move_42 : decode cX7_move 42 = .ok (.getfield 10, 3) := by decide +kernel
theorem dX7_move_45 : decode cX7_move 45 = .ok (.getfield 125, 3) := by decide +kernel
theorem dX7_move_48 : decode cX7_move 48 = .ok (.iload_n 1, 1) := by decide +kernel
theorem dX7_move_49 : decode cX7_move 49 = .ok (.iload_n 2, 1) := by decide +kernel
theorem dX7_move_50 : decode cX7_move 50 = .ok (.invokevirtual 135, 3) := by decide +kernel
theorem dX7_move_53 : decode cX7_move 53 = .ok (.aload_n 0, 1) := by decide +kernel
theorem dX7_move_54 : decode cX7_move 54 = .ok (.invokevirtual 139, 3) := by decide +kernel
theorem dX7_move_57 : decode cX7_move 57 = .ok (.ireturn, 1) := by decide +kernel
set_option maxRecDepth 20000 in
theorem ggX7_add_X7_isSlot : GoodIn wsX7_add wsX7_isSlot := goodIn_r _ [12] (by decide +kernel) (by decide +kernel)
set_option maxRecDepth 20000 in
theorem gX7_add_X7_isSlot : GoodIn wsX7_add (va_wsS RX7 143 yX7_isSlot wsX7_isSlot) := goodIn_app (goodIn_of _ (by decide +kernel)) ggX7_add_X7_isSlot
set_option maxRecDepth 20000 in
theorem ggX7_add_X7_isWithin : GoodIn wsX7_add wsX7_isWithin := goodIn_r _ [15] (by decide +kernel) (by decide +kernel)
set_option maxRecDepth 20000 in
theorem gX7_add_X7_isWithin : GoodIn wsX7_add (va_wsS RX7 79 yX7_isWithin wsX7_isWithin) := goodIn_app (goodIn_of _ (by decide +kernel)) ggX7_add_X7_isWithin
set_option maxRecDepth 20000 in
theorem ggX7_add_X7_finding : GoodIn wsX7_add wsX7_finding := goodIn_r _ [19, 20, 80, 81, 82, 83, 84, 85, 86, 87, 88, 89, 90, 91, 92] (by decide +kernel) (by decide +kernel)
set_option maxRecDepth 20000 in
theorem gX7_add_X7_finding : GoodIn wsX7_add (wsV RX7 84 RX7 yX7_finding wsX7_finding) := goodIn_app (goodIn_of _ (by decide +kernel)) ggX7_add_X7_finding
set_option maxRecDepth 20000 in
theorem ggX7_add_X1_become : GoodIn wsX7_add wsX1_become := goodIn_r _ [25, 26, 27, 28, 29, 30, 31, 32, 33, 34, 35, 36, 37, 93, 94, 95] (by decide +kernel) (by decide +kernel)
set_option maxRecDepth 20000 in
theorem gX7_add_X1_become : GoodIn wsX7_add (wsV RX7 88 RX1 yX1_become wsX1_become) := goodIn_app (goodIn_of _ (by decide +kernel)) ggX7_add_X1_become
set_option maxRecDepth 20000 in
theorem ggX7_add_X3_increase : GoodIn wsX7_add wsX3_increase := goodIn_r _ [41, 33, 95] (by decide +kernel) (by decide +kernel)
set_option maxRecDepth 20000 in
theorem gX7_add_X3_increase : GoodIn wsX7_add (wsV RX7 147 RX3 yX3_increase wsX3_increase) := goodIn_app (goodIn_of _ (by decide +kernel)) ggX7_add_X3_increase
set_option maxRecDepth 20000 in
theorem ggX7_add_X7_takeDraftIfItFits : GoodIn wsX7_add wsX7_takeDraftIfItFits := goodIn_r _ [45, 4, 46, 47, 48, 49, 24, 50, 26, 27, 51, 52, 53, 31, 54, 33, 14, 11, 15, 55, 56, 57, 58, 59, 5, 60, 61, 62, 63, 64, 65, 66, 67, 68, 69, 70, 71, 72, 73, 74, 75, 35, 36, 37, 76, 77, 78, 79, 21, 22, 23, 25, 28, 29, 30, 32, 34, 16, 17, 18, 19, 20, 80, 81, 82, 83, 84, 85, 86, 87, 88, 89, 90, 91, 92, 93, 94, 95, 96, 97, 98, 99, 100, 101] (by decide +kernel) (by decide +kernel)
set_option maxRecDepth 20000 in
theorem gX7_add_X7_takeDraftIfItFits : GoodIn wsX7_add (wsV RX7 139 RX7 yX7_takeDraftIfItFits wsX7_takeDraftIfItFits) := goodIn_app (goodIn_of _ (by decide +kernel)) ggX7_add_X7_takeDraftIfItFits
theorem dX7_add_0 : decode cX7_add 0 = .ok (.iload_n 1, 1) := by decide +kernel
theorem dX7_add_1 : decode cX7_add 1 = .ok (.invokestatic 143, 3) := by decide +kernel
theorem dX7_add_4 : decode cX7_add 4 = .ok (.ifCond .eq 11, 3) := by decide +kernel
theorem dX7_add_7 : decode cX7_add 7 = .ok (.iload_n 2, 1) := by decide +kernel
theorem dX7_add_8 : decode cX7_add 8 = .ok (.iconst 4, 1) := by decide +kernel
theorem dX7_add_9 : decode cX7_add 9 = .ok (.invokestatic 79, 3) := by decide +kernel
theorem dX7_add_12 : decode cX7_add 12 = .ok (.ifCond .ne 10, 3) := by decide +kernel
theorem dX7_add_15 : decode cX7_add 15 = .ok (.aload_n 0, 1) := by decide +kernel
theorem dX7_add_16 : decode cX7_add 16 = .ok (.ldc 83, 2) := by decide +kernel
theorem dX7_add_18 : decode cX7_add 18 = .ok (.invokevirtual 84, 3) := by decide +kernel
theorem dX7_add_21 : decode cX7_add 21 = .ok (.ireturn, 1) := by decide +kernel
theorem dX7_add_22 : decode cX7_add 22 = .ok (.aload_n 0, 1) := by decide +kernel
theorem dX7_add_23 : decode cX7_add 23 = .ok (.getfield 37, 3) := by decide +kernel
theorem dX7_add_26 : decode cX7_add 26 = .ok (.iload_n 1, 1) := by decide +kernel
theorem dX7_add_27 : decode cX7_add 27 = .ok (.iaload, 1) := by decide +kernel
theorem dX7_add_28 : decode cX7_add 28 = .ok (.iconst (-1), 1) := by decide +kernel
theorem dX7_add_29 : decode cX7_add 29 = .ok (.if_icmp .ne 10, 3) := by decide +kernel
theorem dX7_add_32 : decode cX7_add 32 = .ok (.aload_n 0, 1) := by decide +kernel
theorem dX7_add_33 : decode cX7_add 33 = .ok (.ldc 146, 2) := by decide +kernel
theorem dX7_add_35 : decode cX7_add 35 = .ok (.invokevirtual 84, 3) := by decide +kernel
theorem dX7_add_38 : decode cX7_add 38 = .ok (.ireturn, 1) := by decide +kernel
theorem dX7_add_39 : decode cX7_add 39 = .ok (.aload_n 0, 1) := by decide +kernel
theorem dX7_add_40 : decode cX7_add 40 = .ok (.getfield 16, 3) := by decide +kernel
theorem dX7_add_43 : decode cX7_add 43 = .ok (.aload_n 0, 1) := by decide +kernel
theorem dX7_add_44 : decode cX7_add 44 = .ok (.getfield 10, 3) := by decide +kernel
theorem dX7_add_47 : decode cX7_add 47 = .ok (.invokevirtual 88, 3) := by decide +kernel
theorem dX7_add_50 : decode cX7_add 50 = .ok (.aload_n 0, 1) := by decide +kernel
theorem dX7_add_51 : decode cX7_add 51 = .ok (.getfield 16, 3) := by decide +kernel
theorem dX7_add_54 : decode cX7_add 54 = .ok (.getfield 117, 3) := by decide +kernel
theorem dX7_add_57 : decode cX7_add 57 = .ok (.aload_n 0, 1) := by decide +kernel
theorem dX7_add_58 : decode cX7_add 58 = .ok (.getfield 33, 3) := by decide +kernel
theorem dX7_add_61 : decode cX7_add 61 = .ok (.iload_n 1, 1) := by decide +kernel
theorem dX7_add_62 : decode cX7_add 62 = .ok (.aaload, 1) := by decide +kernel
theorem dX7_add_63 : decode cX7_add 63 = .ok (.getfield 117, 3) := by decide +kernel
theorem dX7_add_66 : decode cX7_add 66 = .ok (.iload_n 2, 1) := by decide +kernel
theorem dX7_add_67 : decode cX7_add 67 = .ok (.invokevirtual 147, 3) := by decide +kernel
theorem dX7_add_70 : decode cX7_add 70 = .ok (.aload_n 0, 1) := by decide +kernel
theorem dX7_add_71 : decode cX7_add 71 = .ok (.getfield 16, 3) := by decide +kernel
theorem dX7_add_74 : decode cX7_add 74 = .ok (.getfield 125, 3) := by decide +kernel
theorem dX7_add_77 : decode cX7_add 77 = .ok (.aload_n 0, 1) := by decide +kernel
theorem dX7_add_78 : decode cX7_add 78 = .ok (.getfield 33, 3) := by decide +kernel
theorem dX7_add_81 : decode cX7_add 81 = .ok (.iload_n 1, 1) := by decide +kernel
theorem dX7_add_82 : decode cX7_add 82 = .ok (.aaload, 1) := by decide +kernel
theorem dX7_add_83 : decode cX7_add 83 = .ok (.getfield 125, 3) := by decide +kernel
theorem dX7_add_86 : decode cX7_add 86 = .ok (.iload_n 2, 1) := by decide +kernel
theorem dX7_add_87 : decode cX7_add 87 = .ok (.invokevirtual 147, 3) := by decide +kernel
theorem dX7_add_90 : decode cX7_add 90 = .ok (.aload_n 0, 1) := by decide +kernel
theorem dX7_add_91 : decode cX7_add 91 = .ok (.invokevirtual 139, 3) := by decide +kernel
theorem dX7_add_94 : decode cX7_add 94 = .ok (.ireturn, 1) := by decide +kernel
set_option maxRecDepth 20000 in
theorem ggX7_rests_X1_isRest : GoodIn wsX7_rests wsX1_isRest := goodIn_r _ [6, 7, 8, 9, 10, 11, 12, 13, 14, 15, 16, 17, 18, 32, 33, 34] (by decide +kernel) (by decide +kernel)
set_option maxRecDepth 20000 in
theorem gX7_rests_X1_isRest : GoodIn wsX7_rests (wsV RX7 150 RX1 yX1_isRest wsX1_isRest) := goodIn_app (goodIn_of _ (by decide +kernel)) ggX7_rests_X1_isRest
theorem dX7_rests_0 : decode cX7_rests 0 = .ok (.iconst 0, 1) := by decide +kernel
theorem dX7_rests_1 : decode cX7_rests 1 = .ok (.istore_n 1, 1) := by decide +kernel
theorem dX7_rests_2 : decode cX7_rests 2 = .ok (.bipush (-6), 2) := by decide +kernel
theorem dX7_rests_4 : decode cX7_rests 4 = .ok (.istore_n 2, 1) := by decide +kernel
theorem dX7_rests_5 : decode cX7_rests 5 = .ok (.iload_n 2, 1) := by decide +kernel
theorem dX7_rests_6 : decode cX7_rests 6 = .ok (.bipush 6, 2) := by decide +kernel
theorem dX7_rests_8 : decode cX7_rests 8 = .ok (.if_icmp .gt 39, 3) := by decide +kernel
theorem dX7_rests_11 : decode cX7_rests 11 = .ok (.bipush (-6), 2) := by decide +kernel
theorem dX7_rests_13 : decode cX7_rests 13 = .ok (.istore_n 3, 1) := by decide +kernel
theorem dX7_rests_14 : decode cX7_rests 14 = .ok (.iload_n 3, 1) := by decide +kernel
theorem dX7_rests_15 : decode cX7_rests 15 = .ok (.bipush 6, 2) := by decide +kernel
theorem dX7_rests_17 : decode cX7_rests 17 = .ok (.if_icmp .gt 24, 3) := by decide +kernel
theorem dX7_rests_20 : decode cX7_rests 20 = .ok (.aload_n 0, 1) := by decide +kernel
theorem dX7_rests_21 : decode cX7_rests 21 = .ok (.getfield 10, 3) := by decide +kernel
theorem dX7_rests_24 : decode cX7_rests 24 = .ok (.iload_n 2, 1) := by decide +kernel
theorem dX7_rests_25 : decode cX7_rests 25 = .ok (.iload_n 3, 1) := by decide +kernel
theorem dX7_rests_26 : decode cX7_rests 26 = .ok (.invokevirtual 150, 3) := by decide +kernel
theorem dX7_rests_29 : decode cX7_rests 29 = .ok (.ifCond .eq 6, 3) := by decide +kernel
theorem dX7_rests_32 : decode cX7_rests 32 = .ok (.iinc 1 1, 3) := by decide +kernel
theorem dX7_rests_35 : decode cX7_rests 35 = .ok (.iinc 3 1, 3) := by decide +kernel
theorem dX7_rests_38 : decode cX7_rests 38 = .ok (.goto (-24), 3) := by decide +kernel
theorem dX7_rests_41 : decode cX7_rests 41 = .ok (.iinc 2 1, 3) := by decide +kernel
theorem dX7_rests_44 : decode cX7_rests 44 = .ok (.goto (-39), 3) := by decide +kernel
theorem dX7_rests_47 : decode cX7_rests 47 = .ok (.iload_n 1, 1) := by decide +kernel
theorem dX7_rests_48 : decode cX7_rests 48 = .ok (.ireturn, 1) := by decide +kernel
set_option maxRecDepth 20000 in
theorem ggX7_rest_X1_isRest : GoodIn wsX7_rest wsX1_isRest := goodIn_r _ [7, 8, 9, 10, 11, 12, 13, 14, 15, 16, 17, 18, 19, 39, 40, 41] (by decide +kernel) (by decide +kernel)
set_option maxRecDepth 20000 in
theorem gX7_rest_X1_isRest : GoodIn wsX7_rest (wsV RX7 150 RX1 yX1_isRest wsX1_isRest) := goodIn_app (goodIn_of _ (by decide +kernel)) ggX7_rest_X1_isRest
set_option maxRecDepth 20000 in
theorem ggX7_rest_X7_finding : GoodIn wsX7_rest wsX7_finding := goodIn_r _ [24, 25, 26, 27, 28, 29, 30, 31, 32, 33, 34, 35, 36, 37, 38] (by decide +kernel) (by decide +kernel)
set_option maxRecDepth 20000 in
theorem gX7_rest_X7_finding : GoodIn wsX7_rest (wsV RX7 84 RX7 yX7_finding wsX7_finding) := goodIn_app (goodIn_of _ (by decide +kernel)) ggX7_rest_X7_finding
theorem dX7_rest_0 : decode cX7_rest 0 = .ok (.iconst 0, 1) := by decide +kernel
theorem dX7_rest_1 : decode cX7_rest 1 = .ok (.istore_n 3, 1) := by decide +kernel
theorem dX7_rest_2 : decode cX7_rest 2 = .ok (.bipush (-6), 2) := by decide +kernel
theorem dX7_rest_4 : decode cX7_rest 4 = .ok (.istore 4, 2) := by decide +kernel
theorem dX7_rest_6 : decode cX7_rest 6 = .ok (.iload 4, 2) := by decide +kernel
theorem dX7_rest_8 : decode cX7_rest 8 = .ok (.bipush 6, 2) := by decide +kernel
theorem dX7_rest_10 : decode cX7_rest 10 = .ok (.if_icmp .gt 63, 3) := by decide +kernel
theorem dX7_rest_13 : decode cX7_rest 13 = .ok (.bipush (-6), 2) := by decide +kernel
theorem dX7_rest_15 : decode cX7_rest 15 = .ok (.istore 5, 2) := by decide +kernel
theorem dX7_rest_17 : decode cX7_rest 17 = .ok (.iload 5, 2) := by decide +kernel
theorem dX7_rest_19 : decode cX7_rest 19 = .ok (.bipush 6, 2) := by decide +kernel
theorem dX7_rest_21 : decode cX7_rest 21 = .ok (.if_icmp .gt 46, 3) := by decide +kernel
theorem dX7_rest_24 : decode cX7_rest 24 = .ok (.aload_n 0, 1) := by decide +kernel
theorem dX7_rest_25 : decode cX7_rest 25 = .ok (.getfield 10, 3) := by decide +kernel
theorem dX7_rest_28 : decode cX7_rest 28 = .ok (.iload 4, 2) := by decide +kernel
theorem dX7_rest_30 : decode cX7_rest 30 = .ok (.iload 5, 2) := by decide +kernel
theorem dX7_rest_32 : decode cX7_rest 32 = .ok (.invokevirtual 150, 3) := by decide +kernel
theorem dX7_rest_35 : decode cX7_rest 35 = .ok (.ifCond .ne 6, 3) := by decide +kernel
theorem dX7_rest_38 : decode cX7_rest 38 = .ok (.goto 23, 3) := by decide +kernel
theorem dX7_rest_41 : decode cX7_rest 41 = .ok (.iload_n 3, 1) := by decide +kernel
theorem dX7_rest_42 : decode cX7_rest 42 = .ok (.iload_n 1, 1) := by decide +kernel
theorem dX7_rest_43 : decode cX7_rest 43 = .ok (.if_icmp .ne 15, 3) := by decide +kernel
theorem dX7_rest_46 : decode cX7_rest 46 = .ok (.iload_n 2, 1) := by decide +kernel
theorem dX7_rest_47 : decode cX7_rest 47 = .ok (.ifCond .eq 8, 3) := by decide +kernel
theorem dX7_rest_50 : decode cX7_rest 50 = .ok (.iload 5, 2) := by decide +kernel
theorem dX7_rest_52 : decode cX7_rest 52 = .ok (.goto 5, 3) := by decide +kernel
theorem dX7_rest_55 : decode cX7_rest 55 = .ok (.iload 4, 2) := by decide +kernel
theorem dX7_rest_57 : decode cX7_rest 57 = .ok (.ireturn, 1) := by decide +kernel
theorem dX7_rest_58 : decode cX7_rest 58 = .ok (.iinc 3 1, 3) := by decide +kernel
theorem dX7_rest_61 : decode cX7_rest 61 = .ok (.iinc 5 1, 3) := by decide +kernel
theorem dX7_rest_64 : decode cX7_rest 64 = .ok (.goto (-47), 3) := by decide +kernel
theorem dX7_rest_67 : decode cX7_rest 67 = .ok (.iinc 4 1, 3) := by decide +kernel
theorem dX7_rest_70 : decode cX7_rest 70 = .ok (.goto (-64), 3) := by decide +kernel
theorem dX7_rest_73 : decode cX7_rest 73 = .ok (.aload_n 0, 1) := by decide +kernel
theorem dX7_rest_74 : decode cX7_rest 74 = .ok (.ldc 146, 2) := by decide +kernel
theorem dX7_rest_76 : decode cX7_rest 76 = .ok (.invokevirtual 84, 3) := by decide +kernel
theorem dX7_rest_79 : decode cX7_rest 79 = .ok (.ireturn, 1) := by decide +kernel
set_option maxRecDepth 20000 in
theorem ggX7_sort_X7_isPlace : GoodIn wsX7_sort wsX7_isPlace := goodIn_r _ [7, 8, 9, 6, 10] (by decide +kernel) (by decide +kernel)
set_option maxRecDepth 20000 in
theorem gX7_sort_X7_isPlace : GoodIn wsX7_sort (va_wsS RX7 104 yX7_isPlace wsX7_isPlace) := goodIn_app (goodIn_of _ (by decide +kernel)) ggX7_sort_X7_isPlace
set_option maxRecDepth 20000 in
theorem ggX7_sort_X7_finding : GoodIn wsX7_sort wsX7_finding := goodIn_r _ [14, 15, 45, 46, 47, 48, 49, 50, 51, 52, 53, 54, 55, 56, 57] (by decide +kernel) (by decide +kernel)
set_option maxRecDepth 20000 in
theorem gX7_sort_X7_finding : GoodIn wsX7_sort (wsV RX7 84 RX7 yX7_finding wsX7_finding) := goodIn_app (goodIn_of _ (by decide +kernel)) ggX7_sort_X7_finding
set_option maxRecDepth 20000 in
theorem ggX7_sort_X1_isRest : GoodIn wsX7_sort wsX1_isRest := goodIn_r _ [20, 21, 22, 23, 24, 25, 26, 27, 28, 29, 30, 31, 32, 58, 59, 60] (by decide +kernel) (by decide +kernel)
set_option maxRecDepth 20000 in
theorem gX7_sort_X1_isRest : GoodIn wsX7_sort (wsV RX7 150 RX1 yX1_isRest wsX1_isRest) := goodIn_app (goodIn_of _ (by decide +kernel)) ggX7_sort_X1_isRest
set_option maxRecDepth 20000 in
theorem ggX7_sort_X1_sortAt : GoodIn wsX7_sort wsX1_sortAt := goodIn_r _ [36, 21, 22, 37, 38, 39, 26, 40, 28, 41, 42, 43, 44, 58, 59, 60] (by decide +kernel) (by decide +kernel)
set_option maxRecDepth 20000 in
theorem gX7_sort_X1_sortAt : GoodIn wsX7_sort (wsV RX7 153 RX1 yX1_sortAt wsX1_sortAt) := goodIn_app (goodIn_of _ (by decide +kernel)) ggX7_sort_X1_sortAt
theorem dX7_sort_0 : decode cX7_sort 0 = .ok (.iload_n 1, 1) := by decide +kernel
theorem dX7_sort_1 : decode cX7_sort 1 = .ok (.iload_n 2, 1) := by decide +kernel
theorem dX7_sort_2 : decode cX7_sort 2 = .ok (.invokestatic 104, 3) := by decide +kernel
theorem dX7_sort_5 : decode cX7_sort 5 = .ok (.ifCond .ne 10, 3) := by decide +kernel
theorem dX7_sort_8 : decode cX7_sort 8 = .ok (.aload_n 0, 1) := by decide +kernel
theorem dX7_sort_9 : decode cX7_sort 9 = .ok (.ldc 83, 2) := by decide +kernel
theorem dX7_sort_11 : decode cX7_sort 11 = .ok (.invokevirtual 84, 3) := by decide +kernel
theorem dX7_sort_14 : decode cX7_sort 14 = .ok (.ireturn, 1) := by decide +kernel
theorem dX7_sort_15 : decode cX7_sort 15 = .ok (.aload_n 0, 1) := by decide +kernel
theorem dX7_sort_16 : decode cX7_sort 16 = .ok (.getfield 10, 3) := by decide +kernel
theorem dX7_sort_19 : decode cX7_sort 19 = .ok (.iload_n 1, 1) := by decide +kernel
theorem dX7_sort_20 : decode cX7_sort 20 = .ok (.iload_n 2, 1) := by decide +kernel
theorem dX7_sort_21 : decode cX7_sort 21 = .ok (.invokevirtual 150, 3) := by decide +kernel
theorem dX7_sort_24 : decode cX7_sort 24 = .ok (.ifCond .ne 10, 3) := by decide +kernel
theorem dX7_sort_27 : decode cX7_sort 27 = .ok (.aload_n 0, 1) := by decide +kernel
theorem dX7_sort_28 : decode cX7_sort 28 = .ok (.ldc 146, 2) := by decide +kernel
theorem dX7_sort_30 : decode cX7_sort 30 = .ok (.invokevirtual 84, 3) := by decide +kernel
theorem dX7_sort_33 : decode cX7_sort 33 = .ok (.ireturn, 1) := by decide +kernel
theorem dX7_sort_34 : decode cX7_sort 34 = .ok (.aload_n 0, 1) := by decide +kernel
theorem dX7_sort_35 : decode cX7_sort 35 = .ok (.getfield 10, 3) := by decide +kernel
theorem dX7_sort_38 : decode cX7_sort 38 = .ok (.iload_n 1, 1) := by decide +kernel
theorem dX7_sort_39 : decode cX7_sort 39 = .ok (.iload_n 2, 1) := by decide +kernel
theorem dX7_sort_40 : decode cX7_sort 40 = .ok (.invokevirtual 153, 3) := by decide +kernel
theorem dX7_sort_43 : decode cX7_sort 43 = .ok (.ireturn, 1) := by decide +kernel
set_option maxRecDepth 20000 in
theorem ggX7_sorts_X7_finding : GoodIn wsX7_sorts wsX7_finding := goodIn_r _ [7, 8, 38, 39, 40, 41, 42, 43, 44, 45, 46, 47, 48, 49, 50] (by decide +kernel) (by decide +kernel)
set_option maxRecDepth 20000 in
theorem gX7_sorts_X7_finding : GoodIn wsX7_sorts (wsV RX7 84 RX7 yX7_finding wsX7_finding) := goodIn_app (goodIn_of _ (by decide +kernel)) ggX7_sorts_X7_finding
set_option maxRecDepth 20000 in
theorem ggX7_sorts_X1_isRest : GoodIn wsX7_sorts wsX1_isRest := goodIn_r _ [13, 14, 15, 16, 17, 18, 19, 20, 21, 22, 23, 24, 25, 51, 52, 53] (by decide +kernel) (by decide +kernel)
set_option maxRecDepth 20000 in
theorem gX7_sorts_X1_isRest : GoodIn wsX7_sorts (wsV RX7 150 RX1 yX1_isRest wsX1_isRest) := goodIn_app (goodIn_of _ (by decide +kernel)) ggX7_sorts_X1_isRest
set_option maxRecDepth 20000 in
theorem ggX7_sorts_X1_sortAt : GoodIn wsX7_sorts wsX1_sortAt := goodIn_r _ [29, 14, 15, 30, 31, 32, 19, 33, 21, 34, 35, 36, 37, 51, 52, 53] (by decide +kernel) (by decide +kernel)
set_option maxRecDepth 20000 in
theorem gX7_sorts_X1_sortAt : GoodIn wsX7_sorts (wsV RX7 153 RX1 yX1_sortAt wsX1_sortAt) := goodIn_app (goodIn_of _ (by decide +kernel)) ggX7_sorts_X1_sortAt
theorem dX7_sorts_0 : decode cX7_sorts 0 = .ok (.iload_n 1, 1) := by decide +kernel
theorem dX7_sorts_1 : decode cX7_sorts 1 = .ok (.iconst 1, 1) := by decide +kernel
theorem dX7_sorts_2 : decode cX7_sorts 2 = .ok (.if_icmp .lt 8, 3) := by decide +kernel
theorem dX7_sorts_5 : decode cX7_sorts 5 = .ok (.iload_n 1, 1) := by decide +kernel
theorem dX7_sorts_6 : decode cX7_sorts 6 = .ok (.iconst 5, 1) := by decide +kernel
theorem dX7_sorts_7 : decode cX7_sorts 7 = .ok (.if_icmp .le 10, 3) := by decide +kernel
theorem dX7_sorts_10 : decode cX7_sorts 10 = .ok (.aload_n 0, 1) := by decide +kernel
theorem dX7_sorts_11 : decode cX7_sorts 11 = .ok (.ldc 83, 2) := by decide +kernel
theorem dX7_sorts_13 : decode cX7_sorts 13 = .ok (.invokevirtual 84, 3) := by decide +kernel
theorem dX7_sorts_16 : decode cX7_sorts 16 = .ok (.ireturn, 1) := by decide +kernel
theorem dX7_sorts_17 : decode cX7_sorts 17 = .ok (.iconst 0, 1) := by decide +kernel
theorem dX7_sorts_18 : decode cX7_sorts 18 = .ok (.istore_n 2, 1) := by decide +kernel
theorem dX7_sorts_19 : decode cX7_sorts 19 = .ok (.bipush (-6), 2) := by decide +kernel
theorem dX7_sorts_21 : decode cX7_sorts 21 = .ok (.istore_n 3, 1) := by decide +kernel
theorem dX7_sorts_22 : decode cX7_sorts 22 = .ok (.iload_n 3, 1) := by decide +kernel
theorem dX7_sorts_23 : decode cX7_sorts 23 = .ok (.bipush 6, 2) := by decide +kernel
theorem dX7_sorts_25 : decode cX7_sorts 25 = .ok (.if_icmp .gt 56, 3) := by decide +kernel
theorem dX7_sorts_28 : decode cX7_sorts 28 = .ok (.bipush (-6), 2) := by decide +kernel
theorem dX7_sorts_30 : decode cX7_sorts 30 = .ok (.istore 4, 2) := by decide +kernel
theorem dX7_sorts_32 : decode cX7_sorts 32 = .ok (.iload 4, 2) := by decide +kernel
theorem dX7_sorts_34 : decode cX7_sorts 34 = .ok (.bipush 6, 2) := by decide +kernel
theorem dX7_sorts_36 : decode cX7_sorts 36 = .ok (.if_icmp .gt 39, 3) := by decide +kernel
theorem dX7_sorts_39 : decode cX7_sorts 39 = .ok (.aload_n 0, 1) := by decide +kernel
theorem dX7_sorts_40 : decode cX7_sorts 40 = .ok (.getfield 10, 3) := by decide +kernel
theorem dX7_sorts_43 : decode cX7_sorts 43 = .ok (.iload_n 3, 1) := by decide +kernel
theorem dX7_sorts_44 : decode cX7_sorts 44 = .ok (.iload 4, 2) := by decide +kernel
theorem dX7_sorts_46 : decode cX7_sorts 46 = .ok (.invokevirtual 150, 3) := by decide +kernel
theorem dX7_sorts_49 : decode cX7_sorts 49 = .ok (.ifCond .eq 20, 3) := by decide +kernel
theorem dX7_sorts_52 : decode cX7_sorts 52 = .ok (.aload_n 0, 1) := by decide +kernel
theorem dX7_sorts_53 : decode cX7_sorts 53 = .ok (.getfield 10, 3) := by decide +kernel
theorem dX7_sorts_56 : decode cX7_sorts 56 = .ok (.iload_n 3, 1) := by decide +kernel
theorem dX7_sorts_57 : decode cX7_sorts 57 = .ok (.iload 4, 2) := by decide +kernel
theorem dX7_sorts_59 : decode cX7_sorts 59 = .ok (.invokevirtual 153, 3) := by decide +kernel
theorem dX7_sorts_62 : decode cX7_sorts 62 = .ok (.iload_n 1, 1) := by decide +kernel
theorem dX7_sorts_63 : decode cX7_sorts 63 = .ok (.if_icmp .ne 6, 3) := by decide +kernel
theorem dX7_sorts_66 : decode cX7_sorts 66 = .ok (.iinc 2 1, 3) := by decide +kernel
theorem dX7_sorts_69 : decode cX7_sorts 69 = .ok (.iinc 4 1, 3) := by decide +kernel
theorem dX7_sorts_72 : decode cX7_sorts 72 = .ok (.goto (-40), 3) := by decide +kernel
theorem dX7_sorts_75 : decode cX7_sorts 75 = .ok (.iinc 3 1, 3) := by decide +kernel
theorem dX7_sorts_78 : decode cX7_sorts 78 = .ok (.goto (-56), 3) := by decide +kernel
theorem dX7_sorts_81 : decode cX7_sorts 81 = .ok (.iload_n 2, 1) := by decide +kernel
theorem dX7_sorts_82 : decode cX7_sorts 82 = .ok (.ireturn, 1) := by decide +kernel
set_option maxRecDepth 20000 in
theorem ggX7_corner_X7_isPlace : GoodIn wsX7_corner wsX7_isPlace := goodIn_r _ [11, 12, 13, 10, 14] (by decide +kernel) (by decide +kernel)
set_option maxRecDepth 20000 in
theorem gX7_corner_X7_isPlace : GoodIn wsX7_corner (va_wsS RX7 104 yX7_isPlace wsX7_isPlace) := goodIn_app (goodIn_of _ (by decide +kernel)) ggX7_corner_X7_isPlace
set_option maxRecDepth 20000 in
theorem ggX7_corner_X7_finding : GoodIn wsX7_corner wsX7_finding := goodIn_r _ [18, 19, 54, 55, 56, 57, 58, 59, 60, 61, 62, 63, 64, 65, 66] (by decide +kernel) (by decide +kernel)
set_option maxRecDepth 20000 in
theorem gX7_corner_X7_finding : GoodIn wsX7_corner (wsV RX7 84 RX7 yX7_finding wsX7_finding) := goodIn_app (goodIn_of _ (by decide +kernel)) ggX7_corner_X7_finding
set_option maxRecDepth 20000 in
theorem ggX7_corner_X0_isLatest : GoodIn wsX7_corner wsX0_isLatest := goodIn_r _ [24, 25, 26, 27, 67, 68, 69] (by decide +kernel) (by decide +kernel)
set_option maxRecDepth 20000 in
theorem gX7_corner_X0_isLatest : GoodIn wsX7_corner (wsV RX7 156 RX0 yX0_isLatest wsX0_isLatest) := goodIn_app (goodIn_of _ (by decide +kernel)) ggX7_corner_X0_isLatest
set_option maxRecDepth 20000 in
theorem ggX7_corner_X2_remember : GoodIn wsX7_corner wsX2_remember := goodIn_r _ [32, 33, 34, 35, 36, 37, 38, 39, 40, 41, 42, 43, 44, 45, 46, 47, 48, 49, 70, 71, 72, 73, 74, 75, 67, 68, 69] (by decide +kernel) (by decide +kernel)
set_option maxRecDepth 20000 in
theorem gX7_corner_X2_remember : GoodIn wsX7_corner (wsV RX7 164 RX2 yX2_remember wsX2_remember) := goodIn_app (goodIn_of _ (by decide +kernel)) ggX7_corner_X2_remember
set_option maxRecDepth 20000 in
theorem ggX7_corner_X0_append : GoodIn wsX7_corner wsX0_append := goodIn_r _ [53, 25, 26, 27, 67, 68, 69] (by decide +kernel) (by decide +kernel)
set_option maxRecDepth 20000 in
theorem gX7_corner_X0_append : GoodIn wsX7_corner (wsV RX7 168 RX0 yX0_append wsX0_append) := goodIn_app (goodIn_of _ (by decide +kernel)) ggX7_corner_X0_append
theorem dX7_corner_0 : decode cX7_corner 0 = .ok (.iload_n 1, 1) := by decide +kernel
theorem dX7_corner_1 : decode cX7_corner 1 = .ok (.iload_n 2, 1) := by decide +kernel
theorem dX7_corner_2 : decode cX7_corner 2 = .ok (.invokestatic 104, 3) := by decide +kernel
theorem dX7_corner_5 : decode cX7_corner 5 = .ok (.ifCond .ne 10, 3) := by decide +kernel
theorem dX7_corner_8 : decode cX7_corner 8 = .ok (.aload_n 0, 1) := by decide +kernel
theorem dX7_corner_9 : decode cX7_corner 9 = .ok (.ldc 83, 2) := by decide +kernel
theorem dX7_corner_11 : decode cX7_corner 11 = .ok (.invokevirtual 84, 3) := by decide +kernel
theorem dX7_corner_14 : decode cX7_corner 14 = .ok (.ireturn, 1) := by decide +kernel
theorem dX7_corner_15 : decode cX7_corner 15 = .ok (.aload_n 0, 1) := by decide +kernel
theorem dX7_corner_16 : decode cX7_corner 16 = .ok (.getfield 22, 3) := by decide +kernel
theorem dX7_corner_19 : decode cX7_corner 19 = .ok (.iload_n 1, 1) := by decide +kernel
theorem dX7_corner_20 : decode cX7_corner 20 = .ok (.iload_n 2, 1) := by decide +kernel
theorem dX7_corner_21 : decode cX7_corner 21 = .ok (.invokevirtual 156, 3) := by decide +kernel
theorem dX7_corner_24 : decode cX7_corner 24 = .ok (.ifCond .eq 10, 3) := by decide +kernel
theorem dX7_corner_27 : decode cX7_corner 27 = .ok (.aload_n 0, 1) := by decide +kernel
theorem dX7_corner_28 : decode cX7_corner 28 = .ok (.ldc 159, 2) := by decide +kernel
theorem dX7_corner_30 : decode cX7_corner 30 = .ok (.invokevirtual 84, 3) := by decide +kernel
theorem dX7_corner_33 : decode cX7_corner 33 = .ok (.ireturn, 1) := by decide +kernel
theorem dX7_corner_34 : decode cX7_corner 34 = .ok (.aload_n 0, 1) := by decide +kernel
theorem dX7_corner_35 : decode cX7_corner 35 = .ok (.getfield 22, 3) := by decide +kernel
theorem dX7_corner_38 : decode cX7_corner 38 = .ok (.getfield 160, 3) := by decide +kernel
theorem dX7_corner_41 : decode cX7_corner 41 = .ok (.bipush 8, 2) := by decide +kernel
theorem dX7_corner_43 : decode cX7_corner 43 = .ok (.if_icmp .lt 10, 3) := by decide +kernel
theorem dX7_corner_46 : decode cX7_corner 46 = .ok (.aload_n 0, 1) := by decide +kernel
theorem dX7_corner_47 : decode cX7_corner 47 = .ok (.ldc 163, 2) := by decide +kernel
theorem dX7_corner_49 : decode cX7_corner 49 = .ok (.invokevirtual 84, 3) := by decide +kernel
theorem dX7_corner_52 : decode cX7_corner 52 = .ok (.ireturn, 1) := by decide +kernel
theorem dX7_corner_53 : decode cX7_corner 53 = .ok (.aload_n 0, 1) := by decide +kernel
theorem dX7_corner_54 : decode cX7_corner 54 = .ok (.getfield 29, 3) := by decide +kernel
theorem dX7_corner_57 : decode cX7_corner 57 = .ok (.aload_n 0, 1) := by decide +kernel
theorem dX7_corner_58 : decode cX7_corner 58 = .ok (.getfield 10, 3) := by decide +kernel
theorem dX7_corner_61 : decode cX7_corner 61 = .ok (.aload_n 0, 1) := by decide +kernel
theorem dX7_corner_62 : decode cX7_corner 62 = .ok (.getfield 22, 3) := by decide +kernel
theorem dX7_corner_65 : decode cX7_corner 65 = .ok (.invokevirtual 164, 3) := by decide +kernel
theorem dX7_corner_68 : decode cX7_corner 68 = .ok (.aload_n 0, 1) := by decide +kernel
theorem dX7_corner_69 : decode cX7_corner 69 = .ok (.getfield 22, 3) := by decide +kernel
theorem dX7_corner_72 : decode cX7_corner 72 = .ok (.iload_n 1, 1) := by decide +kernel
theorem dX7_corner_73 : decode cX7_corner 73 = .ok (.iload_n 2, 1) := by decide +kernel
theorem dX7_corner_74 : decode cX7_corner 74 = .ok (.invokevirtual 168, 3) := by decide +kernel
theorem dX7_corner_77 : decode cX7_corner 77 = .ok (.aload_n 0, 1) := by decide +kernel
theorem dX7_corner_78 : decode cX7_corner 78 = .ok (.getfield 22, 3) := by decide +kernel
theorem dX7_corner_81 : decode cX7_corner 81 = .ok (.getfield 160, 3) := by decide +kernel
theorem dX7_corner_84 : decode cX7_corner 84 = .ok (.ireturn, 1) := by decide +kernel
set_option maxRecDepth 20000 in
theorem ggX7_open_X2_remember : GoodIn wsX7_open wsX2_remember := goodIn_r _ [9, 10, 11, 12, 13, 14, 15, 16, 17, 18, 19, 20, 21, 22, 23, 24, 25, 26, 43, 44, 45, 46, 47, 48, 40, 41, 42] (by decide +kernel) (by decide +kernel)
set_option maxRecDepth 20000 in
theorem gX7_open_X2_remember : GoodIn wsX7_open (wsV RX7 164 RX2 yX2_remember wsX2_remember) := goodIn_app (goodIn_of _ (by decide +kernel)) ggX7_open_X2_remember
theorem dX7_open_0 : decode cX7_open 0 = .ok (.aload_n 0, 1) := by decide +kernel
theorem dX7_open_1 : decode cX7_open 1 = .ok (.getfield 22, 3) := by decide +kernel
theorem dX7_open_4 : decode cX7_open 4 = .ok (.getfield 160, 3) := by decide +kernel
theorem dX7_open_7 : decode cX7_open 7 = .ok (.istore_n 1, 1) := by decide +kernel
theorem dX7_open_8 : decode cX7_open 8 = .ok (.aload_n 0, 1) := by decide +kernel
theorem dX7_open_9 : decode cX7_open 9 = .ok (.getfield 29, 3) := by decide +kernel
theorem dX7_open_12 : decode cX7_open 12 = .ok (.aload_n 0, 1) := by decide +kernel
theorem dX7_open_13 : decode cX7_open 13 = .ok (.getfield 10, 3) := by decide +kernel
theorem dX7_open_16 : decode cX7_open 16 = .ok (.aload_n 0, 1) := by decide +kernel
theorem dX7_open_17 : decode cX7_open 17 = .ok (.getfield 22, 3) := by decide +kernel
theorem dX7_open_20 : decode cX7_open 20 = .ok (.invokevirtual 164, 3) := by decide +kernel
theorem dX7_open_23 : decode cX7_open 23 = .ok (.aload_n 0, 1) := by decide +kernel
theorem dX7_open_24 : decode cX7_open 24 = .ok (.getfield 22, 3) := by decide +kernel
theorem dX7_open_27 : decode cX7_open 27 = .ok (.iconst 0, 1) := by decide +kernel
theorem dX7_open_28 : decode cX7_open 28 = .ok (.putfield 160, 3) := by decide +kernel
theorem dX7_open_31 : decode cX7_open 31 = .ok (.iload_n 1, 1) := by decide +kernel
theorem dX7_open_32 : decode cX7_open 32 = .ok (.ireturn, 1) := by decide +kernel
set_option maxRecDepth 20000 in
theorem ggX7_simple_X0_isLeft : GoodIn wsX7_simple wsX0_isLeft := goodIn_r _ [6, 7, 8, 9, 5, 10, 11, 12, 13, 14, 15, 16, 17, 18, 19, 20, 21, 22, 23, 24, 25, 26, 27, 28, 29, 30, 31, 32, 33, 34, 35, 36, 37, 38, 39, 40, 41, 42, 43, 44, 45, 46, 47, 48, 49, 50, 51, 52, 67, 68, 69] (by decide +kernel) (by decide +kernel)
set_option maxRecDepth 20000 in
theorem gX7_simple_X0_isLeft : GoodIn wsX7_simple (wsV RX7 172 RX0 yX0_isLeft wsX0_isLeft) := goodIn_app (goodIn_of _ (by decide +kernel)) ggX7_simple_X0_isLeft
set_option maxRecDepth 20000 in
theorem ggX7_simple_X0_isSimple : GoodIn wsX7_simple wsX0_isSimple := goodIn_r _ [10, 11, 12, 13, 14, 5, 15, 16, 17, 18, 19, 20, 21, 22, 23, 24, 25, 26, 27, 28, 29, 30, 31, 32, 33, 34, 35, 36, 37, 38, 39, 40, 41, 42, 43, 44, 45, 46, 47, 48, 67, 68, 69] (by decide +kernel) (by decide +kernel)
set_option maxRecDepth 20000 in
theorem gX7_simple_X0_isSimple : GoodIn wsX7_simple (wsV RX7 176 RX0 yX0_isSimple wsX0_isSimple) := goodIn_app (goodIn_of _ (by decide +kernel)) ggX7_simple_X0_isSimple
theorem dX7_simple_0 : decode cX7_simple 0 = .ok (.iload_n 1, 1) := by decide +kernel
theorem dX7_simple_1 : decode cX7_simple 1 = .ok (.ifCond .eq 13, 3) := by decide +kernel
theorem dX7_simple_4 : decode cX7_simple 4 = .ok (.aload_n 0, 1) := by decide +kernel
theorem dX7_simple_5 : decode cX7_simple 5 = .ok (.getfield 22, 3) := by decide +kernel
theorem dX7_simple_8 : decode cX7_simple 8 = .ok (.invokevirtual 172, 3) := by decide +kernel
theorem dX7_simple_11 : decode cX7_simple 11 = .ok (.goto 10, 3) := by decide +kernel
theorem dX7_simple_14 : decode cX7_simple 14 = .ok (.aload_n 0, 1) := by decide +kernel
theorem dX7_simple_15 : decode cX7_simple 15 = .ok (.getfield 22, 3) := by decide +kernel
theorem dX7_simple_18 : decode cX7_simple 18 = .ok (.invokevirtual 176, 3) := by decide +kernel
theorem dX7_simple_21 : decode cX7_simple 21 = .ok (.istore_n 2, 1) := by decide +kernel
theorem dX7_simple_22 : decode cX7_simple 22 = .ok (.iload_n 2, 1) := by decide +kernel
theorem dX7_simple_23 : decode cX7_simple 23 = .ok (.ifCond .eq 7, 3) := by decide +kernel
theorem dX7_simple_26 : decode cX7_simple 26 = .ok (.iconst 1, 1) := by decide +kernel
theorem dX7_simple_27 : decode cX7_simple 27 = .ok (.goto 4, 3) := by decide +kernel
theorem dX7_simple_30 : decode cX7_simple 30 = .ok (.iconst 0, 1) := by decide +kernel
theorem dX7_simple_31 : decode cX7_simple 31 = .ok (.ireturn, 1) := by decide +kernel
set_option maxRecDepth 20000 in
theorem ggX7_area_X0_doubleArea : GoodIn wsX7_area wsX0_doubleArea := goodIn_r _ [6, 7, 8, 9, 23, 24, 25] (by decide +kernel) (by decide +kernel)
set_option maxRecDepth 20000 in
theorem gX7_area_X0_doubleArea : GoodIn wsX7_area (wsV RX7 179 RX0 yX0_doubleArea wsX0_doubleArea) := goodIn_app (goodIn_of _ (by decide +kernel)) ggX7_area_X0_doubleArea
theorem dX7_area_0 : decode cX7_area 0 = .ok (.aload_n 0, 1) := by decide +kernel
theorem dX7_area_1 : decode cX7_area 1 = .ok (.getfield 22, 3) := by decide +kernel
theorem dX7_area_4 : decode cX7_area 4 = .ok (.invokevirtual 179, 3) := by decide +kernel
theorem dX7_area_7 : decode cX7_area 7 = .ok (.ireturn, 1) := by decide +kernel
set_option maxRecDepth 20000 in
theorem ggX7_within_X7_isPlace : GoodIn wsX7_within wsX7_isPlace := goodIn_r _ [7, 8, 9, 6, 10] (by decide +kernel) (by decide +kernel)
set_option maxRecDepth 20000 in
theorem gX7_within_X7_isPlace : GoodIn wsX7_within (va_wsS RX7 104 yX7_isPlace wsX7_isPlace) := goodIn_app (goodIn_of _ (by decide +kernel)) ggX7_within_X7_isPlace
set_option maxRecDepth 20000 in
theorem ggX7_within_X7_finding : GoodIn wsX7_within wsX7_finding := goodIn_r _ [14, 15, 67, 68, 69, 70, 71, 72, 73, 74, 75, 76, 77, 78, 79] (by decide +kernel) (by decide +kernel)
set_option maxRecDepth 20000 in
theorem gX7_within_X7_finding : GoodIn wsX7_within (wsV RX7 84 RX7 yX7_finding wsX7_finding) := goodIn_app (goodIn_of _ (by decide +kernel)) ggX7_within_X7_finding
set_option maxRecDepth 20000 in
theorem ggX7_within_X0_isSimple : GoodIn wsX7_within wsX0_isSimple := goodIn_r _ [20, 21, 22, 23, 24, 19, 25, 26, 27, 28, 29, 30, 31, 32, 33, 34, 35, 36, 37, 38, 39, 40, 41, 42, 43, 44, 45, 46, 47, 48, 49, 50, 51, 52, 53, 54, 55, 56, 57, 58, 80, 81, 82] (by decide +kernel) (by decide +kernel)
set_option maxRecDepth 20000 in
theorem gX7_within_X0_isSimple : GoodIn wsX7_within (wsV RX7 176 RX0 yX0_isSimple wsX0_isSimple) := goodIn_app (goodIn_of _ (by decide +kernel)) ggX7_within_X0_isSimple
set_option maxRecDepth 20000 in
theorem ggX7_within_X0_whereIs : GoodIn wsX7_within wsX0_whereIs := goodIn_r _ [62, 21, 36, 37, 38, 19, 39, 26, 40, 41, 42, 43, 44, 45, 46, 27, 47, 48, 49, 50, 63, 64, 65, 66, 80, 81, 82] (by decide +kernel) (by decide +kernel)
set_option maxRecDepth 20000 in
theorem gX7_within_X0_whereIs : GoodIn wsX7_within (wsV RX7 183 RX0 yX0_whereIs wsX0_whereIs) := goodIn_app (goodIn_of _ (by decide +kernel)) ggX7_within_X0_whereIs

theorem dX8_isSimple_0 : decode cX8_isSimple 0 = .ok (.aload_n 0, 1) := by decide +kernel
theorem dX8_isSimple_1 : decode cX8_isSimple 1 = .ok (.invokevirtual 108, 3) := by decide +kernel
theorem dX8_isSimple_4 : decode cX8_isSimple 4 = .ok (.istore_n 1, 1) := by decide +kernel
theorem dX8_isSimple_5 : decode cX8_isSimple 5 = .ok (.iload_n 1, 1) := by decide +kernel
theorem dX8_isSimple_6 : decode cX8_isSimple 6 = .ok (.iconst 3, 1) := by decide +kernel
theorem dX8_isSimple_7 : decode cX8_isSimple 7 = .ok (.if_icmp .ge 5, 3) := by decide +kernel
theorem dX8_isSimple_10 : decode cX8_isSimple 10 = .ok (.iconst 0, 1) := by decide +kernel
theorem dX8_isSimple_11 : decode cX8_isSimple 11 = .ok (.ireturn, 1) := by decide +kernel
theorem dX8_isSimple_12 : decode cX8_isSimple 12 = .ok (.iconst 0, 1) := by decide +kernel
theorem dX8_isSimple_13 : decode cX8_isSimple 13 = .ok (.istore_n 2, 1) := by decide +kernel
theorem dX8_isSimple_14 : decode cX8_isSimple 14 = .ok (.iload_n 2, 1) := by decide +kernel
theorem dX8_isSimple_15 : decode cX8_isSimple 15 = .ok (.iload_n 1, 1) := by decide +kernel
theorem dX8_isSimple_16 : decode cX8_isSimple 16 = .ok (.if_icmp .ge 50, 3) := by decide +kernel
theorem dX8_isSimple_19 : decode cX8_isSimple 19 = .ok (.iconst 0, 1) := by decide +kernel
theorem dX8_isSimple_20 : decode cX8_isSimple 20 = .ok (.istore_n 3, 1) := by decide +kernel
theorem dX8_isSimple_21 : decode cX8_isSimple 21 = .ok (.iload_n 3, 1) := by decide +kernel
theorem dX8_isSimple_22 : decode cX8_isSimple 22 = .ok (.iload_n 2, 1) := by decide +kernel
theorem dX8_isSimple_23 : decode cX8_isSimple 23 = .ok (.if_icmp .ge 37, 3) := by decide +kernel
theorem dX8_isSimple_26 : decode cX8_isSimple 26 = .ok (.aload_n 0, 1) := by decide +kernel
theorem dX8_isSimple_27 : decode cX8_isSimple 27 = .ok (.iload_n 2, 1) := by decide +kernel
theorem dX8_isSimple_28 : decode cX8_isSimple 28 = .ok (.invokevirtual 112, 3) := by decide +kernel
theorem dX8_isSimple_31 : decode cX8_isSimple 31 = .ok (.aload_n 0, 1) := by decide +kernel
theorem dX8_isSimple_32 : decode cX8_isSimple 32 = .ok (.iload_n 3, 1) := by decide +kernel
theorem dX8_isSimple_33 : decode cX8_isSimple 33 = .ok (.invokevirtual 112, 3) := by decide +kernel
theorem dX8_isSimple_36 : decode cX8_isSimple 36 = .ok (.if_icmp .ne 18, 3) := by decide +kernel
theorem dX8_isSimple_39 : decode cX8_isSimple 39 = .ok (.aload_n 0, 1) := by decide +kernel
theorem dX8_isSimple_40 : decode cX8_isSimple 40 = .ok (.iload_n 2, 1) := by decide +kernel
theorem dX8_isSimple_41 : decode cX8_isSimple 41 = .ok (.invokevirtual 115, 3) := by decide +kernel
theorem dX8_isSimple_44 : decode cX8_isSimple 44 = .ok (.aload_n 0, 1) := by decide +kernel
theorem dX8_isSimple_45 : decode cX8_isSimple 45 = .ok (.iload_n 3, 1) := by decide +kernel
theorem dX8_isSimple_46 : decode cX8_isSimple 46 = .ok (.invokevirtual 115, 3) := by decide +kernel
theorem dX8_isSimple_49 : decode cX8_isSimple 49 = .ok (.if_icmp .ne 5, 3) := by decide +kernel
theorem dX8_isSimple_52 : decode cX8_isSimple 52 = .ok (.iconst 0, 1) := by decide +kernel
theorem dX8_isSimple_53 : decode cX8_isSimple 53 = .ok (.ireturn, 1) := by decide +kernel
theorem dX8_isSimple_54 : decode cX8_isSimple 54 = .ok (.iinc 3 1, 3) := by decide +kernel
theorem dX8_isSimple_57 : decode cX8_isSimple 57 = .ok (.goto (-36), 3) := by decide +kernel
theorem dX8_isSimple_60 : decode cX8_isSimple 60 = .ok (.iinc 2 1, 3) := by decide +kernel
theorem dX8_isSimple_63 : decode cX8_isSimple 63 = .ok (.goto (-49), 3) := by decide +kernel
theorem dX8_isSimple_66 : decode cX8_isSimple 66 = .ok (.iconst 0, 1) := by decide +kernel
theorem dX8_isSimple_67 : decode cX8_isSimple 67 = .ok (.istore_n 2, 1) := by decide +kernel
theorem dX8_isSimple_68 : decode cX8_isSimple 68 = .ok (.iload_n 2, 1) := by decide +kernel
theorem dX8_isSimple_69 : decode cX8_isSimple 69 = .ok (.iload_n 1, 1) := by decide +kernel
theorem dX8_isSimple_70 : decode cX8_isSimple 70 = .ok (.if_icmp .ge 115, 3) := by decide +kernel
theorem dX8_isSimple_73 : decode cX8_isSimple 73 = .ok (.aload_n 0, 1) := by decide +kernel
theorem dX8_isSimple_74 : decode cX8_isSimple 74 = .ok (.iload_n 2, 1) := by decide +kernel
theorem dX8_isSimple_75 : decode cX8_isSimple 75 = .ok (.iload_n 1, 1) := by decide +kernel
theorem dX8_isSimple_76 : decode cX8_isSimple 76 = .ok (.iadd, 1) := by decide +kernel
theorem dX8_isSimple_77 : decode cX8_isSimple 77 = .ok (.iconst 1, 1) := by decide +kernel
theorem dX8_isSimple_78 : decode cX8_isSimple 78 = .ok (.isub, 1) := by decide +kernel
theorem dX8_isSimple_79 : decode cX8_isSimple 79 = .ok (.aload_n 0, 1) := by decide +kernel
theorem dX8_isSimple_80 : decode cX8_isSimple 80 = .ok (.iload_n 2, 1) := by decide +kernel
theorem dX8_isSimple_81 : decode cX8_isSimple 81 = .ok (.iconst 1, 1) := by decide +kernel
theorem dX8_isSimple_82 : decode cX8_isSimple 82 = .ok (.iadd, 1) := by decide +kernel
theorem dX8_isSimple_83 : decode cX8_isSimple 83 = .ok (.invokevirtual 112, 3) := by decide +kernel
theorem dX8_isSimple_86 : decode cX8_isSimple 86 = .ok (.aload_n 0, 1) := by decide +kernel
theorem dX8_isSimple_87 : decode cX8_isSimple 87 = .ok (.iload_n 2, 1) := by decide +kernel
theorem dX8_isSimple_88 : decode cX8_isSimple 88 = .ok (.iconst 1, 1) := by decide +kernel
theorem dX8_isSimple_89 : decode cX8_isSimple 89 = .ok (.iadd, 1) := by decide +kernel
theorem dX8_isSimple_90 : decode cX8_isSimple 90 = .ok (.invokevirtual 115, 3) := by decide +kernel
theorem dX8_isSimple_93 : decode cX8_isSimple 93 = .ok (.invokevirtual 123, 3) := by decide +kernel
theorem dX8_isSimple_96 : decode cX8_isSimple 96 = .ok (.ifCond .ne 29, 3) := by decide +kernel
theorem dX8_isSimple_99 : decode cX8_isSimple 99 = .ok (.aload_n 0, 1) := by decide +kernel
theorem dX8_isSimple_100 : decode cX8_isSimple 100 = .ok (.iload_n 2, 1) := by decide +kernel
theorem dX8_isSimple_101 : decode cX8_isSimple 101 = .ok (.aload_n 0, 1) := by decide +kernel
theorem dX8_isSimple_102 : decode cX8_isSimple 102 = .ok (.iload_n 2, 1) := by decide +kernel
theorem dX8_isSimple_103 : decode cX8_isSimple 103 = .ok (.iload_n 1, 1) := by decide +kernel
theorem dX8_isSimple_104 : decode cX8_isSimple 104 = .ok (.iadd, 1) := by decide +kernel
theorem dX8_isSimple_105 : decode cX8_isSimple 105 = .ok (.iconst 1, 1) := by decide +kernel
theorem dX8_isSimple_106 : decode cX8_isSimple 106 = .ok (.isub, 1) := by decide +kernel
theorem dX8_isSimple_107 : decode cX8_isSimple 107 = .ok (.invokevirtual 112, 3) := by decide +kernel
theorem dX8_isSimple_110 : decode cX8_isSimple 110 = .ok (.aload_n 0, 1) := by decide +kernel
theorem dX8_isSimple_111 : decode cX8_isSimple 111 = .ok (.iload_n 2, 1) := by decide +kernel
theorem dX8_isSimple_112 : decode cX8_isSimple 112 = .ok (.iload_n 1, 1) := by decide +kernel
theorem dX8_isSimple_113 : decode cX8_isSimple 113 = .ok (.iadd, 1) := by decide +kernel
theorem dX8_isSimple_114 : decode cX8_isSimple 114 = .ok (.iconst 1, 1) := by decide +kernel
theorem dX8_isSimple_115 : decode cX8_isSimple 115 = .ok (.isub, 1) := by decide +kernel
theorem dX8_isSimple_116 : decode cX8_isSimple 116 = .ok (.invokevirtual 115, 3) := by decide +kernel
theorem dX8_isSimple_119 : decode cX8_isSimple 119 = .ok (.invokevirtual 123, 3) := by decide +kernel
theorem dX8_isSimple_122 : decode cX8_isSimple 122 = .ok (.ifCond .eq 5, 3) := by decide +kernel
theorem dX8_isSimple_125 : decode cX8_isSimple 125 = .ok (.iconst 0, 1) := by decide +kernel
theorem dX8_isSimple_126 : decode cX8_isSimple 126 = .ok (.ireturn, 1) := by decide +kernel
theorem dX8_isSimple_127 : decode cX8_isSimple 127 = .ok (.iconst 0, 1) := by decide +kernel
theorem dX8_isSimple_128 : decode cX8_isSimple 128 = .ok (.istore_n 3, 1) := by decide +kernel
theorem dX8_isSimple_129 : decode cX8_isSimple 129 = .ok (.iload_n 3, 1) := by decide +kernel
theorem dX8_isSimple_130 : decode cX8_isSimple 130 = .ok (.iload_n 2, 1) := by decide +kernel
theorem dX8_isSimple_131 : decode cX8_isSimple 131 = .ok (.if_icmp .ge 48, 3) := by decide +kernel
theorem dX8_isSimple_134 : decode cX8_isSimple 134 = .ok (.iload_n 2, 1) := by decide +kernel
theorem dX8_isSimple_135 : decode cX8_isSimple 135 = .ok (.iload_n 3, 1) := by decide +kernel
theorem dX8_isSimple_136 : decode cX8_isSimple 136 = .ok (.isub, 1) := by decide +kernel
theorem dX8_isSimple_137 : decode cX8_isSimple 137 = .ok (.iconst 1, 1) := by decide +kernel
theorem dX8_isSimple_138 : decode cX8_isSimple 138 = .ok (.if_icmp .eq 12, 3) := by decide +kernel
theorem dX8_isSimple_141 : decode cX8_isSimple 141 = .ok (.iload_n 2, 1) := by decide +kernel
theorem dX8_isSimple_142 : decode cX8_isSimple 142 = .ok (.iload_n 3, 1) := by decide +kernel
theorem dX8_isSimple_143 : decode cX8_isSimple 143 = .ok (.isub, 1) := by decide +kernel
theorem dX8_isSimple_144 : decode cX8_isSimple 144 = .ok (.iload_n 1, 1) := by decide +kernel
theorem dX8_isSimple_145 : decode cX8_isSimple 145 = .ok (.iconst 1, 1) := by decide +kernel
theorem dX8_isSimple_146 : decode cX8_isSimple 146 = .ok (.isub, 1) := by decide +kernel
theorem dX8_isSimple_147 : decode cX8_isSimple 147 = .ok (.if_icmp .ne 7, 3) := by decide +kernel
theorem dX8_isSimple_150 : decode cX8_isSimple 150 = .ok (.iconst 1, 1) := by decide +kernel
theorem dX8_isSimple_151 : decode cX8_isSimple 151 = .ok (.goto 4, 3) := by decide +kernel
theorem dX8_isSimple_154 : decode cX8_isSimple 154 = .ok (.iconst 0, 1) := by decide +kernel
theorem dX8_isSimple_155 : decode cX8_isSimple 155 = .ok (.istore 4, 2) := by decide +kernel
theorem dX8_isSimple_157 : decode cX8_isSimple 157 = .ok (.iload 4, 2) := by decide +kernel
theorem dX8_isSimple_159 : decode cX8_isSimple 159 = .ok (.ifCond .ne 14, 3) := by decide +kernel
theorem dX8_isSimple_162 : decode cX8_isSimple 162 = .ok (.aload_n 0, 1) := by decide +kernel
theorem dX8_isSimple_163 : decode cX8_isSimple 163 = .ok (.iload_n 2, 1) := by decide +kernel
theorem dX8_isSimple_164 : decode cX8_isSimple 164 = .ok (.iload_n 3, 1) := by decide +kernel
theorem dX8_isSimple_165 : decode cX8_isSimple 165 = .ok (.invokevirtual 126, 3) := by decide +kernel
theorem dX8_isSimple_168 : decode cX8_isSimple 168 = .ok (.ifCond .eq 5, 3) := by decide +kernel
theorem dX8_isSimple_171 : decode cX8_isSimple 171 = .ok (.iconst 0, 1) := by decide +kernel
theorem dX8_isSimple_172 : decode cX8_isSimple 172 = .ok (.ireturn, 1) := by decide +kernel
theorem dX8_isSimple_173 : decode cX8_isSimple 173 = .ok (.iinc 3 1, 3) := by decide +kernel
theorem dX8_isSimple_176 : decode cX8_isSimple 176 = .ok (.goto (-47), 3) := by decide +kernel
theorem dX8_isSimple_179 : decode cX8_isSimple 179 = .ok (.iinc 2 1, 3) := by decide +kernel
theorem dX8_isSimple_182 : decode cX8_isSimple 182 = .ok (.goto (-114), 3) := by decide +kernel
theorem dX8_isSimple_185 : decode cX8_isSimple 185 = .ok (.iconst 1, 1) := by decide +kernel
theorem dX8_isSimple_186 : decode cX8_isSimple 186 = .ok (.ireturn, 1) := by decide +kernel
set_option maxRecDepth 20000 in
theorem ggX8_areaOf_X8_corners : GoodIn wsX8_areaOf wsX8_corners := goodIn_r _ [5, 6, 15, 16, 17, 18, 19, 20, 21, 22, 23, 24, 25, 26, 27, 28, 29, 30, 31, 32, 33, 34, 35, 36, 37] (by decide +kernel) (by decide +kernel)
set_option maxRecDepth 20000 in
theorem gX8_areaOf_X8_corners : GoodIn wsX8_areaOf (wsV RX8 108 RX8 yX8_corners wsX8_corners) := goodIn_app (goodIn_of _ (by decide +kernel)) ggX8_areaOf_X8_corners
set_option maxRecDepth 20000 in
theorem ggX8_areaOf_X8_xOf : GoodIn wsX8_areaOf wsX8_xOf := goodIn_r _ [10, 6, 1, 2, 3, 4, 5, 15, 16, 17, 18, 19, 20, 21, 22, 23, 24, 25, 26, 27, 28, 29, 30, 31, 32, 33, 34, 35, 36, 37] (by decide +kernel) (by decide +kernel)
set_option maxRecDepth 20000 in
theorem gX8_areaOf_X8_xOf : GoodIn wsX8_areaOf (wsV RX8 112 RX8 yX8_xOf wsX8_xOf) := goodIn_app (goodIn_of _ (by decide +kernel)) ggX8_areaOf_X8_xOf
set_option maxRecDepth 20000 in
theorem ggX8_areaOf_X8_yOf : GoodIn wsX8_areaOf wsX8_yOf := goodIn_r _ [14, 6, 1, 2, 3, 4, 5, 15, 16, 17, 18, 19, 20, 21, 22, 23, 24, 25, 26, 27, 28, 29, 30, 31, 32, 33, 34, 35, 36, 37] (by decide +kernel) (by decide +kernel)
set_option maxRecDepth 20000 in
theorem gX8_areaOf_X8_yOf : GoodIn wsX8_areaOf (wsV RX8 115 RX8 yX8_yOf wsX8_yOf) := goodIn_app (goodIn_of _ (by decide +kernel)) ggX8_areaOf_X8_yOf
theorem dX8_areaOf_0 : decode cX8_areaOf 0 = .ok (.iconst 0, 1) := by decide +kernel
theorem dX8_areaOf_1 : decode cX8_areaOf 1 = .ok (.istore_n 1, 1) := by decide +kernel
theorem dX8_areaOf_2 : decode cX8_areaOf 2 = .ok (.iconst 0, 1) := by decide +kernel
theorem dX8_areaOf_3 : decode cX8_areaOf 3 = .ok (.istore_n 2, 1) := by decide +kernel
theorem dX8_areaOf_4 : decode cX8_areaOf 4 = .ok (.iload_n 2, 1) := by decide +kernel
theorem dX8_areaOf_5 : decode cX8_areaOf 5 = .ok (.aload_n 0, 1) := by decide +kernel
theorem dX8_areaOf_6 : decode cX8_areaOf 6 = .ok (.invokevirtual 108, 3) := by decide +kernel
theorem dX8_areaOf_9 : decode cX8_areaOf 9 = .ok (.if_icmp .ge 39, 3) := by decide +kernel
theorem dX8_areaOf_12 : decode cX8_areaOf 12 = .ok (.iload_n 1, 1) := by decide +kernel
theorem dX8_areaOf_13 : decode cX8_areaOf 13 = .ok (.aload_n 0, 1) := by decide +kernel
theorem dX8_areaOf_14 : decode cX8_areaOf 14 = .ok (.iload_n 2, 1) := by decide +kernel
theorem dX8_areaOf_15 : decode cX8_areaOf 15 = .ok (.invokevirtual 112, 3) := by decide +kernel
theorem dX8_areaOf_18 : decode cX8_areaOf 18 = .ok (.aload_n 0, 1) := by decide +kernel
theorem dX8_areaOf_19 : decode cX8_areaOf 19 = .ok (.iload_n 2, 1) := by decide +kernel
theorem dX8_areaOf_20 : decode cX8_areaOf 20 = .ok (.iconst 1, 1) := by decide +kernel
theorem dX8_areaOf_21 : decode cX8_areaOf 21 = .ok (.iadd, 1) := by decide +kernel
theorem dX8_areaOf_22 : decode cX8_areaOf 22 = .ok (.invokevirtual 115, 3) := by decide +kernel
theorem dX8_areaOf_25 : decode cX8_areaOf 25 = .ok (.imul, 1) := by decide +kernel
theorem dX8_areaOf_26 : decode cX8_areaOf 26 = .ok (.aload_n 0, 1) := by decide +kernel
theorem dX8_areaOf_27 : decode cX8_areaOf 27 = .ok (.iload_n 2, 1) := by decide +kernel
theorem dX8_areaOf_28 : decode cX8_areaOf 28 = .ok (.invokevirtual 115, 3) := by decide +kernel
theorem dX8_areaOf_31 : decode cX8_areaOf 31 = .ok (.aload_n 0, 1) := by decide +kernel
theorem dX8_areaOf_32 : decode cX8_areaOf 32 = .ok (.iload_n 2, 1) := by decide +kernel
theorem dX8_areaOf_33 : decode cX8_areaOf 33 = .ok (.iconst 1, 1) := by decide +kernel
theorem dX8_areaOf_34 : decode cX8_areaOf 34 = .ok (.iadd, 1) := by decide +kernel
theorem dX8_areaOf_35 : decode cX8_areaOf 35 = .ok (.invokevirtual 112, 3) := by decide +kernel
theorem dX8_areaOf_38 : decode cX8_areaOf 38 = .ok (.imul, 1) := by decide +kernel
theorem dX8_areaOf_39 : decode cX8_areaOf 39 = .ok (.isub, 1) := by decide +kernel
theorem dX8_areaOf_40 : decode cX8_areaOf 40 = .ok (.iadd, 1) := by decide +kernel
theorem dX8_areaOf_41 : decode cX8_areaOf 41 = .ok (.istore_n 1, 1) := by decide +kernel
theorem dX8_areaOf_42 : decode cX8_areaOf 42 = .ok (.iinc 2 1, 3) := by decide +kernel
theorem dX8_areaOf_45 : decode cX8_areaOf 45 = .ok (.goto (-41), 3) := by decide +kernel
theorem dX8_areaOf_48 : decode cX8_areaOf 48 = .ok (.iload_n 1, 1) := by decide +kernel
theorem dX8_areaOf_49 : decode cX8_areaOf 49 = .ok (.ireturn, 1) := by decide +kernel
set_option maxRecDepth 20000 in
theorem ggX8_simple_X8_isSimple : GoodIn wsX8_simple wsX8_isSimple := goodIn_r _ [5, 6, 7, 8, 4, 9, 10, 11, 12, 13, 14, 15, 16, 17, 18, 19, 20, 21, 22, 23, 24, 25, 26, 27, 28, 29, 34, 35, 36, 37, 38, 39, 40, 41, 42, 43, 44, 45, 46, 47, 48, 49, 50, 51, 52, 53, 54, 55, 56] (by decide +kernel) (by decide +kernel)
set_option maxRecDepth 20000 in
theorem gX8_simple_X8_isSimple : GoodIn wsX8_simple (wsV RX8 129 RX8 yX8_isSimple wsX8_isSimple) := goodIn_app (goodIn_of _ (by decide +kernel)) ggX8_simple_X8_isSimple
set_option maxRecDepth 20000 in
theorem ggX8_simple_X8_areaOf : GoodIn wsX8_simple wsX8_areaOf := goodIn_r _ [33, 6, 7, 8, 4, 9, 10, 11, 12, 13, 14, 15, 16, 17, 18, 34, 35, 36, 37, 38, 39, 40, 41, 42, 43, 44, 45, 46, 47, 48, 49, 50, 51, 52, 53, 54, 55, 56] (by decide +kernel) (by decide +kernel)
set_option maxRecDepth 20000 in
theorem gX8_simple_X8_areaOf : GoodIn wsX8_simple (wsV RX8 132 RX8 yX8_areaOf wsX8_areaOf) := goodIn_app (goodIn_of _ (by decide +kernel)) ggX8_simple_X8_areaOf
theorem dX8_simple_0 : decode cX8_simple 0 = .ok (.aload_n 0, 1) := by decide +kernel
theorem dX8_simple_1 : decode cX8_simple 1 = .ok (.invokevirtual 129, 3) := by decide +kernel
theorem dX8_simple_4 : decode cX8_simple 4 = .ok (.ifCond .eq 18, 3) := by decide +kernel
theorem dX8_simple_7 : decode cX8_simple 7 = .ok (.iload_n 1, 1) := by decide +kernel
theorem dX8_simple_8 : decode cX8_simple 8 = .ok (.ifCond .eq 10, 3) := by decide +kernel
theorem dX8_simple_11 : decode cX8_simple 11 = .ok (.aload_n 0, 1) := by decide +kernel
theorem dX8_simple_12 : decode cX8_simple 12 = .ok (.invokevirtual 132, 3) := by decide +kernel
theorem dX8_simple_15 : decode cX8_simple 15 = .ok (.ifCond .le 7, 3) := by decide +kernel
theorem dX8_simple_18 : decode cX8_simple 18 = .ok (.iconst 1, 1) := by decide +kernel
theorem dX8_simple_19 : decode cX8_simple 19 = .ok (.goto 4, 3) := by decide +kernel
theorem dX8_simple_22 : decode cX8_simple 22 = .ok (.iconst 0, 1) := by decide +kernel
theorem dX8_simple_23 : decode cX8_simple 23 = .ok (.ireturn, 1) := by decide +kernel
set_option maxRecDepth 20000 in
theorem ggX8_area_X8_areaOf : GoodIn wsX8_area wsX8_areaOf := goodIn_r _ [5, 6, 7, 8, 4, 9, 10, 11, 12, 13, 14, 15, 16, 17, 18, 19, 20, 21, 22, 23, 24, 25, 26, 27, 28, 29, 30, 31, 32, 33, 34, 35, 36, 37, 38, 39, 40, 41] (by decide +kernel) (by decide +kernel)
set_option maxRecDepth 20000 in
theorem gX8_area_X8_areaOf : GoodIn wsX8_area (wsV RX8 132 RX8 yX8_areaOf wsX8_areaOf) := goodIn_app (goodIn_of _ (by decide +kernel)) ggX8_area_X8_areaOf
theorem dX8_area_0 : decode cX8_area 0 = .ok (.aload_n 0, 1) := by decide +kernel
theorem dX8_area_1 : decode cX8_area 1 = .ok (.invokevirtual 132, 3) := by decide +kernel
theorem dX8_area_4 : decode cX8_area 4 = .ok (.ireturn, 1) := by decide +kernel
set_option maxRecDepth 20000 in
theorem ggX8_where_X8_corners : GoodIn wsX8_where wsX8_corners := goodIn_r _ [5, 6, 22, 23, 24, 25, 26, 27, 28, 29, 30, 31, 32, 33, 34, 35, 36, 37, 38, 39, 40, 41, 42, 43, 44] (by decide +kernel) (by decide +kernel)
set_option maxRecDepth 20000 in
theorem gX8_where_X8_corners : GoodIn wsX8_where (wsV RX8 108 RX8 yX8_corners wsX8_corners) := goodIn_app (goodIn_of _ (by decide +kernel)) ggX8_where_X8_corners
set_option maxRecDepth 20000 in
theorem ggX8_where_X8_isOn : GoodIn wsX8_where wsX8_isOn := goodIn_r _ [10, 11, 12, 13, 4, 14, 6, 1, 2, 3, 5, 15, 16, 17, 18, 19, 20, 21, 22, 23, 24, 25, 26, 27, 28, 29, 30, 31, 32, 33, 34, 35, 36, 37, 38, 39, 40, 41, 42, 43, 44] (by decide +kernel) (by decide +kernel)
set_option maxRecDepth 20000 in
theorem gX8_where_X8_isOn : GoodIn wsX8_where (wsV RX8 123 RX8 yX8_isOn wsX8_isOn) := goodIn_app (goodIn_of _ (by decide +kernel)) ggX8_where_X8_isOn
set_option maxRecDepth 20000 in
theorem ggX8_where_X8_yOf : GoodIn wsX8_where wsX8_yOf := goodIn_r _ [18, 6, 1, 2, 3, 4, 5, 22, 23, 24, 25, 26, 27, 28, 29, 30, 31, 32, 33, 34, 35, 36, 37, 38, 39, 40, 41, 42, 43, 44] (by decide +kernel) (by decide +kernel)
set_option maxRecDepth 20000 in
theorem gX8_where_X8_yOf : GoodIn wsX8_where (wsV RX8 115 RX8 yX8_yOf wsX8_yOf) := goodIn_app (goodIn_of _ (by decide +kernel)) ggX8_where_X8_yOf
set_option maxRecDepth 20000 in
theorem ggX8_where_X8_xOf : GoodIn wsX8_where wsX8_xOf := goodIn_r _ [14, 6, 1, 2, 3, 4, 5, 22, 23, 24, 25, 26, 27, 28, 29, 30, 31, 32, 33, 34, 35, 36, 37, 38, 39, 40, 41, 42, 43, 44] (by decide +kernel) (by decide +kernel)
set_option maxRecDepth 20000 in
theorem gX8_where_X8_xOf : GoodIn wsX8_where (wsV RX8 112 RX8 yX8_xOf wsX8_xOf) := goodIn_app (goodIn_of _ (by decide +kernel)) ggX8_where_X8_xOf
set_option maxRecDepth 20000 in
theorem ggX8_where_X8_turn : GoodIn wsX8_where wsX8_turn := goodIn_r _ [21] (by decide +kernel) (by decide +kernel)
set_option maxRecDepth 20000 in
theorem gX8_where_X8_turn : GoodIn wsX8_where (va_wsS RX8 119 yX8_turn wsX8_turn) := goodIn_app (goodIn_of _ (by decide +kernel)) ggX8_where_X8_turn
theorem dX8_where_0 : decode cX8_where 0 = .ok (.iconst 0, 1) := by decide +kernel
theorem dX8_where_1 : decode cX8_where 1 = .ok (.istore_n 3, 1) := by decide +kernel
theorem dX8_where_2 : decode cX8_where 2 = .ok (.iload_n 3, 1) := by decide +kernel
theorem dX8_where_3 : decode cX8_where 3 = .ok (.aload_n 0, 1) := by decide +kernel
theorem dX8_where_4 : decode cX8_where 4 = .ok (.invokevirtual 108, 3) := by decide +kernel
theorem dX8_where_7 : decode cX8_where 7 = .ok (.if_icmp .ge 21, 3) := by decide +kernel
theorem dX8_where_10 : decode cX8_where 10 = .ok (.aload_n 0, 1) := by decide +kernel
theorem dX8_where_11 : decode cX8_where 11 = .ok (.iload_n 3, 1) := by decide +kernel
theorem dX8_where_12 : decode cX8_where 12 = .ok (.iload_n 1, 1) := by decide +kernel
theorem dX8_where_13 : decode cX8_where 13 = .ok (.iload_n 2, 1) := by decide +kernel
theorem dX8_where_14 : decode cX8_where 14 = .ok (.invokevirtual 123, 3) := by decide +kernel
theorem dX8_where_17 : decode cX8_where 17 = .ok (.ifCond .eq 5, 3) := by decide +kernel
theorem dX8_where_20 : decode cX8_where 20 = .ok (.iconst 1, 1) := by decide +kernel
theorem dX8_where_21 : decode cX8_where 21 = .ok (.ireturn, 1) := by decide +kernel
theorem dX8_where_22 : decode cX8_where 22 = .ok (.iinc 3 1, 3) := by decide +kernel
theorem dX8_where_25 : decode cX8_where 25 = .ok (.goto (-23), 3) := by decide +kernel
theorem dX8_where_28 : decode cX8_where 28 = .ok (.iconst 0, 1) := by decide +kernel
theorem dX8_where_29 : decode cX8_where 29 = .ok (.istore_n 3, 1) := by decide +kernel
theorem dX8_where_30 : decode cX8_where 30 = .ok (.iconst 0, 1) := by decide +kernel
theorem dX8_where_31 : decode cX8_where 31 = .ok (.istore 4, 2) := by decide +kernel
theorem dX8_where_33 : decode cX8_where 33 = .ok (.iload 4, 2) := by decide +kernel
theorem dX8_where_35 : decode cX8_where 35 = .ok (.aload_n 0, 1) := by decide +kernel
theorem dX8_where_36 : decode cX8_where 36 = .ok (.invokevirtual 108, 3) := by decide +kernel
theorem dX8_where_39 : decode cX8_where 39 = .ok (.if_icmp .ge 110, 3) := by decide +kernel
theorem dX8_where_42 : decode cX8_where 42 = .ok (.aload_n 0, 1) := by decide +kernel
theorem dX8_where_43 : decode cX8_where 43 = .ok (.iload 4, 2) := by decide +kernel
theorem dX8_where_45 : decode cX8_where 45 = .ok (.invokevirtual 115, 3) := by decide +kernel
theorem dX8_where_48 : decode cX8_where 48 = .ok (.istore 5, 2) := by decide +kernel
theorem dX8_where_50 : decode cX8_where 50 = .ok (.aload_n 0, 1) := by decide +kernel
theorem dX8_where_51 : decode cX8_where 51 = .ok (.iload 4, 2) := by decide +kernel
theorem dX8_where_53 : decode cX8_where 53 = .ok (.iconst 1, 1) := by decide +kernel
theorem dX8_where_54 : decode cX8_where 54 = .ok (.iadd, 1) := by decide +kernel
theorem dX8_where_55 : decode cX8_where 55 = .ok (.invokevirtual 115, 3) := by decide +kernel
theorem dX8_where_58 : decode cX8_where 58 = .ok (.istore 6, 2) := by decide +kernel
theorem dX8_where_60 : decode cX8_where 60 = .ok (.iload 5, 2) := by decide +kernel
theorem dX8_where_62 : decode cX8_where 62 = .ok (.iload_n 2, 1) := by decide +kernel
theorem dX8_where_63 : decode cX8_where 63 = .ok (.if_icmp .le 7, 3) := by decide +kernel
theorem dX8_where_66 : decode cX8_where 66 = .ok (.iconst 1, 1) := by decide +kernel
theorem dX8_where_67 : decode cX8_where 67 = .ok (.goto 4, 3) := by decide +kernel
theorem dX8_where_70 : decode cX8_where 70 = .ok (.iconst 0, 1) := by decide +kernel
theorem dX8_where_71 : decode cX8_where 71 = .ok (.iload 6, 2) := by decide +kernel
theorem dX8_where_73 : decode cX8_where 73 = .ok (.iload_n 2, 1) := by decide +kernel
theorem dX8_where_74 : decode cX8_where 74 = .ok (.if_icmp .le 7, 3) := by decide +kernel
theorem dX8_where_77 : decode cX8_where 77 = .ok (.iconst 1, 1) := by decide +kernel
theorem dX8_where_78 : decode cX8_where 78 = .ok (.goto 4, 3) := by decide +kernel
theorem dX8_where_81 : decode cX8_where 81 = .ok (.iconst 0, 1) := by decide +kernel
theorem dX8_where_82 : decode cX8_where 82 = .ok (.if_icmp .ne 6, 3) := by decide +kernel
theorem dX8_where_85 : decode cX8_where 85 = .ok (.goto 58, 3) := by decide +kernel
theorem dX8_where_88 : decode cX8_where 88 = .ok (.aload_n 0, 1) := by decide +kernel
theorem dX8_where_89 : decode cX8_where 89 = .ok (.iload 4, 2) := by decide +kernel
theorem dX8_where_91 : decode cX8_where 91 = .ok (.invokevirtual 112, 3) := by decide +kernel
theorem dX8_where_94 : decode cX8_where 94 = .ok (.iload 5, 2) := by decide +kernel
theorem dX8_where_96 : decode cX8_where 96 = .ok (.aload_n 0, 1) := by decide +kernel
theorem dX8_where_97 : decode cX8_where 97 = .ok (.iload 4, 2) := by decide +kernel
theorem dX8_where_99 : decode cX8_where 99 = .ok (.iconst 1, 1) := by decide +kernel
theorem dX8_where_100 : decode cX8_where 100 = .ok (.iadd, 1) := by decide +kernel
theorem dX8_where_101 : decode cX8_where 101 = .ok (.invokevirtual 112, 3) := by decide +kernel
theorem dX8_where_104 : decode cX8_where 104 = .ok (.iload 6, 2) := by decide +kernel
theorem dX8_where_106 : decode cX8_where 106 = .ok (.iload_n 1, 1) := by decide +kernel
theorem dX8_where_107 : decode cX8_where 107 = .ok (.iload_n 2, 1) := by decide +kernel
theorem dX8_where_108 : decode cX8_where 108 = .ok (.invokestatic 119, 3) := by decide +kernel
theorem dX8_where_111 : decode cX8_where 111 = .ok (.istore 7, 2) := by decide +kernel
theorem dX8_where_113 : decode cX8_where 113 = .ok (.iload 6, 2) := by decide +kernel
theorem dX8_where_115 : decode cX8_where 115 = .ok (.iload 5, 2) := by decide +kernel
theorem dX8_where_117 : decode cX8_where 117 = .ok (.if_icmp .le 11, 3) := by decide +kernel
theorem dX8_where_120 : decode cX8_where 120 = .ok (.iload 7, 2) := by decide +kernel
theorem dX8_where_122 : decode cX8_where 122 = .ok (.ifCond .le 21, 3) := by decide +kernel
theorem dX8_where_125 : decode cX8_where 125 = .ok (.goto 8, 3) := by decide +kernel
theorem dX8_where_128 : decode cX8_where 128 = .ok (.iload 7, 2) := by decide +kernel
theorem dX8_where_130 : decode cX8_where 130 = .ok (.ifCond .ge 13, 3) := by decide +kernel
theorem dX8_where_133 : decode cX8_where 133 = .ok (.iload_n 3, 1) := by decide +kernel
theorem dX8_where_134 : decode cX8_where 134 = .ok (.ifCond .ne 7, 3) := by decide +kernel
theorem dX8_where_137 : decode cX8_where 137 = .ok (.iconst 1, 1) := by decide +kernel
theorem dX8_where_138 : decode cX8_where 138 = .ok (.goto 4, 3) := by decide +kernel
theorem dX8_where_141 : decode cX8_where 141 = .ok (.iconst 0, 1) := by decide +kernel
theorem dX8_where_142 : decode cX8_where 142 = .ok (.istore_n 3, 1) := by decide +kernel
theorem dX8_where_143 : decode cX8_where 143 = .ok (.iinc 4 1, 3) := by decide +kernel
theorem dX8_where_146 : decode cX8_where 146 = .ok (.goto (-113), 3) := by decide +kernel
theorem dX8_where_149 : decode cX8_where 149 = .ok (.iload_n 3, 1) := by decide +kernel
theorem dX8_where_150 : decode cX8_where 150 = .ok (.ifCond .eq 7, 3) := by decide +kernel
theorem dX8_where_153 : decode cX8_where 153 = .ok (.iconst 2, 1) := by decide +kernel
theorem dX8_where_154 : decode cX8_where 154 = .ok (.goto 4, 3) := by decide +kernel
theorem dX8_where_157 : decode cX8_where 157 = .ok (.iconst 0, 1) := by decide +kernel
theorem dX8_where_158 : decode cX8_where 158 = .ok (.ireturn, 1) := by decide +kernel
set_option maxRecDepth 20000 in
theorem ggX8_within_X8_isPlace : GoodIn wsX8_within wsX8_isPlace := goodIn_r _ [6, 7, 8, 5, 9] (by decide +kernel) (by decide +kernel)
set_option maxRecDepth 20000 in
theorem gX8_within_X8_isPlace : GoodIn wsX8_within (va_wsS RX8 80 yX8_isPlace wsX8_isPlace) := goodIn_app (goodIn_of _ (by decide +kernel)) ggX8_within_X8_isPlace
set_option maxRecDepth 20000 in
theorem ggX8_within_X8_found : GoodIn wsX8_within wsX8_found := goodIn_r _ [13, 14, 47, 48, 49, 50, 51, 52, 53, 54, 55, 56, 57, 58, 59, 60, 61, 62, 63, 64, 65, 66, 67, 68, 69] (by decide +kernel) (by decide +kernel)
set_option maxRecDepth 20000 in
theorem gX8_within_X8_found : GoodIn wsX8_within (wsV RX8 69 RX8 yX8_found wsX8_found) := goodIn_app (goodIn_of _ (by decide +kernel)) ggX8_within_X8_found
set_option maxRecDepth 20000 in
theorem ggX8_within_X8_isSimple : GoodIn wsX8_within wsX8_isSimple := goodIn_r _ [18, 19, 20, 21, 5, 22, 23, 24, 25, 26, 27, 28, 29, 30, 31, 32, 33, 34, 35, 36, 37, 38, 39, 40, 41, 42, 47, 48, 49, 50, 51, 52, 53, 54, 55, 56, 57, 58, 59, 60, 61, 62, 63, 64, 65, 66, 67, 68, 69] (by decide +kernel) (by decide +kernel)
set_option maxRecDepth 20000 in
theorem gX8_within_X8_isSimple : GoodIn wsX8_within (wsV RX8 129 RX8 yX8_isSimple wsX8_isSimple) := goodIn_app (goodIn_of _ (by decide +kernel)) ggX8_within_X8_isSimple
set_option maxRecDepth 20000 in
theorem ggX8_within_X8_where : GoodIn wsX8_within wsX8_where := goodIn_r _ [46, 19, 20, 21, 5, 22, 23, 32, 33, 34, 35, 24, 25, 26, 27, 28, 29, 30, 31, 36, 37, 38, 47, 48, 49, 50, 51, 52, 53, 54, 55, 56, 57, 58, 59, 60, 61, 62, 63, 64, 65, 66, 67, 68, 69] (by decide +kernel) (by decide +kernel)
set_option maxRecDepth 20000 in
theorem gX8_within_X8_where : GoodIn wsX8_within (wsV RX8 135 RX8 yX8_where wsX8_where) := goodIn_app (goodIn_of _ (by decide +kernel)) ggX8_within_X8_where
theorem dX8_within_0 : decode cX8_within 0 = .ok (.iload_n 1, 1) := by decide +kernel
theorem dX8_within_1 : decode cX8_within 1 = .ok (.iload_n 2, 1) := by decide +kernel
theorem dX8_within_2 : decode cX8_within 2 = .ok (.invokestatic 80, 3) := by decide +kernel
theorem dX8_within_5 : decode cX8_within 5 = .ok (.ifCond .ne 10, 3) := by decide +kernel
theorem dX8_within_8 : decode cX8_within 8 = .ok (.aload_n 0, 1) := by decide +kernel
theorem dX8_within_9 : decode cX8_within 9 = .ok (.ldc 68, 2) := by decide +kernel
theorem dX8_within_11 : decode cX8_within 11 = .ok (.invokevirtual 69, 3) := by decide +kernel
theorem dX8_within_14 : decode cX8_within 14 = .ok (.ireturn, 1) := by decide +kernel
theorem dX8_within_15 : decode cX8_within 15 = .ok (.aload_n 0, 1) := by decide +kernel
theorem dX8_within_16 : decode cX8_within 16 = .ok (.invokevirtual 129, 3) := by decide +kernel
theorem dX8_within_19 : decode cX8_within 19 = .ok (.ifCond .eq 12, 3) := by decide +kernel
theorem dX8_within_22 : decode cX8_within 22 = .ok (.aload_n 0, 1) := by decide +kernel
theorem dX8_within_23 : decode cX8_within 23 = .ok (.iload_n 1, 1) := by decide +kernel
theorem dX8_within_24 : decode cX8_within 24 = .ok (.iload_n 2, 1) := by decide +kernel
theorem dX8_within_25 : decode cX8_within 25 = .ok (.invokevirtual 135, 3) := by decide +kernel
theorem dX8_within_28 : decode cX8_within 28 = .ok (.goto 9, 3) := by decide +kernel
theorem dX8_within_31 : decode cX8_within 31 = .ok (.aload_n 0, 1) := by decide +kernel
theorem dX8_within_32 : decode cX8_within 32 = .ok (.ldc 138, 2) := by decide +kernel
theorem dX8_within_34 : decode cX8_within 34 = .ok (.invokevirtual 69, 3) := by decide +kernel
theorem dX8_within_37 : decode cX8_within 37 = .ok (.ireturn, 1) := by decide +kernel
set_option maxRecDepth 20000 in
theorem ggX8_follow_X8_xOf : GoodIn wsX8_follow wsX8_xOf := goodIn_r _ [8, 9, 10, 11, 12, 7, 13, 30, 31, 32, 33, 34, 35, 36, 37, 38, 39, 40, 41, 42, 43, 44, 45, 46, 47, 48, 49, 50, 51, 52] (by decide +kernel) (by decide +kernel)
set_option maxRecDepth 20000 in
theorem gX8_follow_X8_xOf : GoodIn wsX8_follow (wsV RX8 112 RX8 yX8_xOf wsX8_xOf) := goodIn_app (goodIn_of _ (by decide +kernel)) ggX8_follow_X8_xOf
set_option maxRecDepth 20000 in
theorem ggX8_follow_X8_yOf : GoodIn wsX8_follow wsX8_yOf := goodIn_r _ [17, 9, 10, 11, 12, 7, 13, 30, 31, 32, 33, 34, 35, 36, 37, 38, 39, 40, 41, 42, 43, 44, 45, 46, 47, 48, 49, 50, 51, 52] (by decide +kernel) (by decide +kernel)
set_option maxRecDepth 20000 in
theorem gX8_follow_X8_yOf : GoodIn wsX8_follow (wsV RX8 115 RX8 yX8_yOf wsX8_yOf) := goodIn_app (goodIn_of _ (by decide +kernel)) ggX8_follow_X8_yOf
set_option maxRecDepth 20000 in
theorem ggX8_follow_X8_get : GoodIn wsX8_follow wsX8_get := goodIn_r _ [21, 9, 30, 31, 32, 33, 34, 35, 36, 37, 38, 39, 40, 41, 42, 43, 44, 45, 46, 47, 48, 49, 50, 51, 52] (by decide +kernel) (by decide +kernel)
set_option maxRecDepth 20000 in
theorem gX8_follow_X8_get : GoodIn wsX8_follow (wsV RX8 76 RX8 yX8_get wsX8_get) := goodIn_app (goodIn_of _ (by decide +kernel)) ggX8_follow_X8_get
set_option maxRecDepth 20000 in
theorem ggX8_follow_X8_slopeAt : GoodIn wsX8_follow wsX8_slopeAt := goodIn_r _ [25, 18, 19, 20, 7, 21, 9, 30, 31, 32, 33, 34, 35, 36, 37, 38, 39, 40, 41, 42, 43, 44, 45, 46, 47, 48, 49, 50, 51, 52] (by decide +kernel) (by decide +kernel)
set_option maxRecDepth 20000 in
theorem gX8_follow_X8_slopeAt : GoodIn wsX8_follow (wsV RX8 88 RX8 yX8_slopeAt wsX8_slopeAt) := goodIn_app (goodIn_of _ (by decide +kernel)) ggX8_follow_X8_slopeAt
set_option maxRecDepth 20000 in
theorem ggX8_follow_X8_speedAt : GoodIn wsX8_follow wsX8_speedAt := goodIn_r _ [29, 18, 19, 20, 7, 21, 9, 30, 31, 32, 33, 34, 35, 36, 37, 38, 39, 40, 41, 42, 43, 44, 45, 46, 47, 48, 49, 50, 51, 52] (by decide +kernel) (by decide +kernel)
set_option maxRecDepth 20000 in
theorem gX8_follow_X8_speedAt : GoodIn wsX8_follow (wsV RX8 84 RX8 yX8_speedAt wsX8_speedAt) := goodIn_app (goodIn_of _ (by decide +kernel)) ggX8_follow_X8_speedAt
theorem dX8_follow_0 : decode cX8_follow 0 = .ok (.aload_n 0, 1) := by decide +kernel
theorem dX8_follow_1 : decode cX8_follow 1 = .ok (.iload_n 1, 1) := by decide +kernel
theorem dX8_follow_2 : decode cX8_follow 2 = .ok (.invokevirtual 112, 3) := by decide +kernel
theorem dX8_follow_5 : decode cX8_follow 5 = .ok (.istore_n 3, 1) := by decide +kernel
theorem dX8_follow_6 : decode cX8_follow 6 = .ok (.aload_n 0, 1) := by decide +kernel
theorem dX8_follow_7 : decode cX8_follow 7 = .ok (.iload_n 1, 1) := by decide +kernel
theorem dX8_follow_8 : decode cX8_follow 8 = .ok (.invokevirtual 115, 3) := by decide +kernel
theorem dX8_follow_11 : decode cX8_follow 11 = .ok (.istore 4, 2) := by decide +kernel
theorem dX8_follow_13 : decode cX8_follow 13 = .ok (.aload_n 0, 1) := by decide +kernel
theorem dX8_follow_14 : decode cX8_follow 14 = .ok (.iload_n 1, 1) := by decide +kernel
theorem dX8_follow_15 : decode cX8_follow 15 = .ok (.iconst 1, 1) := by decide +kernel
theorem dX8_follow_16 : decode cX8_follow 16 = .ok (.iadd, 1) := by decide +kernel
theorem dX8_follow_17 : decode cX8_follow 17 = .ok (.invokevirtual 112, 3) := by decide +kernel
theorem dX8_follow_20 : decode cX8_follow 20 = .ok (.iload_n 3, 1) := by decide +kernel
theorem dX8_follow_21 : decode cX8_follow 21 = .ok (.isub, 1) := by decide +kernel
theorem dX8_follow_22 : decode cX8_follow 22 = .ok (.istore 5, 2) := by decide +kernel
theorem dX8_follow_24 : decode cX8_follow 24 = .ok (.aload_n 0, 1) := by decide +kernel
theorem dX8_follow_25 : decode cX8_follow 25 = .ok (.iload_n 1, 1) := by decide +kernel
theorem dX8_follow_26 : decode cX8_follow 26 = .ok (.iconst 1, 1) := by decide +kernel
theorem dX8_follow_27 : decode cX8_follow 27 = .ok (.iadd, 1) := by decide +kernel
theorem dX8_follow_28 : decode cX8_follow 28 = .ok (.invokevirtual 115, 3) := by decide +kernel
theorem dX8_follow_31 : decode cX8_follow 31 = .ok (.iload 4, 2) := by decide +kernel
theorem dX8_follow_33 : decode cX8_follow 33 = .ok (.isub, 1) := by decide +kernel
theorem dX8_follow_34 : decode cX8_follow 34 = .ok (.istore 6, 2) := by decide +kernel
theorem dX8_follow_36 : decode cX8_follow 36 = .ok (.aload_n 0, 1) := by decide +kernel
theorem dX8_follow_37 : decode cX8_follow 37 = .ok (.aload_n 0, 1) := by decide +kernel
theorem dX8_follow_38 : decode cX8_follow 38 = .ok (.iload_n 2, 1) := by decide +kernel
theorem dX8_follow_39 : decode cX8_follow 39 = .ok (.iconst 3, 1) := by decide +kernel
theorem dX8_follow_40 : decode cX8_follow 40 = .ok (.invokevirtual 76, 3) := by decide +kernel
theorem dX8_follow_43 : decode cX8_follow 43 = .ok (.iload 5, 2) := by decide +kernel
theorem dX8_follow_45 : decode cX8_follow 45 = .ok (.imul, 1) := by decide +kernel
theorem dX8_follow_46 : decode cX8_follow 46 = .ok (.iload 5, 2) := by decide +kernel
theorem dX8_follow_48 : decode cX8_follow 48 = .ok (.imul, 1) := by decide +kernel
theorem dX8_follow_49 : decode cX8_follow 49 = .ok (.aload_n 0, 1) := by decide +kernel
theorem dX8_follow_50 : decode cX8_follow 50 = .ok (.iload_n 2, 1) := by decide +kernel
theorem dX8_follow_51 : decode cX8_follow 51 = .ok (.iconst 4, 1) := by decide +kernel
theorem dX8_follow_52 : decode cX8_follow 52 = .ok (.invokevirtual 76, 3) := by decide +kernel
theorem dX8_follow_55 : decode cX8_follow 55 = .ok (.iload 5, 2) := by decide +kernel
theorem dX8_follow_57 : decode cX8_follow 57 = .ok (.imul, 1) := by decide +kernel
theorem dX8_follow_58 : decode cX8_follow 58 = .ok (.iload 6, 2) := by decide +kernel
theorem dX8_follow_60 : decode cX8_follow 60 = .ok (.imul, 1) := by decide +kernel
theorem dX8_follow_61 : decode cX8_follow 61 = .ok (.iadd, 1) := by decide +kernel
theorem dX8_follow_62 : decode cX8_follow 62 = .ok (.aload_n 0, 1) := by decide +kernel
theorem dX8_follow_63 : decode cX8_follow 63 = .ok (.iload_n 2, 1) := by decide +kernel
theorem dX8_follow_64 : decode cX8_follow 64 = .ok (.iconst 5, 1) := by decide +kernel
theorem dX8_follow_65 : decode cX8_follow 65 = .ok (.invokevirtual 76, 3) := by decide +kernel
theorem dX8_follow_68 : decode cX8_follow 68 = .ok (.iload 6, 2) := by decide +kernel
theorem dX8_follow_70 : decode cX8_follow 70 = .ok (.imul, 1) := by decide +kernel
theorem dX8_follow_71 : decode cX8_follow 71 = .ok (.iload 6, 2) := by decide +kernel
theorem dX8_follow_73 : decode cX8_follow 73 = .ok (.imul, 1) := by decide +kernel
theorem dX8_follow_74 : decode cX8_follow 74 = .ok (.iadd, 1) := by decide +kernel
theorem dX8_follow_75 : decode cX8_follow 75 = .ok (.i2l, 1) := by decide +kernel
theorem dX8_follow_76 : decode cX8_follow 76 = .ok (.putfield 139, 3) := by decide +kernel
theorem dX8_follow_79 : decode cX8_follow 79 = .ok (.aload_n 0, 1) := by decide +kernel
theorem dX8_follow_80 : decode cX8_follow 80 = .ok (.aload_n 0, 1) := by decide +kernel
theorem dX8_follow_81 : decode cX8_follow 81 = .ok (.iload_n 3, 1) := by decide +kernel
theorem dX8_follow_82 : decode cX8_follow 82 = .ok (.iload 4, 2) := by decide +kernel
theorem dX8_follow_84 : decode cX8_follow 84 = .ok (.iload_n 2, 1) := by decide +kernel
theorem dX8_follow_85 : decode cX8_follow 85 = .ok (.iconst 0, 1) := by decide +kernel
theorem dX8_follow_86 : decode cX8_follow 86 = .ok (.invokevirtual 88, 3) := by decide +kernel
theorem dX8_follow_89 : decode cX8_follow 89 = .ok (.iload 5, 2) := by decide +kernel
theorem dX8_follow_91 : decode cX8_follow 91 = .ok (.imul, 1) := by decide +kernel
theorem dX8_follow_92 : decode cX8_follow 92 = .ok (.aload_n 0, 1) := by decide +kernel
theorem dX8_follow_93 : decode cX8_follow 93 = .ok (.iload_n 3, 1) := by decide +kernel
theorem dX8_follow_94 : decode cX8_follow 94 = .ok (.iload 4, 2) := by decide +kernel
theorem dX8_follow_96 : decode cX8_follow 96 = .ok (.iload_n 2, 1) := by decide +kernel
theorem dX8_follow_97 : decode cX8_follow 97 = .ok (.iconst 1, 1) := by decide +kernel
theorem dX8_follow_98 : decode cX8_follow 98 = .ok (.invokevirtual 88, 3) := by decide +kernel
theorem dX8_follow_101 : decode cX8_follow 101 = .ok (.iload 6, 2) := by decide +kernel
theorem dX8_follow_103 : decode cX8_follow 103 = .ok (.imul, 1) := by decide +kernel
theorem dX8_follow_104 : decode cX8_follow 104 = .ok (.iadd, 1) := by decide +kernel
theorem dX8_follow_105 : decode cX8_follow 105 = .ok (.i2l, 1) := by decide +kernel
theorem dX8_follow_106 : decode cX8_follow 106 = .ok (.putfield 143, 3) := by decide +kernel
theorem dX8_follow_109 : decode cX8_follow 109 = .ok (.aload_n 0, 1) := by decide +kernel
theorem dX8_follow_110 : decode cX8_follow 110 = .ok (.aload_n 0, 1) := by decide +kernel
theorem dX8_follow_111 : decode cX8_follow 111 = .ok (.iload_n 3, 1) := by decide +kernel
theorem dX8_follow_112 : decode cX8_follow 112 = .ok (.iload 4, 2) := by decide +kernel
theorem dX8_follow_114 : decode cX8_follow 114 = .ok (.iload_n 2, 1) := by decide +kernel
theorem dX8_follow_115 : decode cX8_follow 115 = .ok (.invokevirtual 84, 3) := by decide +kernel
theorem dX8_follow_118 : decode cX8_follow 118 = .ok (.i2l, 1) := by decide +kernel
theorem dX8_follow_119 : decode cX8_follow 119 = .ok (.putfield 146, 3) := by decide +kernel
theorem dX8_follow_122 : decode cX8_follow 122 = .ok (.return_, 1) := by decide +kernel
set_option maxRecDepth 20000 in
theorem ggX8_cross_X8_xOf : GoodIn wsX8_cross wsX8_xOf := goodIn_r _ [8, 9, 10, 11, 12, 7, 13, 34, 35, 36, 37, 38, 39, 40, 41, 42, 43, 44, 45, 46, 47, 48, 49, 50, 51, 52, 53, 54, 55, 56] (by decide +kernel) (by decide +kernel)
set_option maxRecDepth 20000 in
theorem gX8_cross_X8_xOf : GoodIn wsX8_cross (wsV RX8 112 RX8 yX8_xOf wsX8_xOf) := goodIn_app (goodIn_of _ (by decide +kernel)) ggX8_cross_X8_xOf
set_option maxRecDepth 20000 in
theorem ggX8_cross_X8_yOf : GoodIn wsX8_cross wsX8_yOf := goodIn_r _ [17, 9, 10, 11, 12, 7, 13, 34, 35, 36, 37, 38, 39, 40, 41, 42, 43, 44, 45, 46, 47, 48, 49, 50, 51, 52, 53, 54, 55, 56] (by decide +kernel) (by decide +kernel)
set_option maxRecDepth 20000 in
theorem gX8_cross_X8_yOf : GoodIn wsX8_cross (wsV RX8 115 RX8 yX8_yOf wsX8_yOf) := goodIn_app (goodIn_of _ (by decide +kernel)) ggX8_cross_X8_yOf
set_option maxRecDepth 20000 in
theorem ggX8_cross_X8_follow : GoodIn wsX8_cross wsX8_follow := goodIn_r _ [21, 1, 2, 3, 4, 5, 6, 7, 8, 9, 10, 11, 12, 13, 14, 15, 16, 17, 22, 23, 24, 25, 26, 27, 28, 29, 30, 31, 32, 33, 34, 35, 36, 37, 38, 39, 40, 41, 42, 43, 44, 45, 46, 47, 48, 49, 50, 51, 52, 53, 54, 55, 56] (by decide +kernel) (by decide +kernel)
set_option maxRecDepth 20000 in
theorem gX8_cross_X8_follow : GoodIn wsX8_cross (wsV RX8 149 RX8 yX8_follow wsX8_follow) := goodIn_app (goodIn_of _ (by decide +kernel)) ggX8_cross_X8_follow
theorem dX8_cross_0 : decode cX8_cross 0 = .ok (.aload_n 0, 1) := by decide +kernel
theorem dX8_cross_1 : decode cX8_cross 1 = .ok (.iload_n 1, 1) := by decide +kernel
theorem dX8_cross_2 : decode cX8_cross 2 = .ok (.iconst 1, 1) := by decide +kernel
theorem dX8_cross_3 : decode cX8_cross 3 = .ok (.iadd, 1) := by decide +kernel
theorem dX8_cross_4 : decode cX8_cross 4 = .ok (.invokevirtual 112, 3) := by decide +kernel
theorem dX8_cross_7 : decode cX8_cross 7 = .ok (.aload_n 0, 1) := by decide +kernel
theorem dX8_cross_8 : decode cX8_cross 8 = .ok (.iload_n 1, 1) := by decide +kernel
theorem dX8_cross_9 : decode cX8_cross 9 = .ok (.invokevirtual 112, 3) := by decide +kernel
theorem dX8_cross_12 : decode cX8_cross 12 = .ok (.isub, 1) := by decide +kernel
theorem dX8_cross_13 : decode cX8_cross 13 = .ok (.istore_n 2, 1) := by decide +kernel
theorem dX8_cross_14 : decode cX8_cross 14 = .ok (.aload_n 0, 1) := by decide +kernel
theorem dX8_cross_15 : decode cX8_cross 15 = .ok (.iload_n 1, 1) := by decide +kernel
theorem dX8_cross_16 : decode cX8_cross 16 = .ok (.iconst 1, 1) := by decide +kernel
theorem dX8_cross_17 : decode cX8_cross 17 = .ok (.iadd, 1) := by decide +kernel
theorem dX8_cross_18 : decode cX8_cross 18 = .ok (.invokevirtual 115, 3) := by decide +kernel
theorem dX8_cross_21 : decode cX8_cross 21 = .ok (.aload_n 0, 1) := by decide +kernel
theorem dX8_cross_22 : decode cX8_cross 22 = .ok (.iload_n 1, 1) := by decide +kernel
theorem dX8_cross_23 : decode cX8_cross 23 = .ok (.invokevirtual 115, 3) := by decide +kernel
theorem dX8_cross_26 : decode cX8_cross 26 = .ok (.isub, 1) := by decide +kernel
theorem dX8_cross_27 : decode cX8_cross 27 = .ok (.istore_n 3, 1) := by decide +kernel
theorem dX8_cross_28 : decode cX8_cross 28 = .ok (.aload_n 0, 1) := by decide +kernel
theorem dX8_cross_29 : decode cX8_cross 29 = .ok (.iload_n 1, 1) := by decide +kernel
theorem dX8_cross_30 : decode cX8_cross 30 = .ok (.iconst 0, 1) := by decide +kernel
theorem dX8_cross_31 : decode cX8_cross 31 = .ok (.invokevirtual 149, 3) := by decide +kernel
theorem dX8_cross_34 : decode cX8_cross 34 = .ok (.aload_n 0, 1) := by decide +kernel
theorem dX8_cross_35 : decode cX8_cross 35 = .ok (.getfield 139, 3) := by decide +kernel
theorem dX8_cross_38 : decode cX8_cross 38 = .ok (.lstore 4, 2) := by decide +kernel
theorem dX8_cross_40 : decode cX8_cross 40 = .ok (.aload_n 0, 1) := by decide +kernel
theorem dX8_cross_41 : decode cX8_cross 41 = .ok (.getfield 143, 3) := by decide +kernel
theorem dX8_cross_44 : decode cX8_cross 44 = .ok (.lstore 6, 2) := by decide +kernel
theorem dX8_cross_46 : decode cX8_cross 46 = .ok (.aload_n 0, 1) := by decide +kernel
theorem dX8_cross_47 : decode cX8_cross 47 = .ok (.getfield 146, 3) := by decide +kernel
theorem dX8_cross_50 : decode cX8_cross 50 = .ok (.lstore 8, 2) := by decide +kernel
theorem dX8_cross_52 : decode cX8_cross 52 = .ok (.aload_n 0, 1) := by decide +kernel
theorem dX8_cross_53 : decode cX8_cross 53 = .ok (.iload_n 1, 1) := by decide +kernel
theorem dX8_cross_54 : decode cX8_cross 54 = .ok (.iconst 1, 1) := by decide +kernel
theorem dX8_cross_55 : decode cX8_cross 55 = .ok (.invokevirtual 149, 3) := by decide +kernel
theorem dX8_cross_58 : decode cX8_cross 58 = .ok (.aload_n 0, 1) := by decide +kernel
theorem dX8_cross_59 : decode cX8_cross 59 = .ok (.iload_n 2, 1) := by decide +kernel
theorem dX8_cross_60 : decode cX8_cross 60 = .ok (.i2l, 1) := by decide +kernel
theorem dX8_cross_61 : decode cX8_cross 61 = .ok (.aload_n 0, 1) := by decide +kernel
theorem dX8_cross_62 : decode cX8_cross 62 = .ok (.getfield 139, 3) := by decide +kernel
theorem dX8_cross_65 : decode cX8_cross 65 = .ok (.lmul, 1) := by decide +kernel
theorem dX8_cross_66 : decode cX8_cross 66 = .ok (.iload_n 3, 1) := by decide +kernel
theorem dX8_cross_67 : decode cX8_cross 67 = .ok (.i2l, 1) := by decide +kernel
theorem dX8_cross_68 : decode cX8_cross 68 = .ok (.lload 4, 2) := by decide +kernel
theorem dX8_cross_70 : decode cX8_cross 70 = .ok (.lmul, 1) := by decide +kernel
theorem dX8_cross_71 : decode cX8_cross 71 = .ok (.lsub, 1) := by decide +kernel
theorem dX8_cross_72 : decode cX8_cross 72 = .ok (.putfield 139, 3) := by decide +kernel
theorem dX8_cross_75 : decode cX8_cross 75 = .ok (.aload_n 0, 1) := by decide +kernel
theorem dX8_cross_76 : decode cX8_cross 76 = .ok (.iload_n 2, 1) := by decide +kernel
theorem dX8_cross_77 : decode cX8_cross 77 = .ok (.i2l, 1) := by decide +kernel
theorem dX8_cross_78 : decode cX8_cross 78 = .ok (.aload_n 0, 1) := by decide +kernel
theorem dX8_cross_79 : decode cX8_cross 79 = .ok (.getfield 143, 3) := by decide +kernel
theorem dX8_cross_82 : decode cX8_cross 82 = .ok (.lmul, 1) := by decide +kernel
theorem dX8_cross_83 : decode cX8_cross 83 = .ok (.iload_n 3, 1) := by decide +kernel
theorem dX8_cross_84 : decode cX8_cross 84 = .ok (.i2l, 1) := by decide +kernel
theorem dX8_cross_85 : decode cX8_cross 85 = .ok (.lload 6, 2) := by decide +kernel
theorem dX8_cross_87 : decode cX8_cross 87 = .ok (.lmul, 1) := by decide +kernel
theorem dX8_cross_88 : decode cX8_cross 88 = .ok (.lsub, 1) := by decide +kernel
theorem dX8_cross_89 : decode cX8_cross 89 = .ok (.putfield 143, 3) := by decide +kernel
theorem dX8_cross_92 : decode cX8_cross 92 = .ok (.aload_n 0, 1) := by decide +kernel
theorem dX8_cross_93 : decode cX8_cross 93 = .ok (.iload_n 2, 1) := by decide +kernel
theorem dX8_cross_94 : decode cX8_cross 94 = .ok (.i2l, 1) := by decide +kernel
theorem dX8_cross_95 : decode cX8_cross 95 = .ok (.aload_n 0, 1) := by decide +kernel
theorem dX8_cross_96 : decode cX8_cross 96 = .ok (.getfield 146, 3) := by decide +kernel
theorem dX8_cross_99 : decode cX8_cross 99 = .ok (.lmul, 1) := by decide +kernel
theorem dX8_cross_100 : decode cX8_cross 100 = .ok (.iload_n 3, 1) := by decide +kernel
theorem dX8_cross_101 : decode cX8_cross 101 = .ok (.i2l, 1) := by decide +kernel
theorem dX8_cross_102 : decode cX8_cross 102 = .ok (.lload 8, 2) := by decide +kernel
theorem dX8_cross_104 : decode cX8_cross 104 = .ok (.lmul, 1) := by decide +kernel
theorem dX8_cross_105 : decode cX8_cross 105 = .ok (.lsub, 1) := by decide +kernel
theorem dX8_cross_106 : decode cX8_cross 106 = .ok (.putfield 146, 3) := by decide +kernel
theorem dX8_cross_109 : decode cX8_cross 109 = .ok (.return_, 1) := by decide +kernel
theorem dX8_sign_0 : decode cX8_sign 0 = .ok (.lload_n 0, 1) := by decide +kernel
theorem dX8_sign_1 : decode cX8_sign 1 = .ok (.lconst 0, 1) := by decide +kernel
theorem dX8_sign_2 : decode cX8_sign 2 = .ok (.lcmp, 1) := by decide +kernel
theorem dX8_sign_3 : decode cX8_sign 3 = .ok (.ifCond .le 7, 3) := by decide +kernel
theorem dX8_sign_6 : decode cX8_sign 6 = .ok (.iconst 1, 1) := by decide +kernel
theorem dX8_sign_7 : decode cX8_sign 7 = .ok (.goto 14, 3) := by decide +kernel
theorem dX8_sign_10 : decode cX8_sign 10 = .ok (.lload_n 0, 1) := by decide +kernel
theorem dX8_sign_11 : decode cX8_sign 11 = .ok (.lconst 0, 1) := by decide +kernel
theorem dX8_sign_12 : decode cX8_sign 12 = .ok (.lcmp, 1) := by decide +kernel
theorem dX8_sign_13 : decode cX8_sign 13 = .ok (.ifCond .ge 7, 3) := by decide +kernel
theorem dX8_sign_16 : decode cX8_sign 16 = .ok (.iconst (-1), 1) := by decide +kernel
theorem dX8_sign_17 : decode cX8_sign 17 = .ok (.goto 4, 3) := by decide +kernel
theorem dX8_sign_20 : decode cX8_sign 20 = .ok (.iconst 0, 1) := by decide +kernel
theorem dX8_sign_21 : decode cX8_sign 21 = .ok (.ireturn, 1) := by decide +kernel
set_option maxRecDepth 20000 in
theorem ggX8_findRoots_X8_sign : GoodIn wsX8_findRoots wsX8_sign := goodIn_r _ [11] (by decide +kernel) (by decide +kernel)
set_option maxRecDepth 20000 in
theorem gX8_findRoots_X8_sign : GoodIn wsX8_findRoots (va_wsS RX8 160 yX8_sign wsX8_sign) := goodIn_app (goodIn_of _ (by decide +kernel)) ggX8_findRoots_X8_sign
set_option maxRecDepth 20000 in
theorem ggX8_findRoots_X8_only : GoodIn wsX8_findRoots wsX8_only := goodIn_r _ [15, 16, 1, 17, 18, 19, 20, 21, 22, 23, 24, 25, 26, 27, 28, 29, 30, 31, 32, 33, 34, 35, 36, 37, 38, 39] (by decide +kernel) (by decide +kernel)
set_option maxRecDepth 20000 in
theorem gX8_findRoots_X8_only : GoodIn wsX8_findRoots (wsV RX8 164 RX8 yX8_only wsX8_only) := goodIn_app (goodIn_of _ (by decide +kernel)) ggX8_findRoots_X8_only
theorem dX8_findRoots_0 : decode cX8_findRoots 0 = .ok (.aload_n 0, 1) := by decide +kernel
theorem dX8_findRoots_1 : decode cX8_findRoots 1 = .ok (.iconst 0, 1) := by decide +kernel
theorem dX8_findRoots_2 : decode cX8_findRoots 2 = .ok (.putfield 153, 3) := by decide +kernel
theorem dX8_findRoots_5 : decode cX8_findRoots 5 = .ok (.aload_n 0, 1) := by decide +kernel
theorem dX8_findRoots_6 : decode cX8_findRoots 6 = .ok (.iconst 0, 1) := by decide +kernel
theorem dX8_findRoots_7 : decode cX8_findRoots 7 = .ok (.putfield 156, 3) := by decide +kernel
theorem dX8_findRoots_10 : decode cX8_findRoots 10 = .ok (.aload_n 0, 1) := by decide +kernel
theorem dX8_findRoots_11 : decode cX8_findRoots 11 = .ok (.getfield 139, 3) := by decide +kernel
theorem dX8_findRoots_14 : decode cX8_findRoots 14 = .ok (.lconst 0, 1) := by decide +kernel
theorem dX8_findRoots_15 : decode cX8_findRoots 15 = .ok (.lcmp, 1) := by decide +kernel
theorem dX8_findRoots_16 : decode cX8_findRoots 16 = .ok (.ifCond .ne 41, 3) := by decide +kernel
theorem dX8_findRoots_19 : decode cX8_findRoots 19 = .ok (.aload_n 0, 1) := by decide +kernel
theorem dX8_findRoots_20 : decode cX8_findRoots 20 = .ok (.getfield 143, 3) := by decide +kernel
theorem dX8_findRoots_23 : decode cX8_findRoots 23 = .ok (.lconst 0, 1) := by decide +kernel
theorem dX8_findRoots_24 : decode cX8_findRoots 24 = .ok (.lcmp, 1) := by decide +kernel
theorem dX8_findRoots_25 : decode cX8_findRoots 25 = .ok (.ifCond .eq 31, 3) := by decide +kernel
theorem dX8_findRoots_28 : decode cX8_findRoots 28 = .ok (.aload_n 0, 1) := by decide +kernel
theorem dX8_findRoots_29 : decode cX8_findRoots 29 = .ok (.getfield 146, 3) := by decide +kernel
theorem dX8_findRoots_32 : decode cX8_findRoots 32 = .ok (.invokestatic 160, 3) := by decide +kernel
theorem dX8_findRoots_35 : decode cX8_findRoots 35 = .ok (.aload_n 0, 1) := by decide +kernel
theorem dX8_findRoots_36 : decode cX8_findRoots 36 = .ok (.getfield 143, 3) := by decide +kernel
theorem dX8_findRoots_39 : decode cX8_findRoots 39 = .ok (.aload_n 0, 1) := by decide +kernel
theorem dX8_findRoots_40 : decode cX8_findRoots 40 = .ok (.getfield 146, 3) := by decide +kernel
theorem dX8_findRoots_43 : decode cX8_findRoots 43 = .ok (.ladd, 1) := by decide +kernel
theorem dX8_findRoots_44 : decode cX8_findRoots 44 = .ok (.invokestatic 160, 3) := by decide +kernel
theorem dX8_findRoots_47 : decode cX8_findRoots 47 = .ok (.imul, 1) := by decide +kernel
theorem dX8_findRoots_48 : decode cX8_findRoots 48 = .ok (.ifCond .ge 8, 3) := by decide +kernel
theorem dX8_findRoots_51 : decode cX8_findRoots 51 = .ok (.aload_n 0, 1) := by decide +kernel
theorem dX8_findRoots_52 : decode cX8_findRoots 52 = .ok (.iconst 2, 1) := by decide +kernel
theorem dX8_findRoots_53 : decode cX8_findRoots 53 = .ok (.invokevirtual 164, 3) := by decide +kernel
theorem dX8_findRoots_56 : decode cX8_findRoots 56 = .ok (.return_, 1) := by decide +kernel
theorem dX8_findRoots_57 : decode cX8_findRoots 57 = .ok (.aload_n 0, 1) := by decide +kernel
theorem dX8_findRoots_58 : decode cX8_findRoots 58 = .ok (.getfield 143, 3) := by decide +kernel
theorem dX8_findRoots_61 : decode cX8_findRoots 61 = .ok (.aload_n 0, 1) := by decide +kernel
theorem dX8_findRoots_62 : decode cX8_findRoots 62 = .ok (.getfield 143, 3) := by decide +kernel
theorem dX8_findRoots_65 : decode cX8_findRoots 65 = .ok (.lmul, 1) := by decide +kernel
theorem dX8_findRoots_66 : decode cX8_findRoots 66 = .ok (.ldc2_w 168, 3) := by decide +kernel
theorem dX8_findRoots_69 : decode cX8_findRoots 69 = .ok (.aload_n 0, 1) := by decide +kernel
theorem dX8_findRoots_70 : decode cX8_findRoots 70 = .ok (.getfield 139, 3) := by decide +kernel
theorem dX8_findRoots_73 : decode cX8_findRoots 73 = .ok (.lmul, 1) := by decide +kernel
theorem dX8_findRoots_74 : decode cX8_findRoots 74 = .ok (.aload_n 0, 1) := by decide +kernel
theorem dX8_findRoots_75 : decode cX8_findRoots 75 = .ok (.getfield 146, 3) := by decide +kernel
theorem dX8_findRoots_78 : decode cX8_findRoots 78 = .ok (.lmul, 1) := by decide +kernel
theorem dX8_findRoots_79 : decode cX8_findRoots 79 = .ok (.lsub, 1) := by decide +kernel
theorem dX8_findRoots_80 : decode cX8_findRoots 80 = .ok (.lstore_n 1, 1) := by decide +kernel
theorem dX8_findRoots_81 : decode cX8_findRoots 81 = .ok (.aload_n 0, 1) := by decide +kernel
theorem dX8_findRoots_82 : decode cX8_findRoots 82 = .ok (.getfield 139, 3) := by decide +kernel
theorem dX8_findRoots_85 : decode cX8_findRoots 85 = .ok (.invokestatic 160, 3) := by decide +kernel
theorem dX8_findRoots_88 : decode cX8_findRoots 88 = .ok (.istore_n 3, 1) := by decide +kernel
theorem dX8_findRoots_89 : decode cX8_findRoots 89 = .ok (.aload_n 0, 1) := by decide +kernel
theorem dX8_findRoots_90 : decode cX8_findRoots 90 = .ok (.getfield 143, 3) := by decide +kernel
theorem dX8_findRoots_93 : decode cX8_findRoots 93 = .ok (.lneg, 1) := by decide +kernel
theorem dX8_findRoots_94 : decode cX8_findRoots 94 = .ok (.iload_n 3, 1) := by decide +kernel
theorem dX8_findRoots_95 : decode cX8_findRoots 95 = .ok (.i2l, 1) := by decide +kernel
theorem dX8_findRoots_96 : decode cX8_findRoots 96 = .ok (.lmul, 1) := by decide +kernel
theorem dX8_findRoots_97 : decode cX8_findRoots 97 = .ok (.invokestatic 160, 3) := by decide +kernel
theorem dX8_findRoots_100 : decode cX8_findRoots 100 = .ok (.ifCond .le 33, 3) := by decide +kernel
theorem dX8_findRoots_103 : decode cX8_findRoots 103 = .ok (.aload_n 0, 1) := by decide +kernel
theorem dX8_findRoots_104 : decode cX8_findRoots 104 = .ok (.getfield 143, 3) := by decide +kernel
theorem dX8_findRoots_107 : decode cX8_findRoots 107 = .ok (.lneg, 1) := by decide +kernel
theorem dX8_findRoots_108 : decode cX8_findRoots 108 = .ok (.iload_n 3, 1) := by decide +kernel
theorem dX8_findRoots_109 : decode cX8_findRoots 109 = .ok (.i2l, 1) := by decide +kernel
theorem dX8_findRoots_110 : decode cX8_findRoots 110 = .ok (.lmul, 1) := by decide +kernel
theorem dX8_findRoots_111 : decode cX8_findRoots 111 = .ok (.ldc2_w 170, 3) := by decide +kernel
theorem dX8_findRoots_114 : decode cX8_findRoots 114 = .ok (.aload_n 0, 1) := by decide +kernel
theorem dX8_findRoots_115 : decode cX8_findRoots 115 = .ok (.getfield 139, 3) := by decide +kernel
theorem dX8_findRoots_118 : decode cX8_findRoots 118 = .ok (.lmul, 1) := by decide +kernel
theorem dX8_findRoots_119 : decode cX8_findRoots 119 = .ok (.iload_n 3, 1) := by decide +kernel
theorem dX8_findRoots_120 : decode cX8_findRoots 120 = .ok (.i2l, 1) := by decide +kernel
theorem dX8_findRoots_121 : decode cX8_findRoots 121 = .ok (.lmul, 1) := by decide +kernel
theorem dX8_findRoots_122 : decode cX8_findRoots 122 = .ok (.lsub, 1) := by decide +kernel
theorem dX8_findRoots_123 : decode cX8_findRoots 123 = .ok (.invokestatic 160, 3) := by decide +kernel
theorem dX8_findRoots_126 : decode cX8_findRoots 126 = .ok (.ifCond .ge 7, 3) := by decide +kernel
theorem dX8_findRoots_129 : decode cX8_findRoots 129 = .ok (.iconst 1, 1) := by decide +kernel
theorem dX8_findRoots_130 : decode cX8_findRoots 130 = .ok (.goto 4, 3) := by decide +kernel
theorem dX8_findRoots_133 : decode cX8_findRoots 133 = .ok (.iconst 0, 1) := by decide +kernel
theorem dX8_findRoots_134 : decode cX8_findRoots 134 = .ok (.istore 4, 2) := by decide +kernel
theorem dX8_findRoots_136 : decode cX8_findRoots 136 = .ok (.lload_n 1, 1) := by decide +kernel
theorem dX8_findRoots_137 : decode cX8_findRoots 137 = .ok (.lconst 0, 1) := by decide +kernel
theorem dX8_findRoots_138 : decode cX8_findRoots 138 = .ok (.lcmp, 1) := by decide +kernel
theorem dX8_findRoots_139 : decode cX8_findRoots 139 = .ok (.ifCond .ne 20, 3) := by decide +kernel
theorem dX8_findRoots_142 : decode cX8_findRoots 142 = .ok (.aload_n 0, 1) := by decide +kernel
theorem dX8_findRoots_143 : decode cX8_findRoots 143 = .ok (.iload 4, 2) := by decide +kernel
theorem dX8_findRoots_145 : decode cX8_findRoots 145 = .ok (.putfield 156, 3) := by decide +kernel
theorem dX8_findRoots_148 : decode cX8_findRoots 148 = .ok (.iload 4, 2) := by decide +kernel
theorem dX8_findRoots_150 : decode cX8_findRoots 150 = .ok (.ifCond .eq 8, 3) := by decide +kernel
theorem dX8_findRoots_153 : decode cX8_findRoots 153 = .ok (.aload_n 0, 1) := by decide +kernel
theorem dX8_findRoots_154 : decode cX8_findRoots 154 = .ok (.iconst 2, 1) := by decide +kernel
theorem dX8_findRoots_155 : decode cX8_findRoots 155 = .ok (.invokevirtual 164, 3) := by decide +kernel
theorem dX8_findRoots_158 : decode cX8_findRoots 158 = .ok (.return_, 1) := by decide +kernel
theorem dX8_findRoots_159 : decode cX8_findRoots 159 = .ok (.lload_n 1, 1) := by decide +kernel
theorem dX8_findRoots_160 : decode cX8_findRoots 160 = .ok (.lconst 0, 1) := by decide +kernel
theorem dX8_findRoots_161 : decode cX8_findRoots 161 = .ok (.lcmp, 1) := by decide +kernel
theorem dX8_findRoots_162 : decode cX8_findRoots 162 = .ok (.ifCond .ge 4, 3) := by decide +kernel
theorem dX8_findRoots_165 : decode cX8_findRoots 165 = .ok (.return_, 1) := by decide +kernel
theorem dX8_findRoots_166 : decode cX8_findRoots 166 = .ok (.aload_n 0, 1) := by decide +kernel
theorem dX8_findRoots_167 : decode cX8_findRoots 167 = .ok (.getfield 146, 3) := by decide +kernel
theorem dX8_findRoots_170 : decode cX8_findRoots 170 = .ok (.invokestatic 160, 3) := by decide +kernel
theorem dX8_findRoots_173 : decode cX8_findRoots 173 = .ok (.iload_n 3, 1) := by decide +kernel
theorem dX8_findRoots_174 : decode cX8_findRoots 174 = .ok (.imul, 1) := by decide +kernel
theorem dX8_findRoots_175 : decode cX8_findRoots 175 = .ok (.istore 5, 2) := by decide +kernel
theorem dX8_findRoots_177 : decode cX8_findRoots 177 = .ok (.aload_n 0, 1) := by decide +kernel
theorem dX8_findRoots_178 : decode cX8_findRoots 178 = .ok (.getfield 139, 3) := by decide +kernel
theorem dX8_findRoots_181 : decode cX8_findRoots 181 = .ok (.aload_n 0, 1) := by decide +kernel
theorem dX8_findRoots_182 : decode cX8_findRoots 182 = .ok (.getfield 143, 3) := by decide +kernel
theorem dX8_findRoots_185 : decode cX8_findRoots 185 = .ok (.ladd, 1) := by decide +kernel
theorem dX8_findRoots_186 : decode cX8_findRoots 186 = .ok (.aload_n 0, 1) := by decide +kernel
theorem dX8_findRoots_187 : decode cX8_findRoots 187 = .ok (.getfield 146, 3) := by decide +kernel
theorem dX8_findRoots_190 : decode cX8_findRoots 190 = .ok (.ladd, 1) := by decide +kernel
theorem dX8_findRoots_191 : decode cX8_findRoots 191 = .ok (.invokestatic 160, 3) := by decide +kernel
theorem dX8_findRoots_194 : decode cX8_findRoots 194 = .ok (.iload_n 3, 1) := by decide +kernel
theorem dX8_findRoots_195 : decode cX8_findRoots 195 = .ok (.imul, 1) := by decide +kernel
theorem dX8_findRoots_196 : decode cX8_findRoots 196 = .ok (.istore 6, 2) := by decide +kernel
theorem dX8_findRoots_198 : decode cX8_findRoots 198 = .ok (.iload 5, 2) := by decide +kernel
theorem dX8_findRoots_200 : decode cX8_findRoots 200 = .ok (.ifCond .le 31, 3) := by decide +kernel
theorem dX8_findRoots_203 : decode cX8_findRoots 203 = .ok (.aload_n 0, 1) := by decide +kernel
theorem dX8_findRoots_204 : decode cX8_findRoots 204 = .ok (.getfield 143, 3) := by decide +kernel
theorem dX8_findRoots_207 : decode cX8_findRoots 207 = .ok (.lneg, 1) := by decide +kernel
theorem dX8_findRoots_208 : decode cX8_findRoots 208 = .ok (.iload_n 3, 1) := by decide +kernel
theorem dX8_findRoots_209 : decode cX8_findRoots 209 = .ok (.i2l, 1) := by decide +kernel
theorem dX8_findRoots_210 : decode cX8_findRoots 210 = .ok (.lmul, 1) := by decide +kernel
theorem dX8_findRoots_211 : decode cX8_findRoots 211 = .ok (.invokestatic 160, 3) := by decide +kernel
theorem dX8_findRoots_214 : decode cX8_findRoots 214 = .ok (.ifCond .le 17, 3) := by decide +kernel
theorem dX8_findRoots_217 : decode cX8_findRoots 217 = .ok (.iload 6, 2) := by decide +kernel
theorem dX8_findRoots_219 : decode cX8_findRoots 219 = .ok (.ifCond .lt 8, 3) := by decide +kernel
theorem dX8_findRoots_222 : decode cX8_findRoots 222 = .ok (.iload 4, 2) := by decide +kernel
theorem dX8_findRoots_224 : decode cX8_findRoots 224 = .ok (.ifCond .eq 7, 3) := by decide +kernel
theorem dX8_findRoots_227 : decode cX8_findRoots 227 = .ok (.iconst 1, 1) := by decide +kernel
theorem dX8_findRoots_228 : decode cX8_findRoots 228 = .ok (.goto 4, 3) := by decide +kernel
theorem dX8_findRoots_231 : decode cX8_findRoots 231 = .ok (.iconst 0, 1) := by decide +kernel
theorem dX8_findRoots_232 : decode cX8_findRoots 232 = .ok (.istore 7, 2) := by decide +kernel
theorem dX8_findRoots_234 : decode cX8_findRoots 234 = .ok (.iload 6, 2) := by decide +kernel
theorem dX8_findRoots_236 : decode cX8_findRoots 236 = .ok (.ifCond .le 52, 3) := by decide +kernel
theorem dX8_findRoots_239 : decode cX8_findRoots 239 = .ok (.aload_n 0, 1) := by decide +kernel
theorem dX8_findRoots_240 : decode cX8_findRoots 240 = .ok (.getfield 143, 3) := by decide +kernel
theorem dX8_findRoots_243 : decode cX8_findRoots 243 = .ok (.lneg, 1) := by decide +kernel
theorem dX8_findRoots_244 : decode cX8_findRoots 244 = .ok (.iload_n 3, 1) := by decide +kernel
theorem dX8_findRoots_245 : decode cX8_findRoots 245 = .ok (.i2l, 1) := by decide +kernel
theorem dX8_findRoots_246 : decode cX8_findRoots 246 = .ok (.lmul, 1) := by decide +kernel
theorem dX8_findRoots_247 : decode cX8_findRoots 247 = .ok (.ldc2_w 170, 3) := by decide +kernel
theorem dX8_findRoots_250 : decode cX8_findRoots 250 = .ok (.aload_n 0, 1) := by decide +kernel
theorem dX8_findRoots_251 : decode cX8_findRoots 251 = .ok (.getfield 139, 3) := by decide +kernel
theorem dX8_findRoots_254 : decode cX8_findRoots 254 = .ok (.lmul, 1) := by decide +kernel
theorem dX8_findRoots_255 : decode cX8_findRoots 255 = .ok (.iload_n 3, 1) := by decide +kernel
theorem dX8_findRoots_256 : decode cX8_findRoots 256 = .ok (.i2l, 1) := by decide +kernel
theorem dX8_findRoots_257 : decode cX8_findRoots 257 = .ok (.lmul, 1) := by decide +kernel
theorem dX8_findRoots_258 : decode cX8_findRoots 258 = .ok (.lsub, 1) := by decide +kernel
theorem dX8_findRoots_259 : decode cX8_findRoots 259 = .ok (.invokestatic 160, 3) := by decide +kernel
theorem dX8_findRoots_262 : decode cX8_findRoots 262 = .ok (.ifCond .ge 26, 3) := by decide +kernel
theorem dX8_findRoots_265 : decode cX8_findRoots 265 = .ok (.iload 5, 2) := by decide +kernel
theorem dX8_findRoots_267 : decode cX8_findRoots 267 = .ok (.ifCond .lt 17, 3) := by decide +kernel
theorem dX8_findRoots_270 : decode cX8_findRoots 270 = .ok (.aload_n 0, 1) := by decide +kernel
theorem dX8_findRoots_271 : decode cX8_findRoots 271 = .ok (.getfield 143, 3) := by decide +kernel
theorem dX8_findRoots_274 : decode cX8_findRoots 274 = .ok (.lneg, 1) := by decide +kernel
theorem dX8_findRoots_275 : decode cX8_findRoots 275 = .ok (.iload_n 3, 1) := by decide +kernel
theorem dX8_findRoots_276 : decode cX8_findRoots 276 = .ok (.i2l, 1) := by decide +kernel
theorem dX8_findRoots_277 : decode cX8_findRoots 277 = .ok (.lmul, 1) := by decide +kernel
theorem dX8_findRoots_278 : decode cX8_findRoots 278 = .ok (.invokestatic 160, 3) := by decide +kernel
theorem dX8_findRoots_281 : decode cX8_findRoots 281 = .ok (.ifCond .le 7, 3) := by decide +kernel
theorem dX8_findRoots_284 : decode cX8_findRoots 284 = .ok (.iconst 1, 1) := by decide +kernel
theorem dX8_findRoots_285 : decode cX8_findRoots 285 = .ok (.goto 4, 3) := by decide +kernel
theorem dX8_findRoots_288 : decode cX8_findRoots 288 = .ok (.iconst 0, 1) := by decide +kernel
theorem dX8_findRoots_289 : decode cX8_findRoots 289 = .ok (.istore 8, 2) := by decide +kernel
theorem dX8_findRoots_291 : decode cX8_findRoots 291 = .ok (.iload 7, 2) := by decide +kernel
theorem dX8_findRoots_293 : decode cX8_findRoots 293 = .ok (.ifCond .eq 8, 3) := by decide +kernel
theorem dX8_findRoots_296 : decode cX8_findRoots 296 = .ok (.aload_n 0, 1) := by decide +kernel
theorem dX8_findRoots_297 : decode cX8_findRoots 297 = .ok (.iconst 0, 1) := by decide +kernel
theorem dX8_findRoots_298 : decode cX8_findRoots 298 = .ok (.invokevirtual 164, 3) := by decide +kernel
theorem dX8_findRoots_301 : decode cX8_findRoots 301 = .ok (.iload 8, 2) := by decide +kernel
theorem dX8_findRoots_303 : decode cX8_findRoots 303 = .ok (.ifCond .eq 8, 3) := by decide +kernel
theorem dX8_findRoots_306 : decode cX8_findRoots 306 = .ok (.aload_n 0, 1) := by decide +kernel
theorem dX8_findRoots_307 : decode cX8_findRoots 307 = .ok (.iconst 1, 1) := by decide +kernel
theorem dX8_findRoots_308 : decode cX8_findRoots 308 = .ok (.invokevirtual 164, 3) := by decide +kernel
theorem dX8_findRoots_311 : decode cX8_findRoots 311 = .ok (.return_, 1) := by decide +kernel
theorem dX8_only_0 : decode cX8_only 0 = .ok (.aload_n 0, 1) := by decide +kernel
theorem dX8_only_1 : decode cX8_only 1 = .ok (.getfield 38, 3) := by decide +kernel
theorem dX8_only_4 : decode cX8_only 4 = .ok (.aload_n 0, 1) := by decide +kernel
theorem dX8_only_5 : decode cX8_only 5 = .ok (.getfield 153, 3) := by decide +kernel
theorem dX8_only_8 : decode cX8_only 8 = .ok (.iload_n 1, 1) := by decide +kernel
theorem dX8_only_9 : decode cX8_only 9 = .ok (.iastore, 1) := by decide +kernel
theorem dX8_only_10 : decode cX8_only 10 = .ok (.aload_n 0, 1) := by decide +kernel
theorem dX8_only_11 : decode cX8_only 11 = .ok (.dup, 1) := by decide +kernel
theorem dX8_only_12 : decode cX8_only 12 = .ok (.getfield 153, 3) := by decide +kernel
theorem dX8_only_15 : decode cX8_only 15 = .ok (.iconst 1, 1) := by decide +kernel
theorem dX8_only_16 : decode cX8_only 16 = .ok (.iadd, 1) := by decide +kernel
theorem dX8_only_17 : decode cX8_only 17 = .ok (.putfield 153, 3) := by decide +kernel
theorem dX8_only_20 : decode cX8_only 20 = .ok (.return_, 1) := by decide +kernel
set_option maxRecDepth 20000 in
theorem ggX8_turns_X8_corners : GoodIn wsX8_turns wsX8_corners := goodIn_r _ [7, 8, 68, 69, 70, 71, 72, 73, 74, 75, 76, 77, 78, 79, 80, 81, 82, 83, 84, 85, 86, 87, 88, 89, 90] (by decide +kernel) (by decide +kernel)
set_option maxRecDepth 20000 in
theorem gX8_turns_X8_corners : GoodIn wsX8_turns (wsV RX8 108 RX8 yX8_corners wsX8_corners) := goodIn_app (goodIn_of _ (by decide +kernel)) ggX8_turns_X8_corners
set_option maxRecDepth 20000 in
theorem ggX8_turns_X8_in : GoodIn wsX8_turns wsX8_in := goodIn_r _ [11] (by decide +kernel) (by decide +kernel)
set_option maxRecDepth 20000 in
theorem gX8_turns_X8_in : GoodIn wsX8_turns (va_wsS RX8 61 yX8_in wsX8_in) := goodIn_app (goodIn_of _ (by decide +kernel)) ggX8_turns_X8_in
set_option maxRecDepth 20000 in
theorem ggX8_turns_X8_found : GoodIn wsX8_turns wsX8_found := goodIn_r _ [15, 16, 68, 69, 70, 71, 72, 73, 74, 75, 76, 77, 78, 79, 80, 81, 82, 83, 84, 85, 86, 87, 88, 89, 90] (by decide +kernel) (by decide +kernel)
set_option maxRecDepth 20000 in
theorem gX8_turns_X8_found : GoodIn wsX8_turns (wsV RX8 69 RX8 yX8_found wsX8_found) := goodIn_app (goodIn_of _ (by decide +kernel)) ggX8_turns_X8_found
set_option maxRecDepth 20000 in
theorem ggX8_turns_X8_xOf : GoodIn wsX8_turns wsX8_xOf := goodIn_r _ [20, 8, 3, 4, 5, 6, 7, 68, 69, 70, 71, 72, 73, 74, 75, 76, 77, 78, 79, 80, 81, 82, 83, 84, 85, 86, 87, 88, 89, 90] (by decide +kernel) (by decide +kernel)
set_option maxRecDepth 20000 in
theorem gX8_turns_X8_xOf : GoodIn wsX8_turns (wsV RX8 112 RX8 yX8_xOf wsX8_xOf) := goodIn_app (goodIn_of _ (by decide +kernel)) ggX8_turns_X8_xOf
set_option maxRecDepth 20000 in
theorem ggX8_turns_X8_yOf : GoodIn wsX8_turns wsX8_yOf := goodIn_r _ [24, 8, 3, 4, 5, 6, 7, 68, 69, 70, 71, 72, 73, 74, 75, 76, 77, 78, 79, 80, 81, 82, 83, 84, 85, 86, 87, 88, 89, 90] (by decide +kernel) (by decide +kernel)
set_option maxRecDepth 20000 in
theorem gX8_turns_X8_yOf : GoodIn wsX8_turns (wsV RX8 115 RX8 yX8_yOf wsX8_yOf) := goodIn_app (goodIn_of _ (by decide +kernel)) ggX8_turns_X8_yOf
set_option maxRecDepth 20000 in
theorem ggX8_turns_X8_zeros : GoodIn wsX8_turns wsX8_zeros := goodIn_r _ [28, 29, 30, 31, 32, 33, 34, 35, 6, 36, 17, 18, 19, 20, 8, 3, 4, 5, 7, 21, 22, 23, 24, 37, 38, 39, 40, 41, 42, 43, 44, 45, 46, 47, 48, 49, 50, 51, 52, 53, 54, 55, 56, 57, 58, 59, 60, 61, 62, 63, 64, 65, 66, 67, 68, 69, 70, 71, 72, 73, 74, 75, 76, 77, 78, 79, 80, 81, 82, 83, 84, 85, 86, 87, 88, 89, 90] (by decide +kernel) (by decide +kernel)
set_option maxRecDepth 20000 in
theorem gX8_turns_X8_zeros : GoodIn wsX8_turns (wsV RX8 172 RX8 yX8_zeros wsX8_zeros) := goodIn_app (goodIn_of _ (by decide +kernel)) ggX8_turns_X8_zeros
theorem dX8_turns_0 : decode cX8_turns 0 = .ok (.iload_n 1, 1) := by decide +kernel
theorem dX8_turns_1 : decode cX8_turns 1 = .ok (.iconst 0, 1) := by decide +kernel
theorem dX8_turns_2 : decode cX8_turns 2 = .ok (.aload_n 0, 1) := by decide +kernel
theorem dX8_turns_3 : decode cX8_turns 3 = .ok (.invokevirtual 108, 3) := by decide +kernel
theorem dX8_turns_6 : decode cX8_turns 6 = .ok (.iconst 1, 1) := by decide +kernel
theorem dX8_turns_7 : decode cX8_turns 7 = .ok (.isub, 1) := by decide +kernel
theorem dX8_turns_8 : decode cX8_turns 8 = .ok (.invokestatic 61, 3) := by decide +kernel
theorem dX8_turns_11 : decode cX8_turns 11 = .ok (.ifCond .ne 10, 3) := by decide +kernel
theorem dX8_turns_14 : decode cX8_turns 14 = .ok (.aload_n 0, 1) := by decide +kernel
theorem dX8_turns_15 : decode cX8_turns 15 = .ok (.ldc 68, 2) := by decide +kernel
theorem dX8_turns_17 : decode cX8_turns 17 = .ok (.invokevirtual 69, 3) := by decide +kernel
theorem dX8_turns_20 : decode cX8_turns 20 = .ok (.ireturn, 1) := by decide +kernel
theorem dX8_turns_21 : decode cX8_turns 21 = .ok (.aload_n 0, 1) := by decide +kernel
theorem dX8_turns_22 : decode cX8_turns 22 = .ok (.iload_n 1, 1) := by decide +kernel
theorem dX8_turns_23 : decode cX8_turns 23 = .ok (.invokevirtual 112, 3) := by decide +kernel
theorem dX8_turns_26 : decode cX8_turns 26 = .ok (.aload_n 0, 1) := by decide +kernel
theorem dX8_turns_27 : decode cX8_turns 27 = .ok (.iload_n 1, 1) := by decide +kernel
theorem dX8_turns_28 : decode cX8_turns 28 = .ok (.iconst 1, 1) := by decide +kernel
theorem dX8_turns_29 : decode cX8_turns 29 = .ok (.iadd, 1) := by decide +kernel
theorem dX8_turns_30 : decode cX8_turns 30 = .ok (.invokevirtual 112, 3) := by decide +kernel
theorem dX8_turns_33 : decode cX8_turns 33 = .ok (.if_icmp .ne 25, 3) := by decide +kernel
theorem dX8_turns_36 : decode cX8_turns 36 = .ok (.aload_n 0, 1) := by decide +kernel
theorem dX8_turns_37 : decode cX8_turns 37 = .ok (.iload_n 1, 1) := by decide +kernel
theorem dX8_turns_38 : decode cX8_turns 38 = .ok (.invokevirtual 115, 3) := by decide +kernel
theorem dX8_turns_41 : decode cX8_turns 41 = .ok (.aload_n 0, 1) := by decide +kernel
theorem dX8_turns_42 : decode cX8_turns 42 = .ok (.iload_n 1, 1) := by decide +kernel
theorem dX8_turns_43 : decode cX8_turns 43 = .ok (.iconst 1, 1) := by decide +kernel
theorem dX8_turns_44 : decode cX8_turns 44 = .ok (.iadd, 1) := by decide +kernel
theorem dX8_turns_45 : decode cX8_turns 45 = .ok (.invokevirtual 115, 3) := by decide +kernel
theorem dX8_turns_48 : decode cX8_turns 48 = .ok (.if_icmp .ne 10, 3) := by decide +kernel
theorem dX8_turns_51 : decode cX8_turns 51 = .ok (.aload_n 0, 1) := by decide +kernel
theorem dX8_turns_52 : decode cX8_turns 52 = .ok (.ldc 99, 2) := by decide +kernel
theorem dX8_turns_54 : decode cX8_turns 54 = .ok (.invokevirtual 69, 3) := by decide +kernel
theorem dX8_turns_57 : decode cX8_turns 57 = .ok (.ireturn, 1) := by decide +kernel
theorem dX8_turns_58 : decode cX8_turns 58 = .ok (.aload_n 0, 1) := by decide +kernel
theorem dX8_turns_59 : decode cX8_turns 59 = .ok (.iload_n 1, 1) := by decide +kernel
theorem dX8_turns_60 : decode cX8_turns 60 = .ok (.invokevirtual 172, 3) := by decide +kernel
theorem dX8_turns_63 : decode cX8_turns 63 = .ok (.ireturn, 1) := by decide +kernel
set_option maxRecDepth 20000 in
theorem ggX8_zeros_X8_cross : GoodIn wsX8_zeros wsX8_cross := goodIn_r _ [9, 1, 2, 3, 10, 11, 12, 8, 13, 14, 15, 16, 17, 18, 19, 20, 21, 22, 23, 24, 25, 26, 27, 28, 29, 30, 31, 32, 33, 34, 35, 36, 37, 38, 54, 55, 56, 57, 58, 59, 60, 61, 62, 63, 64, 65, 66, 67, 68, 69, 70, 71, 72, 73, 74, 75, 76] (by decide +kernel) (by decide +kernel)
set_option maxRecDepth 20000 in
theorem gX8_zeros_X8_cross : GoodIn wsX8_zeros (wsV RX8 175 RX8 yX8_cross wsX8_cross) := goodIn_app (goodIn_of _ (by decide +kernel)) ggX8_zeros_X8_cross
set_option maxRecDepth 20000 in
theorem ggX8_zeros_X8_findRoots : GoodIn wsX8_zeros wsX8_findRoots := goodIn_r _ [42, 4, 43, 1, 2, 3, 44, 45, 46, 47, 8, 48, 49, 50, 51, 52, 53, 54, 55, 56, 57, 58, 59, 60, 61, 62, 63, 64, 65, 66, 67, 68, 69, 70, 71, 72, 73, 74, 75, 76] (by decide +kernel) (by decide +kernel)
set_option maxRecDepth 20000 in
theorem gX8_zeros_X8_findRoots : GoodIn wsX8_zeros (wsV RX8 178 RX8 yX8_findRoots wsX8_findRoots) := goodIn_app (goodIn_of _ (by decide +kernel)) ggX8_zeros_X8_findRoots
theorem dX8_zeros_0 : decode cX8_zeros 0 = .ok (.aload_n 0, 1) := by decide +kernel
theorem dX8_zeros_1 : decode cX8_zeros 1 = .ok (.iload_n 1, 1) := by decide +kernel
theorem dX8_zeros_2 : decode cX8_zeros 2 = .ok (.invokevirtual 175, 3) := by decide +kernel
theorem dX8_zeros_5 : decode cX8_zeros 5 = .ok (.aload_n 0, 1) := by decide +kernel
theorem dX8_zeros_6 : decode cX8_zeros 6 = .ok (.getfield 139, 3) := by decide +kernel
theorem dX8_zeros_9 : decode cX8_zeros 9 = .ok (.lconst 0, 1) := by decide +kernel
theorem dX8_zeros_10 : decode cX8_zeros 10 = .ok (.lcmp, 1) := by decide +kernel
theorem dX8_zeros_11 : decode cX8_zeros 11 = .ok (.ifCond .ne 23, 3) := by decide +kernel
theorem dX8_zeros_14 : decode cX8_zeros 14 = .ok (.aload_n 0, 1) := by decide +kernel
theorem dX8_zeros_15 : decode cX8_zeros 15 = .ok (.getfield 143, 3) := by decide +kernel
theorem dX8_zeros_18 : decode cX8_zeros 18 = .ok (.lconst 0, 1) := by decide +kernel
theorem dX8_zeros_19 : decode cX8_zeros 19 = .ok (.lcmp, 1) := by decide +kernel
theorem dX8_zeros_20 : decode cX8_zeros 20 = .ok (.ifCond .ne 14, 3) := by decide +kernel
theorem dX8_zeros_23 : decode cX8_zeros 23 = .ok (.aload_n 0, 1) := by decide +kernel
theorem dX8_zeros_24 : decode cX8_zeros 24 = .ok (.getfield 146, 3) := by decide +kernel
theorem dX8_zeros_27 : decode cX8_zeros 27 = .ok (.lconst 0, 1) := by decide +kernel
theorem dX8_zeros_28 : decode cX8_zeros 28 = .ok (.lcmp, 1) := by decide +kernel
theorem dX8_zeros_29 : decode cX8_zeros 29 = .ok (.ifCond .ne 5, 3) := by decide +kernel
theorem dX8_zeros_32 : decode cX8_zeros 32 = .ok (.iconst 3, 1) := by decide +kernel
theorem dX8_zeros_33 : decode cX8_zeros 33 = .ok (.ireturn, 1) := by decide +kernel
theorem dX8_zeros_34 : decode cX8_zeros 34 = .ok (.aload_n 0, 1) := by decide +kernel
theorem dX8_zeros_35 : decode cX8_zeros 35 = .ok (.invokevirtual 178, 3) := by decide +kernel
theorem dX8_zeros_38 : decode cX8_zeros 38 = .ok (.aload_n 0, 1) := by decide +kernel
theorem dX8_zeros_39 : decode cX8_zeros 39 = .ok (.getfield 153, 3) := by decide +kernel
theorem dX8_zeros_42 : decode cX8_zeros 42 = .ok (.aload_n 0, 1) := by decide +kernel
theorem dX8_zeros_43 : decode cX8_zeros 43 = .ok (.getfield 146, 3) := by decide +kernel
theorem dX8_zeros_46 : decode cX8_zeros 46 = .ok (.lconst 0, 1) := by decide +kernel
theorem dX8_zeros_47 : decode cX8_zeros 47 = .ok (.lcmp, 1) := by decide +kernel
theorem dX8_zeros_48 : decode cX8_zeros 48 = .ok (.ifCond .ne 7, 3) := by decide +kernel
theorem dX8_zeros_51 : decode cX8_zeros 51 = .ok (.iconst 1, 1) := by decide +kernel
theorem dX8_zeros_52 : decode cX8_zeros 52 = .ok (.goto 4, 3) := by decide +kernel
theorem dX8_zeros_55 : decode cX8_zeros 55 = .ok (.iconst 0, 1) := by decide +kernel
theorem dX8_zeros_56 : decode cX8_zeros 56 = .ok (.iadd, 1) := by decide +kernel
theorem dX8_zeros_57 : decode cX8_zeros 57 = .ok (.aload_n 0, 1) := by decide +kernel
theorem dX8_zeros_58 : decode cX8_zeros 58 = .ok (.getfield 139, 3) := by decide +kernel
theorem dX8_zeros_61 : decode cX8_zeros 61 = .ok (.aload_n 0, 1) := by decide +kernel
theorem dX8_zeros_62 : decode cX8_zeros 62 = .ok (.getfield 143, 3) := by decide +kernel
theorem dX8_zeros_65 : decode cX8_zeros 65 = .ok (.ladd, 1) := by decide +kernel
theorem dX8_zeros_66 : decode cX8_zeros 66 = .ok (.aload_n 0, 1) := by decide +kernel
theorem dX8_zeros_67 : decode cX8_zeros 67 = .ok (.getfield 146, 3) := by decide +kernel
theorem dX8_zeros_70 : decode cX8_zeros 70 = .ok (.ladd, 1) := by decide +kernel
theorem dX8_zeros_71 : decode cX8_zeros 71 = .ok (.lconst 0, 1) := by decide +kernel
theorem dX8_zeros_72 : decode cX8_zeros 72 = .ok (.lcmp, 1) := by decide +kernel
theorem dX8_zeros_73 : decode cX8_zeros 73 = .ok (.ifCond .ne 7, 3) := by decide +kernel
theorem dX8_zeros_76 : decode cX8_zeros 76 = .ok (.iconst 1, 1) := by decide +kernel
theorem dX8_zeros_77 : decode cX8_zeros 77 = .ok (.goto 4, 3) := by decide +kernel
theorem dX8_zeros_80 : decode cX8_zeros 80 = .ok (.iconst 0, 1) := by decide +kernel
theorem dX8_zeros_81 : decode cX8_zeros 81 = .ok (.iadd, 1) := by decide +kernel
theorem dX8_zeros_82 : decode cX8_zeros 82 = .ok (.ireturn, 1) := by decide +kernel
set_option maxRecDepth 20000 in
theorem ggX8_acrossOf_X8_zeros : GoodIn wsX8_acrossOf wsX8_zeros := goodIn_r _ [6, 7, 8, 1, 9, 10, 11, 12, 5, 13, 14, 15, 16, 17, 18, 19, 20, 21, 22, 23, 24, 25, 26, 27, 28, 29, 30, 31, 32, 33, 34, 35, 36, 37, 38, 39, 40, 41, 42, 43, 44, 45, 46, 47, 48, 49, 50, 51, 52, 53, 54, 55, 56, 57, 58, 59, 60, 61, 62, 63, 64, 65, 66, 67, 68, 69, 70, 71, 72, 73, 74, 75, 76, 77, 78, 79, 80] (by decide +kernel) (by decide +kernel)
set_option maxRecDepth 20000 in
theorem gX8_acrossOf_X8_zeros : GoodIn wsX8_acrossOf (wsV RX8 172 RX8 yX8_zeros wsX8_zeros) := goodIn_app (goodIn_of _ (by decide +kernel)) ggX8_acrossOf_X8_zeros
set_option maxRecDepth 20000 in
theorem ggX8_acrossOf_X8_sign : GoodIn wsX8_acrossOf wsX8_sign := goodIn_r _ [52] (by decide +kernel) (by decide +kernel)
set_option maxRecDepth 20000 in
theorem gX8_acrossOf_X8_sign : GoodIn wsX8_acrossOf (va_wsS RX8 160 yX8_sign wsX8_sign) := goodIn_app (goodIn_of _ (by decide +kernel)) ggX8_acrossOf_X8_sign
theorem dX8_acrossOf_0 : decode cX8_acrossOf 0 = .ok (.aload_n 0, 1) := by decide +kernel
theorem dX8_acrossOf_1 : decode cX8_acrossOf 1 = .ok (.iload_n 1, 1) := by decide +kernel
theorem dX8_acrossOf_2 : decode cX8_acrossOf 2 = .ok (.invokevirtual 172, 3) := by decide +kernel
theorem dX8_acrossOf_5 : decode cX8_acrossOf 5 = .ok (.ifCond .le 7, 3) := by decide +kernel
theorem dX8_acrossOf_8 : decode cX8_acrossOf 8 = .ok (.iconst 0, 1) := by decide +kernel
theorem dX8_acrossOf_9 : decode cX8_acrossOf 9 = .ok (.goto 10, 3) := by decide +kernel
theorem dX8_acrossOf_12 : decode cX8_acrossOf 12 = .ok (.aload_n 0, 1) := by decide +kernel
theorem dX8_acrossOf_13 : decode cX8_acrossOf 13 = .ok (.getfield 146, 3) := by decide +kernel
theorem dX8_acrossOf_16 : decode cX8_acrossOf 16 = .ok (.invokestatic 160, 3) := by decide +kernel
theorem dX8_acrossOf_19 : decode cX8_acrossOf 19 = .ok (.ireturn, 1) := by decide +kernel
set_option maxRecDepth 20000 in
theorem ggX8_across_X8_corners : GoodIn wsX8_across wsX8_corners := goodIn_r _ [7, 8, 72, 73, 74, 75, 76, 77, 78, 79, 80, 81, 82, 83, 84, 85, 86, 87, 88, 89, 90, 91, 92, 93, 94] (by decide +kernel) (by decide +kernel)
set_option maxRecDepth 20000 in
theorem gX8_across_X8_corners : GoodIn wsX8_across (wsV RX8 108 RX8 yX8_corners wsX8_corners) := goodIn_app (goodIn_of _ (by decide +kernel)) ggX8_across_X8_corners
set_option maxRecDepth 20000 in
theorem ggX8_across_X8_in : GoodIn wsX8_across wsX8_in := goodIn_r _ [11] (by decide +kernel) (by decide +kernel)
set_option maxRecDepth 20000 in
theorem gX8_across_X8_in : GoodIn wsX8_across (va_wsS RX8 61 yX8_in wsX8_in) := goodIn_app (goodIn_of _ (by decide +kernel)) ggX8_across_X8_in
set_option maxRecDepth 20000 in
theorem ggX8_across_X8_found : GoodIn wsX8_across wsX8_found := goodIn_r _ [15, 16, 72, 73, 74, 75, 76, 77, 78, 79, 80, 81, 82, 83, 84, 85, 86, 87, 88, 89, 90, 91, 92, 93, 94] (by decide +kernel) (by decide +kernel)
set_option maxRecDepth 20000 in
theorem gX8_across_X8_found : GoodIn wsX8_across (wsV RX8 69 RX8 yX8_found wsX8_found) := goodIn_app (goodIn_of _ (by decide +kernel)) ggX8_across_X8_found
set_option maxRecDepth 20000 in
theorem ggX8_across_X8_xOf : GoodIn wsX8_across wsX8_xOf := goodIn_r _ [20, 8, 3, 4, 5, 6, 7, 72, 73, 74, 75, 76, 77, 78, 79, 80, 81, 82, 83, 84, 85, 86, 87, 88, 89, 90, 91, 92, 93, 94] (by decide +kernel) (by decide +kernel)
set_option maxRecDepth 20000 in
theorem gX8_across_X8_xOf : GoodIn wsX8_across (wsV RX8 112 RX8 yX8_xOf wsX8_xOf) := goodIn_app (goodIn_of _ (by decide +kernel)) ggX8_across_X8_xOf
set_option maxRecDepth 20000 in
theorem ggX8_across_X8_yOf : GoodIn wsX8_across wsX8_yOf := goodIn_r _ [24, 8, 3, 4, 5, 6, 7, 72, 73, 74, 75, 76, 77, 78, 79, 80, 81, 82, 83, 84, 85, 86, 87, 88, 89, 90, 91, 92, 93, 94] (by decide +kernel) (by decide +kernel)
set_option maxRecDepth 20000 in
theorem gX8_across_X8_yOf : GoodIn wsX8_across (wsV RX8 115 RX8 yX8_yOf wsX8_yOf) := goodIn_app (goodIn_of _ (by decide +kernel)) ggX8_across_X8_yOf
set_option maxRecDepth 20000 in
theorem ggX8_across_X8_acrossOf : GoodIn wsX8_across wsX8_acrossOf := goodIn_r _ [28, 29, 30, 31, 32, 6, 33, 34, 35, 36, 37, 38, 39, 40, 17, 18, 19, 20, 8, 3, 4, 5, 7, 21, 22, 23, 24, 41, 42, 43, 44, 45, 46, 47, 48, 49, 50, 51, 52, 53, 54, 55, 56, 57, 58, 59, 60, 61, 62, 63, 64, 65, 66, 67, 68, 69, 70, 71, 72, 73, 74, 75, 76, 77, 78, 79, 80, 81, 82, 83, 84, 85, 86, 87, 88, 89, 90, 91, 92, 93, 94] (by decide +kernel) (by decide +kernel)
set_option maxRecDepth 20000 in
theorem gX8_across_X8_acrossOf : GoodIn wsX8_across (wsV RX8 181 RX8 yX8_acrossOf wsX8_acrossOf) := goodIn_app (goodIn_of _ (by decide +kernel)) ggX8_across_X8_acrossOf
theorem dX8_across_0 : decode cX8_across 0 = .ok (.iload_n 1, 1) := by decide +kernel
theorem dX8_across_1 : decode cX8_across 1 = .ok (.iconst 0, 1) := by decide +kernel
theorem dX8_across_2 : decode cX8_across 2 = .ok (.aload_n 0, 1) := by decide +kernel
theorem dX8_across_3 : decode cX8_across 3 = .ok (.invokevirtual 108, 3) := by decide +kernel
theorem dX8_across_6 : decode cX8_across 6 = .ok (.iconst 1, 1) := by decide +kernel
theorem dX8_across_7 : decode cX8_across 7 = .ok (.isub, 1) := by decide +kernel
theorem dX8_across_8 : decode cX8_across 8 = .ok (.invokestatic 61, 3) := by decide +kernel
theorem dX8_across_11 : decode cX8_across 11 = .ok (.ifCond .ne 10, 3) := by decide +kernel
theorem dX8_across_14 : decode cX8_across 14 = .ok (.aload_n 0, 1) := by decide +kernel
theorem dX8_across_15 : decode cX8_across 15 = .ok (.ldc 68, 2) := by decide +kernel
theorem dX8_across_17 : decode cX8_across 17 = .ok (.invokevirtual 69, 3) := by decide +kernel
theorem dX8_across_20 : decode cX8_across 20 = .ok (.ireturn, 1) := by decide +kernel
theorem dX8_across_21 : decode cX8_across 21 = .ok (.aload_n 0, 1) := by decide +kernel
theorem dX8_across_22 : decode cX8_across 22 = .ok (.iload_n 1, 1) := by decide +kernel
theorem dX8_across_23 : decode cX8_across 23 = .ok (.invokevirtual 112, 3) := by decide +kernel
theorem dX8_across_26 : decode cX8_across 26 = .ok (.aload_n 0, 1) := by decide +kernel
theorem dX8_across_27 : decode cX8_across 27 = .ok (.iload_n 1, 1) := by decide +kernel
theorem dX8_across_28 : decode cX8_across 28 = .ok (.iconst 1, 1) := by decide +kernel
theorem dX8_across_29 : decode cX8_across 29 = .ok (.iadd, 1) := by decide +kernel
theorem dX8_across_30 : decode cX8_across 30 = .ok (.invokevirtual 112, 3) := by decide +kernel
theorem dX8_across_33 : decode cX8_across 33 = .ok (.if_icmp .ne 25, 3) := by decide +kernel
theorem dX8_across_36 : decode cX8_across 36 = .ok (.aload_n 0, 1) := by decide +kernel
theorem dX8_across_37 : decode cX8_across 37 = .ok (.iload_n 1, 1) := by decide +kernel
theorem dX8_across_38 : decode cX8_across 38 = .ok (.invokevirtual 115, 3) := by decide +kernel
theorem dX8_across_41 : decode cX8_across 41 = .ok (.aload_n 0, 1) := by decide +kernel
theorem dX8_across_42 : decode cX8_across 42 = .ok (.iload_n 1, 1) := by decide +kernel
theorem dX8_across_43 : decode cX8_across 43 = .ok (.iconst 1, 1) := by decide +kernel
theorem dX8_across_44 : decode cX8_across 44 = .ok (.iadd, 1) := by decide +kernel
theorem dX8_across_45 : decode cX8_across 45 = .ok (.invokevirtual 115, 3) := by decide +kernel
theorem dX8_across_48 : decode cX8_across 48 = .ok (.if_icmp .ne 10, 3) := by decide +kernel
theorem dX8_across_51 : decode cX8_across 51 = .ok (.aload_n 0, 1) := by decide +kernel
theorem dX8_across_52 : decode cX8_across 52 = .ok (.ldc 99, 2) := by decide +kernel
theorem dX8_across_54 : decode cX8_across 54 = .ok (.invokevirtual 69, 3) := by decide +kernel
theorem dX8_across_57 : decode cX8_across 57 = .ok (.ireturn, 1) := by decide +kernel
theorem dX8_across_58 : decode cX8_across 58 = .ok (.aload_n 0, 1) := by decide +kernel
theorem dX8_across_59 : decode cX8_across 59 = .ok (.iload_n 1, 1) := by decide +kernel
theorem dX8_across_60 : decode cX8_across 60 = .ok (.invokevirtual 181, 3) := by decide +kernel
theorem dX8_across_63 : decode cX8_across 63 = .ok (.ireturn, 1) := by decide +kernel
set_option maxRecDepth 20000 in
theorem ggX8_held_X8_isSimple : GoodIn wsX8_held wsX8_isSimple := goodIn_r _ [6, 7, 8, 9, 5, 10, 11, 12, 13, 14, 15, 16, 17, 18, 19, 20, 21, 22, 23, 24, 25, 26, 27, 28, 29, 30, 87, 88, 89, 90, 91, 92, 93, 94, 95, 96, 97, 98, 99, 100, 101, 102, 103, 104, 105, 106, 107, 108, 109] (by decide +kernel) (by decide +kernel)
set_option maxRecDepth 20000 in
theorem gX8_held_X8_isSimple : GoodIn wsX8_held (wsV RX8 129 RX8 yX8_isSimple wsX8_isSimple) := goodIn_app (goodIn_of _ (by decide +kernel)) ggX8_held_X8_isSimple
set_option maxRecDepth 20000 in
theorem ggX8_held_X8_areaOf : GoodIn wsX8_held wsX8_areaOf := goodIn_r _ [34, 7, 8, 9, 5, 10, 11, 12, 13, 14, 15, 16, 17, 18, 19, 87, 88, 89, 90, 91, 92, 93, 94, 95, 96, 97, 98, 99, 100, 101, 102, 103, 104, 105, 106, 107, 108, 109] (by decide +kernel) (by decide +kernel)
set_option maxRecDepth 20000 in
theorem gX8_held_X8_areaOf : GoodIn wsX8_held (wsV RX8 132 RX8 yX8_areaOf wsX8_areaOf) := goodIn_app (goodIn_of _ (by decide +kernel)) ggX8_held_X8_areaOf
set_option maxRecDepth 20000 in
theorem ggX8_held_X8_found : GoodIn wsX8_held wsX8_found := goodIn_r _ [38, 39, 87, 88, 89, 90, 91, 92, 93, 94, 95, 96, 97, 98, 99, 100, 101, 102, 103, 104, 105, 106, 107, 108, 109] (by decide +kernel) (by decide +kernel)
set_option maxRecDepth 20000 in
theorem gX8_held_X8_found : GoodIn wsX8_held (wsV RX8 69 RX8 yX8_found wsX8_found) := goodIn_app (goodIn_of _ (by decide +kernel)) ggX8_held_X8_found
set_option maxRecDepth 20000 in
theorem ggX8_held_X8_corners : GoodIn wsX8_held wsX8_corners := goodIn_r _ [10, 11, 87, 88, 89, 90, 91, 92, 93, 94, 95, 96, 97, 98, 99, 100, 101, 102, 103, 104, 105, 106, 107, 108, 109] (by decide +kernel) (by decide +kernel)
set_option maxRecDepth 20000 in
theorem gX8_held_X8_corners : GoodIn wsX8_held (wsV RX8 108 RX8 yX8_corners wsX8_corners) := goodIn_app (goodIn_of _ (by decide +kernel)) ggX8_held_X8_corners
set_option maxRecDepth 20000 in
theorem ggX8_held_X8_acrossOf : GoodIn wsX8_held wsX8_acrossOf := goodIn_r _ [43, 44, 45, 46, 47, 5, 48, 49, 50, 51, 52, 53, 54, 55, 12, 13, 14, 15, 11, 7, 8, 9, 10, 16, 17, 18, 19, 56, 57, 58, 59, 60, 61, 62, 63, 64, 65, 66, 67, 68, 69, 70, 71, 72, 73, 74, 75, 76, 77, 78, 79, 80, 81, 82, 83, 84, 85, 86, 87, 88, 89, 90, 91, 92, 93, 94, 95, 96, 97, 98, 99, 100, 101, 102, 103, 104, 105, 106, 107, 108, 109] (by decide +kernel) (by decide +kernel)
set_option maxRecDepth 20000 in
theorem gX8_held_X8_acrossOf : GoodIn wsX8_held (wsV RX8 181 RX8 yX8_acrossOf wsX8_acrossOf) := goodIn_app (goodIn_of _ (by decide +kernel)) ggX8_held_X8_acrossOf
theorem dX8_held_0 : decode cX8_held 0 = .ok (.aload_n 0, 1) := by decide +kernel
theorem dX8_held_1 : decode cX8_held 1 = .ok (.invokevirtual 129, 3) := by decide +kernel
theorem dX8_held_4 : decode cX8_held 4 = .ok (.ifCond .eq 10, 3) := by decide +kernel
theorem dX8_held_7 : decode cX8_held 7 = .ok (.aload_n 0, 1) := by decide +kernel
theorem dX8_held_8 : decode cX8_held 8 = .ok (.invokevirtual 132, 3) := by decide +kernel
theorem dX8_held_11 : decode cX8_held 11 = .ok (.ifCond .gt 10, 3) := by decide +kernel
theorem dX8_held_14 : decode cX8_held 14 = .ok (.aload_n 0, 1) := by decide +kernel
theorem dX8_held_15 : decode cX8_held 15 = .ok (.ldc 138, 2) := by decide +kernel
theorem dX8_held_17 : decode cX8_held 17 = .ok (.invokevirtual 69, 3) := by decide +kernel
theorem dX8_held_20 : decode cX8_held 20 = .ok (.ireturn, 1) := by decide +kernel
theorem dX8_held_21 : decode cX8_held 21 = .ok (.iconst 0, 1) := by decide +kernel
theorem dX8_held_22 : decode cX8_held 22 = .ok (.istore_n 2, 1) := by decide +kernel
theorem dX8_held_23 : decode cX8_held 23 = .ok (.iload_n 2, 1) := by decide +kernel
theorem dX8_held_24 : decode cX8_held 24 = .ok (.aload_n 0, 1) := by decide +kernel
theorem dX8_held_25 : decode cX8_held 25 = .ok (.invokevirtual 108, 3) := by decide +kernel
theorem dX8_held_28 : decode cX8_held 28 = .ok (.if_icmp .ge 28, 3) := by decide +kernel
theorem dX8_held_31 : decode cX8_held 31 = .ok (.aload_n 0, 1) := by decide +kernel
theorem dX8_held_32 : decode cX8_held 32 = .ok (.iload_n 2, 1) := by decide +kernel
theorem dX8_held_33 : decode cX8_held 33 = .ok (.invokevirtual 181, 3) := by decide +kernel
theorem dX8_held_36 : decode cX8_held 36 = .ok (.iload_n 1, 1) := by decide +kernel
theorem dX8_held_37 : decode cX8_held 37 = .ok (.ifCond .eq 7, 3) := by decide +kernel
theorem dX8_held_40 : decode cX8_held 40 = .ok (.iconst (-1), 1) := by decide +kernel
theorem dX8_held_41 : decode cX8_held 41 = .ok (.goto 4, 3) := by decide +kernel
theorem dX8_held_44 : decode cX8_held 44 = .ok (.iconst 1, 1) := by decide +kernel
theorem dX8_held_45 : decode cX8_held 45 = .ok (.if_icmp .eq 5, 3) := by decide +kernel
theorem dX8_held_48 : decode cX8_held 48 = .ok (.iconst 0, 1) := by decide +kernel
theorem dX8_held_49 : decode cX8_held 49 = .ok (.ireturn, 1) := by decide +kernel
theorem dX8_held_50 : decode cX8_held 50 = .ok (.iinc 2 1, 3) := by decide +kernel
theorem dX8_held_53 : decode cX8_held 53 = .ok (.goto (-30), 3) := by decide +kernel
theorem dX8_held_56 : decode cX8_held 56 = .ok (.iconst 1, 1) := by decide +kernel
theorem dX8_held_57 : decode cX8_held 57 = .ok (.ireturn, 1) := by decide +kernel
theorem dX8_note_0 : decode cX8_note 0 = .ok (.aload_n 0, 1) := by decide +kernel
theorem dX8_note_1 : decode cX8_note 1 = .ok (.getfield 41, 3) := by decide +kernel
theorem dX8_note_4 : decode cX8_note 4 = .ok (.aload_n 0, 1) := by decide +kernel
theorem dX8_note_5 : decode cX8_note 5 = .ok (.getfield 184, 3) := by decide +kernel
theorem dX8_note_8 : decode cX8_note 8 = .ok (.iload_n 1, 1) := by decide +kernel
theorem dX8_note_9 : decode cX8_note 9 = .ok (.iastore, 1) := by decide +kernel
theorem dX8_note_10 : decode cX8_note 10 = .ok (.aload_n 0, 1) := by decide +kernel
theorem dX8_note_11 : decode cX8_note 11 = .ok (.getfield 44, 3) := by decide +kernel
theorem dX8_note_14 : decode cX8_note 14 = .ok (.aload_n 0, 1) := by decide +kernel
theorem dX8_note_15 : decode cX8_note 15 = .ok (.getfield 184, 3) := by decide +kernel
theorem dX8_note_18 : decode cX8_note 18 = .ok (.iload_n 2, 1) := by decide +kernel
theorem dX8_note_19 : decode cX8_note 19 = .ok (.iastore, 1) := by decide +kernel
theorem dX8_note_20 : decode cX8_note 20 = .ok (.aload_n 0, 1) := by decide +kernel
theorem dX8_note_21 : decode cX8_note 21 = .ok (.dup, 1) := by decide +kernel
theorem dX8_note_22 : decode cX8_note 22 = .ok (.getfield 184, 3) := by decide +kernel
theorem dX8_note_25 : decode cX8_note 25 = .ok (.iconst 1, 1) := by decide +kernel
theorem dX8_note_26 : decode cX8_note 26 = .ok (.iadd, 1) := by decide +kernel
theorem dX8_note_27 : decode cX8_note 27 = .ok (.putfield 184, 3) := by decide +kernel
theorem dX8_note_30 : decode cX8_note 30 = .ok (.return_, 1) := by decide +kernel
set_option maxRecDepth 20000 in
theorem ggX8_signOfSum_X8_sign : GoodIn wsX8_signOfSum wsX8_sign := goodIn_r _ [5] (by decide +kernel) (by decide +kernel)
set_option maxRecDepth 20000 in
theorem gX8_signOfSum_X8_sign : GoodIn wsX8_signOfSum (va_wsS RX8 160 yX8_sign wsX8_sign) := goodIn_app (goodIn_of _ (by decide +kernel)) ggX8_signOfSum_X8_sign
theorem dX8_signOfSum_0 : decode cX8_signOfSum 0 = .ok (.lload_n 0, 1) := by decide +kernel
theorem dX8_signOfSum_1 : decode cX8_signOfSum 1 = .ok (.invokestatic 160, 3) := by decide +kernel
theorem dX8_signOfSum_4 : decode cX8_signOfSum 4 = .ok (.istore 6, 2) := by decide +kernel
theorem dX8_signOfSum_6 : decode cX8_signOfSum 6 = .ok (.lload 4, 2) := by decide +kernel
theorem dX8_signOfSum_8 : decode cX8_signOfSum 8 = .ok (.lconst 0, 1) := by decide +kernel
theorem dX8_signOfSum_9 : decode cX8_signOfSum 9 = .ok (.lcmp, 1) := by decide +kernel
theorem dX8_signOfSum_10 : decode cX8_signOfSum 10 = .ok (.ifCond .ne 7, 3) := by decide +kernel
theorem dX8_signOfSum_13 : decode cX8_signOfSum 13 = .ok (.iconst 0, 1) := by decide +kernel
theorem dX8_signOfSum_14 : decode cX8_signOfSum 14 = .ok (.goto 7, 3) := by decide +kernel
theorem dX8_signOfSum_17 : decode cX8_signOfSum 17 = .ok (.lload_n 2, 1) := by decide +kernel
theorem dX8_signOfSum_18 : decode cX8_signOfSum 18 = .ok (.invokestatic 160, 3) := by decide +kernel
theorem dX8_signOfSum_21 : decode cX8_signOfSum 21 = .ok (.istore 7, 2) := by decide +kernel
theorem dX8_signOfSum_23 : decode cX8_signOfSum 23 = .ok (.iload 6, 2) := by decide +kernel
theorem dX8_signOfSum_25 : decode cX8_signOfSum 25 = .ok (.ifCond .eq 15, 3) := by decide +kernel
theorem dX8_signOfSum_28 : decode cX8_signOfSum 28 = .ok (.iload 7, 2) := by decide +kernel
theorem dX8_signOfSum_30 : decode cX8_signOfSum 30 = .ok (.ifCond .eq 10, 3) := by decide +kernel
theorem dX8_signOfSum_33 : decode cX8_signOfSum 33 = .ok (.iload 6, 2) := by decide +kernel
theorem dX8_signOfSum_35 : decode cX8_signOfSum 35 = .ok (.iload 7, 2) := by decide +kernel
theorem dX8_signOfSum_37 : decode cX8_signOfSum 37 = .ok (.if_icmp .ne 16, 3) := by decide +kernel
theorem dX8_signOfSum_40 : decode cX8_signOfSum 40 = .ok (.iload 6, 2) := by decide +kernel
theorem dX8_signOfSum_42 : decode cX8_signOfSum 42 = .ok (.ifCond .ne 8, 3) := by decide +kernel
theorem dX8_signOfSum_45 : decode cX8_signOfSum 45 = .ok (.iload 7, 2) := by decide +kernel
theorem dX8_signOfSum_47 : decode cX8_signOfSum 47 = .ok (.goto 5, 3) := by decide +kernel
theorem dX8_signOfSum_50 : decode cX8_signOfSum 50 = .ok (.iload 6, 2) := by decide +kernel
theorem dX8_signOfSum_52 : decode cX8_signOfSum 52 = .ok (.ireturn, 1) := by decide +kernel
theorem dX8_signOfSum_53 : decode cX8_signOfSum 53 = .ok (.lload_n 0, 1) := by decide +kernel
theorem dX8_signOfSum_54 : decode cX8_signOfSum 54 = .ok (.lconst 0, 1) := by decide +kernel
theorem dX8_signOfSum_55 : decode cX8_signOfSum 55 = .ok (.lcmp, 1) := by decide +kernel
theorem dX8_signOfSum_56 : decode cX8_signOfSum 56 = .ok (.ifCond .ge 8, 3) := by decide +kernel
theorem dX8_signOfSum_59 : decode cX8_signOfSum 59 = .ok (.lload_n 0, 1) := by decide +kernel
theorem dX8_signOfSum_60 : decode cX8_signOfSum 60 = .ok (.lneg, 1) := by decide +kernel
theorem dX8_signOfSum_61 : decode cX8_signOfSum 61 = .ok (.goto 4, 3) := by decide +kernel
theorem dX8_signOfSum_64 : decode cX8_signOfSum 64 = .ok (.lload_n 0, 1) := by decide +kernel
theorem dX8_signOfSum_65 : decode cX8_signOfSum 65 = .ok (.lstore 8, 2) := by decide +kernel
theorem dX8_signOfSum_67 : decode cX8_signOfSum 67 = .ok (.lload_n 2, 1) := by decide +kernel
theorem dX8_signOfSum_68 : decode cX8_signOfSum 68 = .ok (.lconst 0, 1) := by decide +kernel
theorem dX8_signOfSum_69 : decode cX8_signOfSum 69 = .ok (.lcmp, 1) := by decide +kernel
theorem dX8_signOfSum_70 : decode cX8_signOfSum 70 = .ok (.ifCond .ge 8, 3) := by decide +kernel
theorem dX8_signOfSum_73 : decode cX8_signOfSum 73 = .ok (.lload_n 2, 1) := by decide +kernel
theorem dX8_signOfSum_74 : decode cX8_signOfSum 74 = .ok (.lneg, 1) := by decide +kernel
theorem dX8_signOfSum_75 : decode cX8_signOfSum 75 = .ok (.goto 4, 3) := by decide +kernel
theorem dX8_signOfSum_78 : decode cX8_signOfSum 78 = .ok (.lload_n 2, 1) := by decide +kernel
theorem dX8_signOfSum_79 : decode cX8_signOfSum 79 = .ok (.lstore 10, 2) := by decide +kernel
theorem dX8_signOfSum_81 : decode cX8_signOfSum 81 = .ok (.lload 8, 2) := by decide +kernel
theorem dX8_signOfSum_83 : decode cX8_signOfSum 83 = .ok (.lload 10, 2) := by decide +kernel
theorem dX8_signOfSum_85 : decode cX8_signOfSum 85 = .ok (.ldiv, 1) := by decide +kernel
theorem dX8_signOfSum_86 : decode cX8_signOfSum 86 = .ok (.lstore 12, 2) := by decide +kernel
theorem dX8_signOfSum_88 : decode cX8_signOfSum 88 = .ok (.lload 8, 2) := by decide +kernel
theorem dX8_signOfSum_90 : decode cX8_signOfSum 90 = .ok (.lload 10, 2) := by decide +kernel
theorem dX8_signOfSum_92 : decode cX8_signOfSum 92 = .ok (.lrem, 1) := by decide +kernel
theorem dX8_signOfSum_93 : decode cX8_signOfSum 93 = .ok (.lstore 14, 2) := by decide +kernel
theorem dX8_signOfSum_95 : decode cX8_signOfSum 95 = .ok (.lload 12, 2) := by decide +kernel
theorem dX8_signOfSum_97 : decode cX8_signOfSum 97 = .ok (.lload 12, 2) := by decide +kernel
theorem dX8_signOfSum_99 : decode cX8_signOfSum 99 = .ok (.lmul, 1) := by decide +kernel
theorem dX8_signOfSum_100 : decode cX8_signOfSum 100 = .ok (.lload 4, 2) := by decide +kernel
theorem dX8_signOfSum_102 : decode cX8_signOfSum 102 = .ok (.lcmp, 1) := by decide +kernel
theorem dX8_signOfSum_103 : decode cX8_signOfSum 103 = .ok (.ifCond .le 9, 3) := by decide +kernel
theorem dX8_signOfSum_106 : decode cX8_signOfSum 106 = .ok (.iconst 1, 1) := by decide +kernel
theorem dX8_signOfSum_107 : decode cX8_signOfSum 107 = .ok (.istore 16, 2) := by decide +kernel
theorem dX8_signOfSum_109 : decode cX8_signOfSum 109 = .ok (.goto 62, 3) := by decide +kernel
theorem dX8_signOfSum_112 : decode cX8_signOfSum 112 = .ok (.lload 12, 2) := by decide +kernel
theorem dX8_signOfSum_114 : decode cX8_signOfSum 114 = .ok (.lconst 1, 1) := by decide +kernel
theorem dX8_signOfSum_115 : decode cX8_signOfSum 115 = .ok (.ladd, 1) := by decide +kernel
theorem dX8_signOfSum_116 : decode cX8_signOfSum 116 = .ok (.lload 12, 2) := by decide +kernel
theorem dX8_signOfSum_118 : decode cX8_signOfSum 118 = .ok (.lconst 1, 1) := by decide +kernel
theorem dX8_signOfSum_119 : decode cX8_signOfSum 119 = .ok (.ladd, 1) := by decide +kernel
theorem dX8_signOfSum_120 : decode cX8_signOfSum 120 = .ok (.lmul, 1) := by decide +kernel
theorem dX8_signOfSum_121 : decode cX8_signOfSum 121 = .ok (.lload 4, 2) := by decide +kernel
theorem dX8_signOfSum_123 : decode cX8_signOfSum 123 = .ok (.lcmp, 1) := by decide +kernel
theorem dX8_signOfSum_124 : decode cX8_signOfSum 124 = .ok (.ifCond .gt 9, 3) := by decide +kernel
theorem dX8_signOfSum_127 : decode cX8_signOfSum 127 = .ok (.iconst (-1), 1) := by decide +kernel
theorem dX8_signOfSum_128 : decode cX8_signOfSum 128 = .ok (.istore 16, 2) := by decide +kernel
theorem dX8_signOfSum_130 : decode cX8_signOfSum 130 = .ok (.goto 41, 3) := by decide +kernel
theorem dX8_signOfSum_133 : decode cX8_signOfSum 133 = .ok (.lload 14, 2) := by decide +kernel
theorem dX8_signOfSum_135 : decode cX8_signOfSum 135 = .ok (.lload 14, 2) := by decide +kernel
theorem dX8_signOfSum_137 : decode cX8_signOfSum 137 = .ok (.lmul, 1) := by decide +kernel
theorem dX8_signOfSum_138 : decode cX8_signOfSum 138 = .ok (.ldc2_w 170, 3) := by decide +kernel
theorem dX8_signOfSum_141 : decode cX8_signOfSum 141 = .ok (.lload 12, 2) := by decide +kernel
theorem dX8_signOfSum_143 : decode cX8_signOfSum 143 = .ok (.lmul, 1) := by decide +kernel
theorem dX8_signOfSum_144 : decode cX8_signOfSum 144 = .ok (.lload 10, 2) := by decide +kernel
theorem dX8_signOfSum_146 : decode cX8_signOfSum 146 = .ok (.lmul, 1) := by decide +kernel
theorem dX8_signOfSum_147 : decode cX8_signOfSum 147 = .ok (.lload 14, 2) := by decide +kernel
theorem dX8_signOfSum_149 : decode cX8_signOfSum 149 = .ok (.lmul, 1) := by decide +kernel
theorem dX8_signOfSum_150 : decode cX8_signOfSum 150 = .ok (.ladd, 1) := by decide +kernel
theorem dX8_signOfSum_151 : decode cX8_signOfSum 151 = .ok (.lload 4, 2) := by decide +kernel
theorem dX8_signOfSum_153 : decode cX8_signOfSum 153 = .ok (.lload 12, 2) := by decide +kernel
theorem dX8_signOfSum_155 : decode cX8_signOfSum 155 = .ok (.lload 12, 2) := by decide +kernel
theorem dX8_signOfSum_157 : decode cX8_signOfSum 157 = .ok (.lmul, 1) := by decide +kernel
theorem dX8_signOfSum_158 : decode cX8_signOfSum 158 = .ok (.lsub, 1) := by decide +kernel
theorem dX8_signOfSum_159 : decode cX8_signOfSum 159 = .ok (.lload 10, 2) := by decide +kernel
theorem dX8_signOfSum_161 : decode cX8_signOfSum 161 = .ok (.lmul, 1) := by decide +kernel
theorem dX8_signOfSum_162 : decode cX8_signOfSum 162 = .ok (.lload 10, 2) := by decide +kernel
theorem dX8_signOfSum_164 : decode cX8_signOfSum 164 = .ok (.lmul, 1) := by decide +kernel
theorem dX8_signOfSum_165 : decode cX8_signOfSum 165 = .ok (.lsub, 1) := by decide +kernel
theorem dX8_signOfSum_166 : decode cX8_signOfSum 166 = .ok (.invokestatic 160, 3) := by decide +kernel
theorem dX8_signOfSum_169 : decode cX8_signOfSum 169 = .ok (.istore 16, 2) := by decide +kernel
theorem dX8_signOfSum_171 : decode cX8_signOfSum 171 = .ok (.iload 16, 2) := by decide +kernel
theorem dX8_signOfSum_173 : decode cX8_signOfSum 173 = .ok (.ifCond .le 8, 3) := by decide +kernel
theorem dX8_signOfSum_176 : decode cX8_signOfSum 176 = .ok (.iload 6, 2) := by decide +kernel
theorem dX8_signOfSum_178 : decode cX8_signOfSum 178 = .ok (.goto 14, 3) := by decide +kernel
theorem dX8_signOfSum_181 : decode cX8_signOfSum 181 = .ok (.iload 16, 2) := by decide +kernel
theorem dX8_signOfSum_183 : decode cX8_signOfSum 183 = .ok (.ifCond .ge 8, 3) := by decide +kernel
theorem dX8_signOfSum_186 : decode cX8_signOfSum 186 = .ok (.iload 7, 2) := by decide +kernel
theorem dX8_signOfSum_188 : decode cX8_signOfSum 188 = .ok (.goto 4, 3) := by decide +kernel
theorem dX8_signOfSum_191 : decode cX8_signOfSum 191 = .ok (.iconst 0, 1) := by decide +kernel
theorem dX8_signOfSum_192 : decode cX8_signOfSum 192 = .ok (.ireturn, 1) := by decide +kernel
set_option maxRecDepth 20000 in
theorem ggX8_signAt_X8_sign : GoodIn wsX8_signAt wsX8_sign := goodIn_r _ [9] (by decide +kernel) (by decide +kernel)
set_option maxRecDepth 20000 in
theorem gX8_signAt_X8_sign : GoodIn wsX8_signAt (va_wsS RX8 160 yX8_sign wsX8_sign) := goodIn_app (goodIn_of _ (by decide +kernel)) ggX8_signAt_X8_sign
set_option maxRecDepth 20000 in
theorem ggX8_signAt_X8_signOfSum : GoodIn wsX8_signAt wsX8_signOfSum := goodIn_r _ [12, 5, 6, 7, 8, 9] (by decide +kernel) (by decide +kernel)
set_option maxRecDepth 20000 in
theorem gX8_signAt_X8_signOfSum : GoodIn wsX8_signAt (va_wsS RX8 187 yX8_signOfSum wsX8_signOfSum) := goodIn_app (goodIn_of _ (by decide +kernel)) ggX8_signAt_X8_signOfSum
theorem dX8_signAt_0 : decode cX8_signAt 0 = .ok (.aload_n 0, 1) := by decide +kernel
theorem dX8_signAt_1 : decode cX8_signAt 1 = .ok (.getfield 139, 3) := by decide +kernel
theorem dX8_signAt_4 : decode cX8_signAt 4 = .ok (.lconst 0, 1) := by decide +kernel
theorem dX8_signAt_5 : decode cX8_signAt 5 = .ok (.lcmp, 1) := by decide +kernel
theorem dX8_signAt_6 : decode cX8_signAt 6 = .ok (.ifCond .ne 44, 3) := by decide +kernel
theorem dX8_signAt_9 : decode cX8_signAt 9 = .ok (.lload_n 2, 1) := by decide +kernel
theorem dX8_signAt_10 : decode cX8_signAt 10 = .ok (.aload_n 0, 1) := by decide +kernel
theorem dX8_signAt_11 : decode cX8_signAt 11 = .ok (.getfield 146, 3) := by decide +kernel
theorem dX8_signAt_14 : decode cX8_signAt 14 = .ok (.lmul, 1) := by decide +kernel
theorem dX8_signAt_15 : decode cX8_signAt 15 = .ok (.aload_n 0, 1) := by decide +kernel
theorem dX8_signAt_16 : decode cX8_signAt 16 = .ok (.getfield 146, 3) := by decide +kernel
theorem dX8_signAt_19 : decode cX8_signAt 19 = .ok (.lmul, 1) := by decide +kernel
theorem dX8_signAt_20 : decode cX8_signAt 20 = .ok (.lload 4, 2) := by decide +kernel
theorem dX8_signAt_22 : decode cX8_signAt 22 = .ok (.aload_n 0, 1) := by decide +kernel
theorem dX8_signAt_23 : decode cX8_signAt 23 = .ok (.getfield 143, 3) := by decide +kernel
theorem dX8_signAt_26 : decode cX8_signAt 26 = .ok (.lmul, 1) := by decide +kernel
theorem dX8_signAt_27 : decode cX8_signAt 27 = .ok (.aload_n 0, 1) := by decide +kernel
theorem dX8_signAt_28 : decode cX8_signAt 28 = .ok (.getfield 146, 3) := by decide +kernel
theorem dX8_signAt_31 : decode cX8_signAt 31 = .ok (.lmul, 1) := by decide +kernel
theorem dX8_signAt_32 : decode cX8_signAt 32 = .ok (.lsub, 1) := by decide +kernel
theorem dX8_signAt_33 : decode cX8_signAt 33 = .ok (.lload 6, 2) := by decide +kernel
theorem dX8_signAt_35 : decode cX8_signAt 35 = .ok (.aload_n 0, 1) := by decide +kernel
theorem dX8_signAt_36 : decode cX8_signAt 36 = .ok (.getfield 143, 3) := by decide +kernel
theorem dX8_signAt_39 : decode cX8_signAt 39 = .ok (.lmul, 1) := by decide +kernel
theorem dX8_signAt_40 : decode cX8_signAt 40 = .ok (.aload_n 0, 1) := by decide +kernel
theorem dX8_signAt_41 : decode cX8_signAt 41 = .ok (.getfield 143, 3) := by decide +kernel
theorem dX8_signAt_44 : decode cX8_signAt 44 = .ok (.lmul, 1) := by decide +kernel
theorem dX8_signAt_45 : decode cX8_signAt 45 = .ok (.ladd, 1) := by decide +kernel
theorem dX8_signAt_46 : decode cX8_signAt 46 = .ok (.invokestatic 160, 3) := by decide +kernel
theorem dX8_signAt_49 : decode cX8_signAt 49 = .ok (.ireturn, 1) := by decide +kernel
theorem dX8_signAt_50 : decode cX8_signAt 50 = .ok (.aload_n 0, 1) := by decide +kernel
theorem dX8_signAt_51 : decode cX8_signAt 51 = .ok (.getfield 139, 3) := by decide +kernel
theorem dX8_signAt_54 : decode cX8_signAt 54 = .ok (.lload 4, 2) := by decide +kernel
theorem dX8_signAt_56 : decode cX8_signAt 56 = .ok (.lmul, 1) := by decide +kernel
theorem dX8_signAt_57 : decode cX8_signAt 57 = .ok (.lload_n 2, 1) := by decide +kernel
theorem dX8_signAt_58 : decode cX8_signAt 58 = .ok (.aload_n 0, 1) := by decide +kernel
theorem dX8_signAt_59 : decode cX8_signAt 59 = .ok (.getfield 143, 3) := by decide +kernel
theorem dX8_signAt_62 : decode cX8_signAt 62 = .ok (.lmul, 1) := by decide +kernel
theorem dX8_signAt_63 : decode cX8_signAt 63 = .ok (.lsub, 1) := by decide +kernel
theorem dX8_signAt_64 : decode cX8_signAt 64 = .ok (.lstore 8, 2) := by decide +kernel
theorem dX8_signAt_66 : decode cX8_signAt 66 = .ok (.aload_n 0, 1) := by decide +kernel
theorem dX8_signAt_67 : decode cX8_signAt 67 = .ok (.getfield 139, 3) := by decide +kernel
theorem dX8_signAt_70 : decode cX8_signAt 70 = .ok (.lload 6, 2) := by decide +kernel
theorem dX8_signAt_72 : decode cX8_signAt 72 = .ok (.lmul, 1) := by decide +kernel
theorem dX8_signAt_73 : decode cX8_signAt 73 = .ok (.lload_n 2, 1) := by decide +kernel
theorem dX8_signAt_74 : decode cX8_signAt 74 = .ok (.aload_n 0, 1) := by decide +kernel
theorem dX8_signAt_75 : decode cX8_signAt 75 = .ok (.getfield 146, 3) := by decide +kernel
theorem dX8_signAt_78 : decode cX8_signAt 78 = .ok (.lmul, 1) := by decide +kernel
theorem dX8_signAt_79 : decode cX8_signAt 79 = .ok (.lsub, 1) := by decide +kernel
theorem dX8_signAt_80 : decode cX8_signAt 80 = .ok (.lstore 10, 2) := by decide +kernel
theorem dX8_signAt_82 : decode cX8_signAt 82 = .ok (.aload_n 0, 1) := by decide +kernel
theorem dX8_signAt_83 : decode cX8_signAt 83 = .ok (.getfield 143, 3) := by decide +kernel
theorem dX8_signAt_86 : decode cX8_signAt 86 = .ok (.aload_n 0, 1) := by decide +kernel
theorem dX8_signAt_87 : decode cX8_signAt 87 = .ok (.getfield 143, 3) := by decide +kernel
theorem dX8_signAt_90 : decode cX8_signAt 90 = .ok (.lmul, 1) := by decide +kernel
theorem dX8_signAt_91 : decode cX8_signAt 91 = .ok (.ldc2_w 168, 3) := by decide +kernel
theorem dX8_signAt_94 : decode cX8_signAt 94 = .ok (.aload_n 0, 1) := by decide +kernel
theorem dX8_signAt_95 : decode cX8_signAt 95 = .ok (.getfield 139, 3) := by decide +kernel
theorem dX8_signAt_98 : decode cX8_signAt 98 = .ok (.lmul, 1) := by decide +kernel
theorem dX8_signAt_99 : decode cX8_signAt 99 = .ok (.aload_n 0, 1) := by decide +kernel
theorem dX8_signAt_100 : decode cX8_signAt 100 = .ok (.getfield 146, 3) := by decide +kernel
theorem dX8_signAt_103 : decode cX8_signAt 103 = .ok (.lmul, 1) := by decide +kernel
theorem dX8_signAt_104 : decode cX8_signAt 104 = .ok (.lsub, 1) := by decide +kernel
theorem dX8_signAt_105 : decode cX8_signAt 105 = .ok (.lstore 12, 2) := by decide +kernel
theorem dX8_signAt_107 : decode cX8_signAt 107 = .ok (.iload_n 1, 1) := by decide +kernel
theorem dX8_signAt_108 : decode cX8_signAt 108 = .ok (.iconst 1, 1) := by decide +kernel
theorem dX8_signAt_109 : decode cX8_signAt 109 = .ok (.if_icmp .ne 7, 3) := by decide +kernel
theorem dX8_signAt_112 : decode cX8_signAt 112 = .ok (.iconst 1, 1) := by decide +kernel
theorem dX8_signAt_113 : decode cX8_signAt 113 = .ok (.goto 4, 3) := by decide +kernel
theorem dX8_signAt_116 : decode cX8_signAt 116 = .ok (.iconst 0, 1) := by decide +kernel
theorem dX8_signAt_117 : decode cX8_signAt 117 = .ok (.aload_n 0, 1) := by decide +kernel
theorem dX8_signAt_118 : decode cX8_signAt 118 = .ok (.getfield 139, 3) := by decide +kernel
theorem dX8_signAt_121 : decode cX8_signAt 121 = .ok (.lconst 0, 1) := by decide +kernel
theorem dX8_signAt_122 : decode cX8_signAt 122 = .ok (.lcmp, 1) := by decide +kernel
theorem dX8_signAt_123 : decode cX8_signAt 123 = .ok (.ifCond .le 7, 3) := by decide +kernel
theorem dX8_signAt_126 : decode cX8_signAt 126 = .ok (.iconst 1, 1) := by decide +kernel
theorem dX8_signAt_127 : decode cX8_signAt 127 = .ok (.goto 4, 3) := by decide +kernel
theorem dX8_signAt_130 : decode cX8_signAt 130 = .ok (.iconst 0, 1) := by decide +kernel
theorem dX8_signAt_131 : decode cX8_signAt 131 = .ok (.if_icmp .ne 7, 3) := by decide +kernel
theorem dX8_signAt_134 : decode cX8_signAt 134 = .ok (.iconst 1, 1) := by decide +kernel
theorem dX8_signAt_135 : decode cX8_signAt 135 = .ok (.goto 4, 3) := by decide +kernel
theorem dX8_signAt_138 : decode cX8_signAt 138 = .ok (.iconst 0, 1) := by decide +kernel
theorem dX8_signAt_139 : decode cX8_signAt 139 = .ok (.istore 14, 2) := by decide +kernel
theorem dX8_signAt_141 : decode cX8_signAt 141 = .ok (.ldc2_w 170, 3) := by decide +kernel
theorem dX8_signAt_144 : decode cX8_signAt 144 = .ok (.aload_n 0, 1) := by decide +kernel
theorem dX8_signAt_145 : decode cX8_signAt 145 = .ok (.getfield 139, 3) := by decide +kernel
theorem dX8_signAt_148 : decode cX8_signAt 148 = .ok (.lmul, 1) := by decide +kernel
theorem dX8_signAt_149 : decode cX8_signAt 149 = .ok (.lload 10, 2) := by decide +kernel
theorem dX8_signAt_151 : decode cX8_signAt 151 = .ok (.lmul, 1) := by decide +kernel
theorem dX8_signAt_152 : decode cX8_signAt 152 = .ok (.lload 8, 2) := by decide +kernel
theorem dX8_signAt_154 : decode cX8_signAt 154 = .ok (.aload_n 0, 1) := by decide +kernel
theorem dX8_signAt_155 : decode cX8_signAt 155 = .ok (.getfield 143, 3) := by decide +kernel
theorem dX8_signAt_158 : decode cX8_signAt 158 = .ok (.lmul, 1) := by decide +kernel
theorem dX8_signAt_159 : decode cX8_signAt 159 = .ok (.lsub, 1) := by decide +kernel
theorem dX8_signAt_160 : decode cX8_signAt 160 = .ok (.iload_n 1, 1) := by decide +kernel
theorem dX8_signAt_161 : decode cX8_signAt 161 = .ok (.iconst 2, 1) := by decide +kernel
theorem dX8_signAt_162 : decode cX8_signAt 162 = .ok (.if_icmp .ne 7, 3) := by decide +kernel
theorem dX8_signAt_165 : decode cX8_signAt 165 = .ok (.lconst 0, 1) := by decide +kernel
theorem dX8_signAt_166 : decode cX8_signAt 166 = .ok (.goto 16, 3) := by decide +kernel
theorem dX8_signAt_169 : decode cX8_signAt 169 = .ok (.iload 14, 2) := by decide +kernel
theorem dX8_signAt_171 : decode cX8_signAt 171 = .ok (.ifCond .eq 8, 3) := by decide +kernel
theorem dX8_signAt_174 : decode cX8_signAt 174 = .ok (.lload 8, 2) := by decide +kernel
theorem dX8_signAt_176 : decode cX8_signAt 176 = .ok (.goto 6, 3) := by decide +kernel
theorem dX8_signAt_179 : decode cX8_signAt 179 = .ok (.lload 8, 2) := by decide +kernel
theorem dX8_signAt_181 : decode cX8_signAt 181 = .ok (.lneg, 1) := by decide +kernel
theorem dX8_signAt_182 : decode cX8_signAt 182 = .ok (.lload 12, 2) := by decide +kernel
theorem dX8_signAt_184 : decode cX8_signAt 184 = .ok (.invokestatic 187, 3) := by decide +kernel
theorem dX8_signAt_187 : decode cX8_signAt 187 = .ok (.ireturn, 1) := by decide +kernel
set_option maxRecDepth 20000 in
theorem ggX8_notePiece_X8_follow : GoodIn wsX8_notePiece wsX8_follow := goodIn_r _ [11, 1, 2, 3, 12, 13, 14, 10, 15, 16, 17, 18, 19, 20, 21, 22, 23, 24, 25, 26, 27, 28, 29, 30, 31, 32, 33, 34, 35, 36, 68, 69, 70, 71, 72, 73, 74, 75, 76, 77, 78, 79, 80, 81, 82, 83, 84, 85, 86, 87, 88, 89, 90] (by decide +kernel) (by decide +kernel)
set_option maxRecDepth 20000 in
theorem gX8_notePiece_X8_follow : GoodIn wsX8_notePiece (wsV RX8 149 RX8 yX8_follow wsX8_follow) := goodIn_app (goodIn_of _ (by decide +kernel)) ggX8_notePiece_X8_follow
set_option maxRecDepth 20000 in
theorem ggX8_notePiece_X8_hasNought : GoodIn wsX8_notePiece wsX8_hasNought := goodIn_r _ [40, 4, 3, 1, 2, 41, 42, 43, 10, 44, 6, 45, 46, 47, 48, 49, 50, 51, 52, 53, 5, 68, 69, 70, 71, 72, 73, 74, 75, 76, 77, 78, 79, 80, 81, 82, 83, 84, 85, 86, 87, 88, 89, 90] (by decide +kernel) (by decide +kernel)
set_option maxRecDepth 20000 in
theorem gX8_notePiece_X8_hasNought : GoodIn wsX8_notePiece (wsV RX8 191 RX8 yX8_hasNought wsX8_hasNought) := goodIn_app (goodIn_of _ (by decide +kernel)) ggX8_notePiece_X8_hasNought
set_option maxRecDepth 20000 in
theorem ggX8_notePiece_X8_sign : GoodIn wsX8_notePiece wsX8_sign := goodIn_r _ [49] (by decide +kernel) (by decide +kernel)
set_option maxRecDepth 20000 in
theorem gX8_notePiece_X8_sign : GoodIn wsX8_notePiece (va_wsS RX8 160 yX8_sign wsX8_sign) := goodIn_app (goodIn_of _ (by decide +kernel)) ggX8_notePiece_X8_sign
set_option maxRecDepth 20000 in
theorem ggX8_notePiece_X8_note : GoodIn wsX8_notePiece wsX8_note := goodIn_r _ [57, 58, 59, 60, 68, 69, 70, 71, 72, 73, 74, 75, 76, 77, 78, 79, 80, 81, 82, 83, 84, 85, 86, 87, 88, 89, 90] (by decide +kernel) (by decide +kernel)
set_option maxRecDepth 20000 in
theorem gX8_notePiece_X8_note : GoodIn wsX8_notePiece (wsV RX8 194 RX8 yX8_note wsX8_note) := goodIn_app (goodIn_of _ (by decide +kernel)) ggX8_notePiece_X8_note
set_option maxRecDepth 20000 in
theorem ggX8_notePiece_X8_findRoots : GoodIn wsX8_notePiece wsX8_findRoots := goodIn_r _ [44, 4, 6, 1, 2, 3, 45, 46, 47, 48, 10, 49, 50, 51, 52, 53, 5, 68, 69, 70, 71, 72, 73, 74, 75, 76, 77, 78, 79, 80, 81, 82, 83, 84, 85, 86, 87, 88, 89, 90] (by decide +kernel) (by decide +kernel)
set_option maxRecDepth 20000 in
theorem gX8_notePiece_X8_findRoots : GoodIn wsX8_notePiece (wsV RX8 178 RX8 yX8_findRoots wsX8_findRoots) := goodIn_app (goodIn_of _ (by decide +kernel)) ggX8_notePiece_X8_findRoots
set_option maxRecDepth 20000 in
theorem ggX8_notePiece_X8_signAt : GoodIn wsX8_notePiece wsX8_signAt := goodIn_r _ [64, 1, 3, 2, 45, 46, 47, 48, 10, 49, 65, 66, 67, 68, 69, 70, 71, 72, 73, 74, 75, 76, 77, 78, 79, 80, 81, 82, 83, 84, 85, 86, 87, 88, 89, 90] (by decide +kernel) (by decide +kernel)
set_option maxRecDepth 20000 in
theorem gX8_notePiece_X8_signAt : GoodIn wsX8_notePiece (wsV RX8 198 RX8 yX8_signAt wsX8_signAt) := goodIn_app (goodIn_of _ (by decide +kernel)) ggX8_notePiece_X8_signAt
theorem dX8_notePiece_0 : decode cX8_notePiece 0 = .ok (.aload_n 0, 1) := by decide +kernel
theorem dX8_notePiece_1 : decode cX8_notePiece 1 = .ok (.iload_n 1, 1) := by decide +kernel
theorem dX8_notePiece_2 : decode cX8_notePiece 2 = .ok (.iconst 0, 1) := by decide +kernel
theorem dX8_notePiece_3 : decode cX8_notePiece 3 = .ok (.invokevirtual 149, 3) := by decide +kernel
theorem dX8_notePiece_6 : decode cX8_notePiece 6 = .ok (.aload_n 0, 1) := by decide +kernel
theorem dX8_notePiece_7 : decode cX8_notePiece 7 = .ok (.getfield 139, 3) := by decide +kernel
theorem dX8_notePiece_10 : decode cX8_notePiece 10 = .ok (.lstore_n 2, 1) := by decide +kernel
theorem dX8_notePiece_11 : decode cX8_notePiece 11 = .ok (.aload_n 0, 1) := by decide +kernel
theorem dX8_notePiece_12 : decode cX8_notePiece 12 = .ok (.getfield 143, 3) := by decide +kernel
theorem dX8_notePiece_15 : decode cX8_notePiece 15 = .ok (.lstore 4, 2) := by decide +kernel
theorem dX8_notePiece_17 : decode cX8_notePiece 17 = .ok (.aload_n 0, 1) := by decide +kernel
theorem dX8_notePiece_18 : decode cX8_notePiece 18 = .ok (.getfield 146, 3) := by decide +kernel
theorem dX8_notePiece_21 : decode cX8_notePiece 21 = .ok (.lstore 6, 2) := by decide +kernel
theorem dX8_notePiece_23 : decode cX8_notePiece 23 = .ok (.aload_n 0, 1) := by decide +kernel
theorem dX8_notePiece_24 : decode cX8_notePiece 24 = .ok (.invokevirtual 191, 3) := by decide +kernel
theorem dX8_notePiece_27 : decode cX8_notePiece 27 = .ok (.istore 8, 2) := by decide +kernel
theorem dX8_notePiece_29 : decode cX8_notePiece 29 = .ok (.aload_n 0, 1) := by decide +kernel
theorem dX8_notePiece_30 : decode cX8_notePiece 30 = .ok (.iload_n 1, 1) := by decide +kernel
theorem dX8_notePiece_31 : decode cX8_notePiece 31 = .ok (.iconst 1, 1) := by decide +kernel
theorem dX8_notePiece_32 : decode cX8_notePiece 32 = .ok (.invokevirtual 149, 3) := by decide +kernel
theorem dX8_notePiece_35 : decode cX8_notePiece 35 = .ok (.aload_n 0, 1) := by decide +kernel
theorem dX8_notePiece_36 : decode cX8_notePiece 36 = .ok (.getfield 139, 3) := by decide +kernel
theorem dX8_notePiece_39 : decode cX8_notePiece 39 = .ok (.lconst 0, 1) := by decide +kernel
theorem dX8_notePiece_40 : decode cX8_notePiece 40 = .ok (.lcmp, 1) := by decide +kernel
theorem dX8_notePiece_41 : decode cX8_notePiece 41 = .ok (.ifCond .ne 42, 3) := by decide +kernel
theorem dX8_notePiece_44 : decode cX8_notePiece 44 = .ok (.aload_n 0, 1) := by decide +kernel
theorem dX8_notePiece_45 : decode cX8_notePiece 45 = .ok (.getfield 143, 3) := by decide +kernel
theorem dX8_notePiece_48 : decode cX8_notePiece 48 = .ok (.lconst 0, 1) := by decide +kernel
theorem dX8_notePiece_49 : decode cX8_notePiece 49 = .ok (.lcmp, 1) := by decide +kernel
theorem dX8_notePiece_50 : decode cX8_notePiece 50 = .ok (.ifCond .ne 33, 3) := by decide +kernel
theorem dX8_notePiece_53 : decode cX8_notePiece 53 = .ok (.aload_n 0, 1) := by decide +kernel
theorem dX8_notePiece_54 : decode cX8_notePiece 54 = .ok (.getfield 146, 3) := by decide +kernel
theorem dX8_notePiece_57 : decode cX8_notePiece 57 = .ok (.lconst 0, 1) := by decide +kernel
theorem dX8_notePiece_58 : decode cX8_notePiece 58 = .ok (.lcmp, 1) := by decide +kernel
theorem dX8_notePiece_59 : decode cX8_notePiece 59 = .ok (.ifCond .ne 24, 3) := by decide +kernel
theorem dX8_notePiece_62 : decode cX8_notePiece 62 = .ok (.aload_n 0, 1) := by decide +kernel
theorem dX8_notePiece_63 : decode cX8_notePiece 63 = .ok (.iconst 0, 1) := by decide +kernel
theorem dX8_notePiece_64 : decode cX8_notePiece 64 = .ok (.lload 6, 2) := by decide +kernel
theorem dX8_notePiece_66 : decode cX8_notePiece 66 = .ok (.invokestatic 160, 3) := by decide +kernel
theorem dX8_notePiece_69 : decode cX8_notePiece 69 = .ok (.invokevirtual 194, 3) := by decide +kernel
theorem dX8_notePiece_72 : decode cX8_notePiece 72 = .ok (.iload 8, 2) := by decide +kernel
theorem dX8_notePiece_74 : decode cX8_notePiece 74 = .ok (.ifCond .ne 7, 3) := by decide +kernel
theorem dX8_notePiece_77 : decode cX8_notePiece 77 = .ok (.iconst 1, 1) := by decide +kernel
theorem dX8_notePiece_78 : decode cX8_notePiece 78 = .ok (.goto 4, 3) := by decide +kernel
theorem dX8_notePiece_81 : decode cX8_notePiece 81 = .ok (.iconst 0, 1) := by decide +kernel
theorem dX8_notePiece_82 : decode cX8_notePiece 82 = .ok (.ireturn, 1) := by decide +kernel
theorem dX8_notePiece_83 : decode cX8_notePiece 83 = .ok (.aload_n 0, 1) := by decide +kernel
theorem dX8_notePiece_84 : decode cX8_notePiece 84 = .ok (.getfield 146, 3) := by decide +kernel
theorem dX8_notePiece_87 : decode cX8_notePiece 87 = .ok (.lconst 0, 1) := by decide +kernel
theorem dX8_notePiece_88 : decode cX8_notePiece 88 = .ok (.lcmp, 1) := by decide +kernel
theorem dX8_notePiece_89 : decode cX8_notePiece 89 = .ok (.ifCond .ne 22, 3) := by decide +kernel
theorem dX8_notePiece_92 : decode cX8_notePiece 92 = .ok (.aload_n 0, 1) := by decide +kernel
theorem dX8_notePiece_93 : decode cX8_notePiece 93 = .ok (.iconst 0, 1) := by decide +kernel
theorem dX8_notePiece_94 : decode cX8_notePiece 94 = .ok (.lload 6, 2) := by decide +kernel
theorem dX8_notePiece_96 : decode cX8_notePiece 96 = .ok (.invokestatic 160, 3) := by decide +kernel
theorem dX8_notePiece_99 : decode cX8_notePiece 99 = .ok (.invokevirtual 194, 3) := by decide +kernel
theorem dX8_notePiece_102 : decode cX8_notePiece 102 = .ok (.lload 6, 2) := by decide +kernel
theorem dX8_notePiece_104 : decode cX8_notePiece 104 = .ok (.lconst 0, 1) := by decide +kernel
theorem dX8_notePiece_105 : decode cX8_notePiece 105 = .ok (.lcmp, 1) := by decide +kernel
theorem dX8_notePiece_106 : decode cX8_notePiece 106 = .ok (.ifCond .ne 5, 3) := by decide +kernel
theorem dX8_notePiece_109 : decode cX8_notePiece 109 = .ok (.iconst 0, 1) := by decide +kernel
theorem dX8_notePiece_110 : decode cX8_notePiece 110 = .ok (.ireturn, 1) := by decide +kernel
theorem dX8_notePiece_111 : decode cX8_notePiece 111 = .ok (.aload_n 0, 1) := by decide +kernel
theorem dX8_notePiece_112 : decode cX8_notePiece 112 = .ok (.getfield 139, 3) := by decide +kernel
theorem dX8_notePiece_115 : decode cX8_notePiece 115 = .ok (.aload_n 0, 1) := by decide +kernel
theorem dX8_notePiece_116 : decode cX8_notePiece 116 = .ok (.getfield 143, 3) := by decide +kernel
theorem dX8_notePiece_119 : decode cX8_notePiece 119 = .ok (.ladd, 1) := by decide +kernel
theorem dX8_notePiece_120 : decode cX8_notePiece 120 = .ok (.aload_n 0, 1) := by decide +kernel
theorem dX8_notePiece_121 : decode cX8_notePiece 121 = .ok (.getfield 146, 3) := by decide +kernel
theorem dX8_notePiece_124 : decode cX8_notePiece 124 = .ok (.ladd, 1) := by decide +kernel
theorem dX8_notePiece_125 : decode cX8_notePiece 125 = .ok (.lconst 0, 1) := by decide +kernel
theorem dX8_notePiece_126 : decode cX8_notePiece 126 = .ok (.lcmp, 1) := by decide +kernel
theorem dX8_notePiece_127 : decode cX8_notePiece 127 = .ok (.ifCond .ne 17, 3) := by decide +kernel
theorem dX8_notePiece_130 : decode cX8_notePiece 130 = .ok (.lload_n 2, 1) := by decide +kernel
theorem dX8_notePiece_131 : decode cX8_notePiece 131 = .ok (.lload 4, 2) := by decide +kernel
theorem dX8_notePiece_133 : decode cX8_notePiece 133 = .ok (.ladd, 1) := by decide +kernel
theorem dX8_notePiece_134 : decode cX8_notePiece 134 = .ok (.lload 6, 2) := by decide +kernel
theorem dX8_notePiece_136 : decode cX8_notePiece 136 = .ok (.ladd, 1) := by decide +kernel
theorem dX8_notePiece_137 : decode cX8_notePiece 137 = .ok (.lconst 0, 1) := by decide +kernel
theorem dX8_notePiece_138 : decode cX8_notePiece 138 = .ok (.lcmp, 1) := by decide +kernel
theorem dX8_notePiece_139 : decode cX8_notePiece 139 = .ok (.ifCond .ne 5, 3) := by decide +kernel
theorem dX8_notePiece_142 : decode cX8_notePiece 142 = .ok (.iconst 0, 1) := by decide +kernel
theorem dX8_notePiece_143 : decode cX8_notePiece 143 = .ok (.ireturn, 1) := by decide +kernel
theorem dX8_notePiece_144 : decode cX8_notePiece 144 = .ok (.aload_n 0, 1) := by decide +kernel
theorem dX8_notePiece_145 : decode cX8_notePiece 145 = .ok (.getfield 146, 3) := by decide +kernel
theorem dX8_notePiece_148 : decode cX8_notePiece 148 = .ok (.lconst 0, 1) := by decide +kernel
theorem dX8_notePiece_149 : decode cX8_notePiece 149 = .ok (.lcmp, 1) := by decide +kernel
theorem dX8_notePiece_150 : decode cX8_notePiece 150 = .ok (.ifCond .eq 13, 3) := by decide +kernel
theorem dX8_notePiece_153 : decode cX8_notePiece 153 = .ok (.aload_n 0, 1) := by decide +kernel
theorem dX8_notePiece_154 : decode cX8_notePiece 154 = .ok (.getfield 146, 3) := by decide +kernel
theorem dX8_notePiece_157 : decode cX8_notePiece 157 = .ok (.invokestatic 160, 3) := by decide +kernel
theorem dX8_notePiece_160 : decode cX8_notePiece 160 = .ok (.goto 29, 3) := by decide +kernel
theorem dX8_notePiece_163 : decode cX8_notePiece 163 = .ok (.aload_n 0, 1) := by decide +kernel
theorem dX8_notePiece_164 : decode cX8_notePiece 164 = .ok (.getfield 143, 3) := by decide +kernel
theorem dX8_notePiece_167 : decode cX8_notePiece 167 = .ok (.lconst 0, 1) := by decide +kernel
theorem dX8_notePiece_168 : decode cX8_notePiece 168 = .ok (.lcmp, 1) := by decide +kernel
theorem dX8_notePiece_169 : decode cX8_notePiece 169 = .ok (.ifCond .eq 13, 3) := by decide +kernel
theorem dX8_notePiece_172 : decode cX8_notePiece 172 = .ok (.aload_n 0, 1) := by decide +kernel
theorem dX8_notePiece_173 : decode cX8_notePiece 173 = .ok (.getfield 143, 3) := by decide +kernel
theorem dX8_notePiece_176 : decode cX8_notePiece 176 = .ok (.invokestatic 160, 3) := by decide +kernel
theorem dX8_notePiece_179 : decode cX8_notePiece 179 = .ok (.goto 10, 3) := by decide +kernel
theorem dX8_notePiece_182 : decode cX8_notePiece 182 = .ok (.aload_n 0, 1) := by decide +kernel
theorem dX8_notePiece_183 : decode cX8_notePiece 183 = .ok (.getfield 139, 3) := by decide +kernel
theorem dX8_notePiece_186 : decode cX8_notePiece 186 = .ok (.invokestatic 160, 3) := by decide +kernel
theorem dX8_notePiece_189 : decode cX8_notePiece 189 = .ok (.istore 9, 2) := by decide +kernel
theorem dX8_notePiece_191 : decode cX8_notePiece 191 = .ok (.aload_n 0, 1) := by decide +kernel
theorem dX8_notePiece_192 : decode cX8_notePiece 192 = .ok (.iload 9, 2) := by decide +kernel
theorem dX8_notePiece_194 : decode cX8_notePiece 194 = .ok (.iconst 0, 1) := by decide +kernel
theorem dX8_notePiece_195 : decode cX8_notePiece 195 = .ok (.invokevirtual 194, 3) := by decide +kernel
theorem dX8_notePiece_198 : decode cX8_notePiece 198 = .ok (.aload_n 0, 1) := by decide +kernel
theorem dX8_notePiece_199 : decode cX8_notePiece 199 = .ok (.invokevirtual 178, 3) := by decide +kernel
theorem dX8_notePiece_202 : decode cX8_notePiece 202 = .ok (.iconst 0, 1) := by decide +kernel
theorem dX8_notePiece_203 : decode cX8_notePiece 203 = .ok (.istore 10, 2) := by decide +kernel
theorem dX8_notePiece_205 : decode cX8_notePiece 205 = .ok (.iload 10, 2) := by decide +kernel
theorem dX8_notePiece_207 : decode cX8_notePiece 207 = .ok (.aload_n 0, 1) := by decide +kernel
theorem dX8_notePiece_208 : decode cX8_notePiece 208 = .ok (.getfield 153, 3) := by decide +kernel
theorem dX8_notePiece_211 : decode cX8_notePiece 211 = .ok (.if_icmp .ge 60, 3) := by decide +kernel
theorem dX8_notePiece_214 : decode cX8_notePiece 214 = .ok (.aload_n 0, 1) := by decide +kernel
theorem dX8_notePiece_215 : decode cX8_notePiece 215 = .ok (.aload_n 0, 1) := by decide +kernel
theorem dX8_notePiece_216 : decode cX8_notePiece 216 = .ok (.getfield 38, 3) := by decide +kernel
theorem dX8_notePiece_219 : decode cX8_notePiece 219 = .ok (.iload 10, 2) := by decide +kernel
theorem dX8_notePiece_221 : decode cX8_notePiece 221 = .ok (.iaload, 1) := by decide +kernel
theorem dX8_notePiece_222 : decode cX8_notePiece 222 = .ok (.lload_n 2, 1) := by decide +kernel
theorem dX8_notePiece_223 : decode cX8_notePiece 223 = .ok (.lload 4, 2) := by decide +kernel
theorem dX8_notePiece_225 : decode cX8_notePiece 225 = .ok (.lload 6, 2) := by decide +kernel
theorem dX8_notePiece_227 : decode cX8_notePiece 227 = .ok (.invokevirtual 198, 3) := by decide +kernel
theorem dX8_notePiece_230 : decode cX8_notePiece 230 = .ok (.istore 11, 2) := by decide +kernel
theorem dX8_notePiece_232 : decode cX8_notePiece 232 = .ok (.iload 11, 2) := by decide +kernel
theorem dX8_notePiece_234 : decode cX8_notePiece 234 = .ok (.ifCond .ne 5, 3) := by decide +kernel
theorem dX8_notePiece_237 : decode cX8_notePiece 237 = .ok (.iconst 0, 1) := by decide +kernel
theorem dX8_notePiece_238 : decode cX8_notePiece 238 = .ok (.ireturn, 1) := by decide +kernel
theorem dX8_notePiece_239 : decode cX8_notePiece 239 = .ok (.aload_n 0, 1) := by decide +kernel
theorem dX8_notePiece_240 : decode cX8_notePiece 240 = .ok (.iconst 0, 1) := by decide +kernel
theorem dX8_notePiece_241 : decode cX8_notePiece 241 = .ok (.iload 11, 2) := by decide +kernel
theorem dX8_notePiece_243 : decode cX8_notePiece 243 = .ok (.invokevirtual 194, 3) := by decide +kernel
theorem dX8_notePiece_246 : decode cX8_notePiece 246 = .ok (.aload_n 0, 1) := by decide +kernel
theorem dX8_notePiece_247 : decode cX8_notePiece 247 = .ok (.getfield 156, 3) := by decide +kernel
theorem dX8_notePiece_250 : decode cX8_notePiece 250 = .ok (.ifCond .ne 8, 3) := by decide +kernel
theorem dX8_notePiece_253 : decode cX8_notePiece 253 = .ok (.iload 9, 2) := by decide +kernel
theorem dX8_notePiece_255 : decode cX8_notePiece 255 = .ok (.ineg, 1) := by decide +kernel
theorem dX8_notePiece_256 : decode cX8_notePiece 256 = .ok (.istore 9, 2) := by decide +kernel
theorem dX8_notePiece_258 : decode cX8_notePiece 258 = .ok (.aload_n 0, 1) := by decide +kernel
theorem dX8_notePiece_259 : decode cX8_notePiece 259 = .ok (.iload 9, 2) := by decide +kernel
theorem dX8_notePiece_261 : decode cX8_notePiece 261 = .ok (.iconst 0, 1) := by decide +kernel
theorem dX8_notePiece_262 : decode cX8_notePiece 262 = .ok (.invokevirtual 194, 3) := by decide +kernel
theorem dX8_notePiece_265 : decode cX8_notePiece 265 = .ok (.iinc 10 1, 3) := by decide +kernel
theorem dX8_notePiece_268 : decode cX8_notePiece 268 = .ok (.goto (-63), 3) := by decide +kernel
theorem dX8_notePiece_271 : decode cX8_notePiece 271 = .ok (.iconst 1, 1) := by decide +kernel
theorem dX8_notePiece_272 : decode cX8_notePiece 272 = .ok (.ireturn, 1) := by decide +kernel
set_option maxRecDepth 20000 in
theorem ggX8_hasNought_X8_findRoots : GoodIn wsX8_hasNought wsX8_findRoots := goodIn_r _ [9, 1, 10, 3, 4, 2, 11, 12, 13, 14, 8, 15, 16, 17, 18, 19, 20, 21, 22, 23, 24, 25, 26, 27, 28, 29, 30, 31, 32, 33, 34, 35, 36, 37, 38, 39, 40, 41, 42, 43] (by decide +kernel) (by decide +kernel)
set_option maxRecDepth 20000 in
theorem gX8_hasNought_X8_findRoots : GoodIn wsX8_hasNought (wsV RX8 178 RX8 yX8_findRoots wsX8_findRoots) := goodIn_app (goodIn_of _ (by decide +kernel)) ggX8_hasNought_X8_findRoots
theorem dX8_hasNought_0 : decode cX8_hasNought 0 = .ok (.aload_n 0, 1) := by decide +kernel
theorem dX8_hasNought_1 : decode cX8_hasNought 1 = .ok (.invokevirtual 178, 3) := by decide +kernel
theorem dX8_hasNought_4 : decode cX8_hasNought 4 = .ok (.aload_n 0, 1) := by decide +kernel
theorem dX8_hasNought_5 : decode cX8_hasNought 5 = .ok (.getfield 153, 3) := by decide +kernel
theorem dX8_hasNought_8 : decode cX8_hasNought 8 = .ok (.ifCond .gt 31, 3) := by decide +kernel
theorem dX8_hasNought_11 : decode cX8_hasNought 11 = .ok (.aload_n 0, 1) := by decide +kernel
theorem dX8_hasNought_12 : decode cX8_hasNought 12 = .ok (.getfield 146, 3) := by decide +kernel
theorem dX8_hasNought_15 : decode cX8_hasNought 15 = .ok (.lconst 0, 1) := by decide +kernel
theorem dX8_hasNought_16 : decode cX8_hasNought 16 = .ok (.lcmp, 1) := by decide +kernel
theorem dX8_hasNought_17 : decode cX8_hasNought 17 = .ok (.ifCond .eq 22, 3) := by decide +kernel
theorem dX8_hasNought_20 : decode cX8_hasNought 20 = .ok (.aload_n 0, 1) := by decide +kernel
theorem dX8_hasNought_21 : decode cX8_hasNought 21 = .ok (.getfield 139, 3) := by decide +kernel
theorem dX8_hasNought_24 : decode cX8_hasNought 24 = .ok (.aload_n 0, 1) := by decide +kernel
theorem dX8_hasNought_25 : decode cX8_hasNought 25 = .ok (.getfield 143, 3) := by decide +kernel
theorem dX8_hasNought_28 : decode cX8_hasNought 28 = .ok (.ladd, 1) := by decide +kernel
theorem dX8_hasNought_29 : decode cX8_hasNought 29 = .ok (.aload_n 0, 1) := by decide +kernel
theorem dX8_hasNought_30 : decode cX8_hasNought 30 = .ok (.getfield 146, 3) := by decide +kernel
theorem dX8_hasNought_33 : decode cX8_hasNought 33 = .ok (.ladd, 1) := by decide +kernel
theorem dX8_hasNought_34 : decode cX8_hasNought 34 = .ok (.lconst 0, 1) := by decide +kernel
theorem dX8_hasNought_35 : decode cX8_hasNought 35 = .ok (.lcmp, 1) := by decide +kernel
theorem dX8_hasNought_36 : decode cX8_hasNought 36 = .ok (.ifCond .ne 7, 3) := by decide +kernel
theorem dX8_hasNought_39 : decode cX8_hasNought 39 = .ok (.iconst 1, 1) := by decide +kernel
theorem dX8_hasNought_40 : decode cX8_hasNought 40 = .ok (.goto 4, 3) := by decide +kernel
theorem dX8_hasNought_43 : decode cX8_hasNought 43 = .ok (.iconst 0, 1) := by decide +kernel
theorem dX8_hasNought_44 : decode cX8_hasNought 44 = .ok (.ireturn, 1) := by decide +kernel
set_option maxRecDepth 20000 in
theorem ggX8_wind_X8_corners : GoodIn wsX8_wind wsX8_corners := goodIn_r _ [10, 11, 79, 80, 81, 82, 83, 84, 85, 86, 87, 88, 89, 90, 91, 92, 93, 94, 95, 96, 97, 98, 99, 100, 101] (by decide +kernel) (by decide +kernel)
set_option maxRecDepth 20000 in
theorem gX8_wind_X8_corners : GoodIn wsX8_wind (wsV RX8 108 RX8 yX8_corners wsX8_corners) := goodIn_app (goodIn_of _ (by decide +kernel)) ggX8_wind_X8_corners
set_option maxRecDepth 20000 in
theorem ggX8_wind_X8_found : GoodIn wsX8_wind wsX8_found := goodIn_r _ [15, 16, 79, 80, 81, 82, 83, 84, 85, 86, 87, 88, 89, 90, 91, 92, 93, 94, 95, 96, 97, 98, 99, 100, 101] (by decide +kernel) (by decide +kernel)
set_option maxRecDepth 20000 in
theorem gX8_wind_X8_found : GoodIn wsX8_wind (wsV RX8 69 RX8 yX8_found wsX8_found) := goodIn_app (goodIn_of _ (by decide +kernel)) ggX8_wind_X8_found
set_option maxRecDepth 20000 in
theorem ggX8_wind_X8_notePiece : GoodIn wsX8_wind wsX8_notePiece := goodIn_r _ [20, 21, 22, 23, 24, 25, 26, 27, 28, 29, 9, 30, 31, 32, 33, 34, 11, 6, 7, 8, 10, 35, 36, 37, 38, 39, 40, 41, 42, 43, 44, 45, 46, 47, 48, 49, 50, 51, 52, 53, 54, 55, 56, 57, 58, 59, 60, 61, 62, 63, 64, 65, 66, 67, 68, 69, 70, 71, 4, 2, 5, 72, 73, 74, 75, 76, 77, 78, 79, 80, 81, 82, 83, 84, 85, 86, 87, 88, 89, 90, 91, 92, 93, 94, 95, 96, 97, 98, 99, 100, 101] (by decide +kernel) (by decide +kernel)
set_option maxRecDepth 20000 in
theorem gX8_wind_X8_notePiece : GoodIn wsX8_wind (wsV RX8 202 RX8 yX8_notePiece wsX8_notePiece) := goodIn_app (goodIn_of _ (by decide +kernel)) ggX8_wind_X8_notePiece
theorem dX8_wind_0 : decode cX8_wind 0 = .ok (.aload_n 0, 1) := by decide +kernel
theorem dX8_wind_1 : decode cX8_wind 1 = .ok (.invokevirtual 108, 3) := by decide +kernel
theorem dX8_wind_4 : decode cX8_wind 4 = .ok (.iconst 2, 1) := by decide +kernel
theorem dX8_wind_5 : decode cX8_wind 5 = .ok (.if_icmp .ge 10, 3) := by decide +kernel
theorem dX8_wind_8 : decode cX8_wind 8 = .ok (.aload_n 0, 1) := by decide +kernel
theorem dX8_wind_9 : decode cX8_wind 9 = .ok (.ldc 100, 2) := by decide +kernel
theorem dX8_wind_11 : decode cX8_wind 11 = .ok (.invokevirtual 69, 3) := by decide +kernel
theorem dX8_wind_14 : decode cX8_wind 14 = .ok (.ireturn, 1) := by decide +kernel
theorem dX8_wind_15 : decode cX8_wind 15 = .ok (.aload_n 0, 1) := by decide +kernel
theorem dX8_wind_16 : decode cX8_wind 16 = .ok (.iconst 0, 1) := by decide +kernel
theorem dX8_wind_17 : decode cX8_wind 17 = .ok (.putfield 184, 3) := by decide +kernel
theorem dX8_wind_20 : decode cX8_wind 20 = .ok (.iconst 1, 1) := by decide +kernel
theorem dX8_wind_21 : decode cX8_wind 21 = .ok (.istore_n 1, 1) := by decide +kernel
theorem dX8_wind_22 : decode cX8_wind 22 = .ok (.iconst 0, 1) := by decide +kernel
theorem dX8_wind_23 : decode cX8_wind 23 = .ok (.istore_n 2, 1) := by decide +kernel
theorem dX8_wind_24 : decode cX8_wind 24 = .ok (.iload_n 2, 1) := by decide +kernel
theorem dX8_wind_25 : decode cX8_wind 25 = .ok (.aload_n 0, 1) := by decide +kernel
theorem dX8_wind_26 : decode cX8_wind 26 = .ok (.invokevirtual 108, 3) := by decide +kernel
theorem dX8_wind_29 : decode cX8_wind 29 = .ok (.if_icmp .ge 19, 3) := by decide +kernel
theorem dX8_wind_32 : decode cX8_wind 32 = .ok (.iload_n 1, 1) := by decide +kernel
theorem dX8_wind_33 : decode cX8_wind 33 = .ok (.ifCond .eq 15, 3) := by decide +kernel
theorem dX8_wind_36 : decode cX8_wind 36 = .ok (.aload_n 0, 1) := by decide +kernel
theorem dX8_wind_37 : decode cX8_wind 37 = .ok (.iload_n 2, 1) := by decide +kernel
theorem dX8_wind_38 : decode cX8_wind 38 = .ok (.invokevirtual 202, 3) := by decide +kernel
theorem dX8_wind_41 : decode cX8_wind 41 = .ok (.istore_n 1, 1) := by decide +kernel
theorem dX8_wind_42 : decode cX8_wind 42 = .ok (.iinc 2 1, 3) := by decide +kernel
theorem dX8_wind_45 : decode cX8_wind 45 = .ok (.goto (-21), 3) := by decide +kernel
theorem dX8_wind_48 : decode cX8_wind 48 = .ok (.iload_n 1, 1) := by decide +kernel
theorem dX8_wind_49 : decode cX8_wind 49 = .ok (.ifCond .ne 10, 3) := by decide +kernel
theorem dX8_wind_52 : decode cX8_wind 52 = .ok (.aload_n 0, 1) := by decide +kernel
theorem dX8_wind_53 : decode cX8_wind 53 = .ok (.ldc 206, 2) := by decide +kernel
theorem dX8_wind_55 : decode cX8_wind 55 = .ok (.invokevirtual 69, 3) := by decide +kernel
theorem dX8_wind_58 : decode cX8_wind 58 = .ok (.ireturn, 1) := by decide +kernel
theorem dX8_wind_59 : decode cX8_wind 59 = .ok (.iconst 0, 1) := by decide +kernel
theorem dX8_wind_60 : decode cX8_wind 60 = .ok (.istore_n 2, 1) := by decide +kernel
theorem dX8_wind_61 : decode cX8_wind 61 = .ok (.iload_n 2, 1) := by decide +kernel
theorem dX8_wind_62 : decode cX8_wind 62 = .ok (.aload_n 0, 1) := by decide +kernel
theorem dX8_wind_63 : decode cX8_wind 63 = .ok (.getfield 184, 3) := by decide +kernel
theorem dX8_wind_66 : decode cX8_wind 66 = .ok (.if_icmp .ge 18, 3) := by decide +kernel
theorem dX8_wind_69 : decode cX8_wind 69 = .ok (.aload_n 0, 1) := by decide +kernel
theorem dX8_wind_70 : decode cX8_wind 70 = .ok (.getfield 41, 3) := by decide +kernel
theorem dX8_wind_73 : decode cX8_wind 73 = .ok (.iload_n 2, 1) := by decide +kernel
theorem dX8_wind_74 : decode cX8_wind 74 = .ok (.iaload, 1) := by decide +kernel
theorem dX8_wind_75 : decode cX8_wind 75 = .ok (.ifCond .ne 9, 3) := by decide +kernel
theorem dX8_wind_78 : decode cX8_wind 78 = .ok (.iinc 2 1, 3) := by decide +kernel
theorem dX8_wind_81 : decode cX8_wind 81 = .ok (.goto (-20), 3) := by decide +kernel
theorem dX8_wind_84 : decode cX8_wind 84 = .ok (.iload_n 2, 1) := by decide +kernel
theorem dX8_wind_85 : decode cX8_wind 85 = .ok (.aload_n 0, 1) := by decide +kernel
theorem dX8_wind_86 : decode cX8_wind 86 = .ok (.getfield 184, 3) := by decide +kernel
theorem dX8_wind_89 : decode cX8_wind 89 = .ok (.if_icmp .ne 5, 3) := by decide +kernel
theorem dX8_wind_92 : decode cX8_wind 92 = .ok (.iconst 0, 1) := by decide +kernel
theorem dX8_wind_93 : decode cX8_wind 93 = .ok (.ireturn, 1) := by decide +kernel
theorem dX8_wind_94 : decode cX8_wind 94 = .ok (.aload_n 0, 1) := by decide +kernel
theorem dX8_wind_95 : decode cX8_wind 95 = .ok (.getfield 41, 3) := by decide +kernel
theorem dX8_wind_98 : decode cX8_wind 98 = .ok (.iload_n 2, 1) := by decide +kernel
theorem dX8_wind_99 : decode cX8_wind 99 = .ok (.iaload, 1) := by decide +kernel
theorem dX8_wind_100 : decode cX8_wind 100 = .ok (.istore_n 3, 1) := by decide +kernel
theorem dX8_wind_101 : decode cX8_wind 101 = .ok (.iconst 0, 1) := by decide +kernel
theorem dX8_wind_102 : decode cX8_wind 102 = .ok (.istore 4, 2) := by decide +kernel
theorem dX8_wind_104 : decode cX8_wind 104 = .ok (.iconst 0, 1) := by decide +kernel
theorem dX8_wind_105 : decode cX8_wind 105 = .ok (.istore 5, 2) := by decide +kernel
theorem dX8_wind_107 : decode cX8_wind 107 = .ok (.iconst 1, 1) := by decide +kernel
theorem dX8_wind_108 : decode cX8_wind 108 = .ok (.istore 6, 2) := by decide +kernel
theorem dX8_wind_110 : decode cX8_wind 110 = .ok (.iload 6, 2) := by decide +kernel
theorem dX8_wind_112 : decode cX8_wind 112 = .ok (.aload_n 0, 1) := by decide +kernel
theorem dX8_wind_113 : decode cX8_wind 113 = .ok (.getfield 184, 3) := by decide +kernel
theorem dX8_wind_116 : decode cX8_wind 116 = .ok (.if_icmp .gt 87, 3) := by decide +kernel
theorem dX8_wind_119 : decode cX8_wind 119 = .ok (.iload_n 2, 1) := by decide +kernel
theorem dX8_wind_120 : decode cX8_wind 120 = .ok (.iload 6, 2) := by decide +kernel
theorem dX8_wind_122 : decode cX8_wind 122 = .ok (.iadd, 1) := by decide +kernel
theorem dX8_wind_123 : decode cX8_wind 123 = .ok (.aload_n 0, 1) := by decide +kernel
theorem dX8_wind_124 : decode cX8_wind 124 = .ok (.getfield 184, 3) := by decide +kernel
theorem dX8_wind_127 : decode cX8_wind 127 = .ok (.irem, 1) := by decide +kernel
theorem dX8_wind_128 : decode cX8_wind 128 = .ok (.istore 7, 2) := by decide +kernel
theorem dX8_wind_130 : decode cX8_wind 130 = .ok (.aload_n 0, 1) := by decide +kernel
theorem dX8_wind_131 : decode cX8_wind 131 = .ok (.getfield 41, 3) := by decide +kernel
theorem dX8_wind_134 : decode cX8_wind 134 = .ok (.iload 7, 2) := by decide +kernel
theorem dX8_wind_136 : decode cX8_wind 136 = .ok (.iaload, 1) := by decide +kernel
theorem dX8_wind_137 : decode cX8_wind 137 = .ok (.ifCond .ne 15, 3) := by decide +kernel
theorem dX8_wind_140 : decode cX8_wind 140 = .ok (.aload_n 0, 1) := by decide +kernel
theorem dX8_wind_141 : decode cX8_wind 141 = .ok (.getfield 44, 3) := by decide +kernel
theorem dX8_wind_144 : decode cX8_wind 144 = .ok (.iload 7, 2) := by decide +kernel
theorem dX8_wind_146 : decode cX8_wind 146 = .ok (.iaload, 1) := by decide +kernel
theorem dX8_wind_147 : decode cX8_wind 147 = .ok (.istore 4, 2) := by decide +kernel
theorem dX8_wind_149 : decode cX8_wind 149 = .ok (.goto 48, 3) := by decide +kernel
theorem dX8_wind_152 : decode cX8_wind 152 = .ok (.aload_n 0, 1) := by decide +kernel
theorem dX8_wind_153 : decode cX8_wind 153 = .ok (.getfield 41, 3) := by decide +kernel
theorem dX8_wind_156 : decode cX8_wind 156 = .ok (.iload 7, 2) := by decide +kernel
theorem dX8_wind_158 : decode cX8_wind 158 = .ok (.iaload, 1) := by decide +kernel
theorem dX8_wind_159 : decode cX8_wind 159 = .ok (.iload_n 3, 1) := by decide +kernel
theorem dX8_wind_160 : decode cX8_wind 160 = .ok (.if_icmp .eq 29, 3) := by decide +kernel
theorem dX8_wind_163 : decode cX8_wind 163 = .ok (.iload 4, 2) := by decide +kernel
theorem dX8_wind_165 : decode cX8_wind 165 = .ok (.ifCond .le 24, 3) := by decide +kernel
theorem dX8_wind_168 : decode cX8_wind 168 = .ok (.iload 5, 2) := by decide +kernel
theorem dX8_wind_170 : decode cX8_wind 170 = .ok (.aload_n 0, 1) := by decide +kernel
theorem dX8_wind_171 : decode cX8_wind 171 = .ok (.getfield 41, 3) := by decide +kernel
theorem dX8_wind_174 : decode cX8_wind 174 = .ok (.iload 7, 2) := by decide +kernel
theorem dX8_wind_176 : decode cX8_wind 176 = .ok (.iaload, 1) := by decide +kernel
theorem dX8_wind_177 : decode cX8_wind 177 = .ok (.iload_n 3, 1) := by decide +kernel
theorem dX8_wind_178 : decode cX8_wind 178 = .ok (.if_icmp .le 7, 3) := by decide +kernel
theorem dX8_wind_181 : decode cX8_wind 181 = .ok (.iconst 1, 1) := by decide +kernel
theorem dX8_wind_182 : decode cX8_wind 182 = .ok (.goto 4, 3) := by decide +kernel
theorem dX8_wind_185 : decode cX8_wind 185 = .ok (.iconst (-1), 1) := by decide +kernel
theorem dX8_wind_186 : decode cX8_wind 186 = .ok (.iadd, 1) := by decide +kernel
theorem dX8_wind_187 : decode cX8_wind 187 = .ok (.istore 5, 2) := by decide +kernel
theorem dX8_wind_189 : decode cX8_wind 189 = .ok (.aload_n 0, 1) := by decide +kernel
theorem dX8_wind_190 : decode cX8_wind 190 = .ok (.getfield 41, 3) := by decide +kernel
theorem dX8_wind_193 : decode cX8_wind 193 = .ok (.iload 7, 2) := by decide +kernel
theorem dX8_wind_195 : decode cX8_wind 195 = .ok (.iaload, 1) := by decide +kernel
theorem dX8_wind_196 : decode cX8_wind 196 = .ok (.istore_n 3, 1) := by decide +kernel
theorem dX8_wind_197 : decode cX8_wind 197 = .ok (.iinc 6 1, 3) := by decide +kernel
theorem dX8_wind_200 : decode cX8_wind 200 = .ok (.goto (-90), 3) := by decide +kernel
theorem dX8_wind_203 : decode cX8_wind 203 = .ok (.iload 5, 2) := by decide +kernel
theorem dX8_wind_205 : decode cX8_wind 205 = .ok (.ireturn, 1) := by decide +kernel
set_option maxRecDepth 20000 in
theorem ggX8_indexes_X8_isSimple : GoodIn wsX8_indexes wsX8_isSimple := goodIn_r _ [7, 8, 9, 10, 6, 11, 12, 13, 14, 15, 16, 17, 18, 19, 20, 21, 22, 23, 24, 25, 26, 27, 28, 29, 30, 31, 61, 62, 63, 64, 65, 66, 67, 68, 69, 70, 71, 72, 73, 74, 75, 76, 77, 78, 79, 80, 81, 82, 83] (by decide +kernel) (by decide +kernel)
set_option maxRecDepth 20000 in
theorem gX8_indexes_X8_isSimple : GoodIn wsX8_indexes (wsV RX8 129 RX8 yX8_isSimple wsX8_isSimple) := goodIn_app (goodIn_of _ (by decide +kernel)) ggX8_indexes_X8_isSimple
set_option maxRecDepth 20000 in
theorem ggX8_indexes_X8_found : GoodIn wsX8_indexes wsX8_found := goodIn_r _ [35, 36, 61, 62, 63, 64, 65, 66, 67, 68, 69, 70, 71, 72, 73, 74, 75, 76, 77, 78, 79, 80, 81, 82, 83] (by decide +kernel) (by decide +kernel)
set_option maxRecDepth 20000 in
theorem gX8_indexes_X8_found : GoodIn wsX8_indexes (wsV RX8 69 RX8 yX8_found wsX8_found) := goodIn_app (goodIn_of _ (by decide +kernel)) ggX8_indexes_X8_found
set_option maxRecDepth 20000 in
theorem ggX8_indexes_X8_isRest : GoodIn wsX8_indexes wsX8_isRest := goodIn_r _ [40, 41, 42, 43, 6, 44, 45, 46, 47, 48, 12, 61, 62, 63, 64, 65, 66, 67, 68, 69, 70, 71, 72, 73, 74, 75, 76, 77, 78, 79, 80, 81, 82, 83] (by decide +kernel) (by decide +kernel)
set_option maxRecDepth 20000 in
theorem gX8_indexes_X8_isRest : GoodIn wsX8_indexes (wsV RX8 101 RX8 yX8_isRest wsX8_isRest) := goodIn_app (goodIn_of _ (by decide +kernel)) ggX8_indexes_X8_isRest
set_option maxRecDepth 20000 in
theorem ggX8_indexes_X8_where : GoodIn wsX8_indexes wsX8_where := goodIn_r _ [52, 8, 9, 10, 6, 11, 12, 21, 22, 23, 24, 13, 14, 15, 16, 17, 18, 19, 20, 25, 26, 27, 61, 62, 63, 64, 65, 66, 67, 68, 69, 70, 71, 72, 73, 74, 75, 76, 77, 78, 79, 80, 81, 82, 83] (by decide +kernel) (by decide +kernel)
set_option maxRecDepth 20000 in
theorem gX8_indexes_X8_where : GoodIn wsX8_indexes (wsV RX8 135 RX8 yX8_where wsX8_where) := goodIn_app (goodIn_of _ (by decide +kernel)) ggX8_indexes_X8_where
set_option maxRecDepth 20000 in
theorem ggX8_indexes_X8_sortAt : GoodIn wsX8_indexes wsX8_sortAt := goodIn_r _ [56, 57, 58, 59, 6, 60, 45, 46, 47, 48, 12, 61, 62, 63, 64, 65, 66, 67, 68, 69, 70, 71, 72, 73, 74, 75, 76, 77, 78, 79, 80, 81, 82, 83] (by decide +kernel) (by decide +kernel)
set_option maxRecDepth 20000 in
theorem gX8_indexes_X8_sortAt : GoodIn wsX8_indexes (wsV RX8 104 RX8 yX8_sortAt wsX8_sortAt) := goodIn_app (goodIn_of _ (by decide +kernel)) ggX8_indexes_X8_sortAt

theorem dX8_indexes_0 : decode cX8_indexes 0 = .ok (.aload_n 0, 1) := by decide +kernel
theorem dX8_indexes_1 : decode cX8_indexes 1 = .ok (.invokevirtual 129, 3) := by decide +kernel
theorem dX8_indexes_4 : decode cX8_indexes 4 = .ok (.ifCond .ne 10, 3) := by decide +kernel
theorem dX8_indexes_7 : decode cX8_indexes 7 = .ok (.aload_n 0, 1) := by decide +kernel
theorem dX8_indexes_8 : decode cX8_indexes 8 = .ok (.ldc 138, 2) := by decide +kernel
theorem dX8_indexes_10 : decode cX8_indexes 10 = .ok (.invokevirtual 69, 3) := by decide +kernel
theorem dX8_indexes_13 : decode cX8_indexes 13 = .ok (.ireturn, 1) := by decide +kernel
theorem dX8_indexes_14 : decode cX8_indexes 14 = .ok (.iconst 0, 1) := by decide +kernel
theorem dX8_indexes_15 : decode cX8_indexes 15 = .ok (.istore_n 1, 1) := by decide +kernel
theorem dX8_indexes_16 : decode cX8_indexes 16 = .ok (.bipush (-6), 2) := by decide +kernel
theorem dX8_indexes_18 : decode cX8_indexes 18 = .ok (.istore_n 2, 1) := by decide +kernel
theorem dX8_indexes_19 : decode cX8_indexes 19 = .ok (.iload_n 2, 1) := by decide +kernel
theorem dX8_indexes_20 : decode cX8_indexes 20 = .ok (.bipush 6, 2) := by decide +kernel
theorem dX8_indexes_22 : decode cX8_indexes 22 = .ok (.if_icmp .gt 81, 3) := by decide +kernel
theorem dX8_indexes_25 : decode cX8_indexes 25 = .ok (.bipush (-6), 2) := by decide +kernel
theorem dX8_indexes_27 : decode cX8_indexes 27 = .ok (.istore_n 3, 1) := by decide +kernel
theorem dX8_indexes_28 : decode cX8_indexes 28 = .ok (.iload_n 3, 1) := by decide +kernel
theorem dX8_indexes_29 : decode cX8_indexes 29 = .ok (.bipush 6, 2) := by decide +kernel
theorem dX8_indexes_31 : decode cX8_indexes 31 = .ok (.if_icmp .gt 66, 3) := by decide +kernel
theorem dX8_indexes_34 : decode cX8_indexes 34 = .ok (.aload_n 0, 1) := by decide +kernel
theorem dX8_indexes_35 : decode cX8_indexes 35 = .ok (.iload_n 2, 1) := by decide +kernel
theorem dX8_indexes_36 : decode cX8_indexes 36 = .ok (.iload_n 3, 1) := by decide +kernel
theorem dX8_indexes_37 : decode cX8_indexes 37 = .ok (.invokevirtual 101, 3) := by decide +kernel
theorem dX8_indexes_40 : decode cX8_indexes 40 = .ok (.ifCond .eq 51, 3) := by decide +kernel
theorem dX8_indexes_43 : decode cX8_indexes 43 = .ok (.aload_n 0, 1) := by decide +kernel
theorem dX8_indexes_44 : decode cX8_indexes 44 = .ok (.iload_n 2, 1) := by decide +kernel
theorem dX8_indexes_45 : decode cX8_indexes 45 = .ok (.iload_n 3, 1) := by decide +kernel
theorem dX8_indexes_46 : decode cX8_indexes 46 = .ok (.invokevirtual 135, 3) := by decide +kernel
theorem dX8_indexes_49 : decode cX8_indexes 49 = .ok (.iconst 2, 1) := by decide +kernel
theorem dX8_indexes_50 : decode cX8_indexes 50 = .ok (.if_icmp .eq 6, 3) := by decide +kernel
theorem dX8_indexes_53 : decode cX8_indexes 53 = .ok (.goto 38, 3) := by decide +kernel
theorem dX8_indexes_56 : decode cX8_indexes 56 = .ok (.aload_n 0, 1) := by decide +kernel
theorem dX8_indexes_57 : decode cX8_indexes 57 = .ok (.iload_n 2, 1) := by decide +kernel
theorem dX8_indexes_58 : decode cX8_indexes 58 = .ok (.iload_n 3, 1) := by decide +kernel
theorem dX8_indexes_59 : decode cX8_indexes 59 = .ok (.invokevirtual 104, 3) := by decide +kernel
theorem dX8_indexes_62 : decode cX8_indexes 62 = .ok (.istore 4, 2) := by decide +kernel
theorem dX8_indexes_64 : decode cX8_indexes 64 = .ok (.iload 4, 2) := by decide +kernel
theorem dX8_indexes_66 : decode cX8_indexes 66 = .ok (.iconst 5, 1) := by decide +kernel
theorem dX8_indexes_67 : decode cX8_indexes 67 = .ok (.if_icmp .ne 10, 3) := by decide +kernel
theorem dX8_indexes_70 : decode cX8_indexes 70 = .ok (.aload_n 0, 1) := by decide +kernel
theorem dX8_indexes_71 : decode cX8_indexes 71 = .ok (.ldc 100, 2) := by decide +kernel
theorem dX8_indexes_73 : decode cX8_indexes 73 = .ok (.invokevirtual 69, 3) := by decide +kernel
theorem dX8_indexes_76 : decode cX8_indexes 76 = .ok (.ireturn, 1) := by decide +kernel
theorem dX8_indexes_77 : decode cX8_indexes 77 = .ok (.iload_n 1, 1) := by decide +kernel
theorem dX8_indexes_78 : decode cX8_indexes 78 = .ok (.iload 4, 2) := by decide +kernel
theorem dX8_indexes_80 : decode cX8_indexes 80 = .ok (.iconst 1, 1) := by decide +kernel
theorem dX8_indexes_81 : decode cX8_indexes 81 = .ok (.if_icmp .ne 7, 3) := by decide +kernel
theorem dX8_indexes_84 : decode cX8_indexes 84 = .ok (.iconst (-1), 1) := by decide +kernel
theorem dX8_indexes_85 : decode cX8_indexes 85 = .ok (.goto 4, 3) := by decide +kernel
theorem dX8_indexes_88 : decode cX8_indexes 88 = .ok (.iconst 1, 1) := by decide +kernel
theorem dX8_indexes_89 : decode cX8_indexes 89 = .ok (.iadd, 1) := by decide +kernel
theorem dX8_indexes_90 : decode cX8_indexes 90 = .ok (.istore_n 1, 1) := by decide +kernel
theorem dX8_indexes_91 : decode cX8_indexes 91 = .ok (.iinc 3 1, 3) := by decide +kernel
theorem dX8_indexes_94 : decode cX8_indexes 94 = .ok (.goto (-66), 3) := by decide +kernel
theorem dX8_indexes_97 : decode cX8_indexes 97 = .ok (.iinc 2 1, 3) := by decide +kernel
theorem dX8_indexes_100 : decode cX8_indexes 100 = .ok (.goto (-81), 3) := by decide +kernel
theorem dX8_indexes_103 : decode cX8_indexes 103 = .ok (.iload_n 1, 1) := by decide +kernel
theorem dX8_indexes_104 : decode cX8_indexes 104 = .ok (.ireturn, 1) := by decide +kernel
theorem dX8_place_0 : decode cX8_place 0 = .ok (.iload_n 0, 1) := by decide +kernel
theorem dX8_place_1 : decode cX8_place 1 = .ok (.iload_n 1, 1) := by decide +kernel
theorem dX8_place_2 : decode cX8_place 2 = .ok (.iadd, 1) := by decide +kernel
theorem dX8_place_3 : decode cX8_place 3 = .ok (.istore_n 2, 1) := by decide +kernel
theorem dX8_place_4 : decode cX8_place 4 = .ok (.iload_n 2, 1) := by decide +kernel
theorem dX8_place_5 : decode cX8_place 5 = .ok (.ifCond .ne 7, 3) := by decide +kernel
theorem dX8_place_8 : decode cX8_place 8 = .ok (.iconst 0, 1) := by decide +kernel
theorem dX8_place_9 : decode cX8_place 9 = .ok (.goto 29, 3) := by decide +kernel
theorem dX8_place_12 : decode cX8_place 12 = .ok (.iload_n 2, 1) := by decide +kernel
theorem dX8_place_13 : decode cX8_place 13 = .ok (.iconst 1, 1) := by decide +kernel
theorem dX8_place_14 : decode cX8_place 14 = .ok (.if_icmp .ne 9, 3) := by decide +kernel
theorem dX8_place_17 : decode cX8_place 17 = .ok (.iconst 1, 1) := by decide +kernel
theorem dX8_place_18 : decode cX8_place 18 = .ok (.iload_n 1, 1) := by decide +kernel
theorem dX8_place_19 : decode cX8_place 19 = .ok (.iadd, 1) := by decide +kernel
theorem dX8_place_20 : decode cX8_place 20 = .ok (.goto 18, 3) := by decide +kernel
theorem dX8_place_23 : decode cX8_place 23 = .ok (.iload_n 2, 1) := by decide +kernel
theorem dX8_place_24 : decode cX8_place 24 = .ok (.iconst 2, 1) := by decide +kernel
theorem dX8_place_25 : decode cX8_place 25 = .ok (.if_icmp .ne 9, 3) := by decide +kernel
theorem dX8_place_28 : decode cX8_place 28 = .ok (.iconst 3, 1) := by decide +kernel
theorem dX8_place_29 : decode cX8_place 29 = .ok (.iload_n 1, 1) := by decide +kernel
theorem dX8_place_30 : decode cX8_place 30 = .ok (.iadd, 1) := by decide +kernel
theorem dX8_place_31 : decode cX8_place 31 = .ok (.goto 7, 3) := by decide +kernel
theorem dX8_place_34 : decode cX8_place 34 = .ok (.bipush 6, 2) := by decide +kernel
theorem dX8_place_36 : decode cX8_place 36 = .ok (.iload_n 1, 1) := by decide +kernel
theorem dX8_place_37 : decode cX8_place 37 = .ok (.iadd, 1) := by decide +kernel
theorem dX8_place_38 : decode cX8_place 38 = .ok (.ireturn, 1) := by decide +kernel
theorem dX8_xIn_0 : decode cX8_xIn 0 = .ok (.iload_n 0, 1) := by decide +kernel
theorem dX8_xIn_1 : decode cX8_xIn 1 = .ok (.iconst 1, 1) := by decide +kernel
theorem dX8_xIn_2 : decode cX8_xIn 2 = .ok (.if_icmp .eq 8, 3) := by decide +kernel
theorem dX8_xIn_5 : decode cX8_xIn 5 = .ok (.iload_n 0, 1) := by decide +kernel
theorem dX8_xIn_6 : decode cX8_xIn 6 = .ok (.iconst 4, 1) := by decide +kernel
theorem dX8_xIn_7 : decode cX8_xIn 7 = .ok (.if_icmp .ne 7, 3) := by decide +kernel
theorem dX8_xIn_10 : decode cX8_xIn 10 = .ok (.iconst 1, 1) := by decide +kernel
theorem dX8_xIn_11 : decode cX8_xIn 11 = .ok (.goto 13, 3) := by decide +kernel
theorem dX8_xIn_14 : decode cX8_xIn 14 = .ok (.iload_n 0, 1) := by decide +kernel
theorem dX8_xIn_15 : decode cX8_xIn 15 = .ok (.iconst 3, 1) := by decide +kernel
theorem dX8_xIn_16 : decode cX8_xIn 16 = .ok (.if_icmp .ne 7, 3) := by decide +kernel
theorem dX8_xIn_19 : decode cX8_xIn 19 = .ok (.iconst 2, 1) := by decide +kernel
theorem dX8_xIn_20 : decode cX8_xIn 20 = .ok (.goto 4, 3) := by decide +kernel
theorem dX8_xIn_23 : decode cX8_xIn 23 = .ok (.iconst 0, 1) := by decide +kernel
theorem dX8_xIn_24 : decode cX8_xIn 24 = .ok (.ireturn, 1) := by decide +kernel
theorem dX8_yIn_0 : decode cX8_yIn 0 = .ok (.iload_n 0, 1) := by decide +kernel
theorem dX8_yIn_1 : decode cX8_yIn 1 = .ok (.iconst 2, 1) := by decide +kernel
theorem dX8_yIn_2 : decode cX8_yIn 2 = .ok (.if_icmp .eq 8, 3) := by decide +kernel
theorem dX8_yIn_5 : decode cX8_yIn 5 = .ok (.iload_n 0, 1) := by decide +kernel
theorem dX8_yIn_6 : decode cX8_yIn 6 = .ok (.iconst 4, 1) := by decide +kernel
theorem dX8_yIn_7 : decode cX8_yIn 7 = .ok (.if_icmp .ne 7, 3) := by decide +kernel
theorem dX8_yIn_10 : decode cX8_yIn 10 = .ok (.iconst 1, 1) := by decide +kernel
theorem dX8_yIn_11 : decode cX8_yIn 11 = .ok (.goto 13, 3) := by decide +kernel
theorem dX8_yIn_14 : decode cX8_yIn 14 = .ok (.iload_n 0, 1) := by decide +kernel
theorem dX8_yIn_15 : decode cX8_yIn 15 = .ok (.iconst 5, 1) := by decide +kernel
theorem dX8_yIn_16 : decode cX8_yIn 16 = .ok (.if_icmp .ne 7, 3) := by decide +kernel
theorem dX8_yIn_19 : decode cX8_yIn 19 = .ok (.iconst 2, 1) := by decide +kernel
theorem dX8_yIn_20 : decode cX8_yIn 20 = .ok (.goto 4, 3) := by decide +kernel
theorem dX8_yIn_23 : decode cX8_yIn 23 = .ok (.iconst 0, 1) := by decide +kernel
theorem dX8_yIn_24 : decode cX8_yIn 24 = .ok (.ireturn, 1) := by decide +kernel
set_option maxRecDepth 20000 in
theorem ggX8_changes_X8_xIn : GoodIn wsX8_changes wsX8_xIn := goodIn_r _ [5] (by decide +kernel) (by decide +kernel)
set_option maxRecDepth 20000 in
theorem gX8_changes_X8_xIn : GoodIn wsX8_changes (va_wsS RX8 207 yX8_xIn wsX8_xIn) := goodIn_app (goodIn_of _ (by decide +kernel)) ggX8_changes_X8_xIn
set_option maxRecDepth 20000 in
theorem ggX8_changes_X8_yIn : GoodIn wsX8_changes wsX8_yIn := goodIn_r _ [8] (by decide +kernel) (by decide +kernel)
set_option maxRecDepth 20000 in
theorem gX8_changes_X8_yIn : GoodIn wsX8_changes (va_wsS RX8 210 yX8_yIn wsX8_yIn) := goodIn_app (goodIn_of _ (by decide +kernel)) ggX8_changes_X8_yIn
set_option maxRecDepth 20000 in
theorem ggX8_changes_X8_place : GoodIn wsX8_changes wsX8_place := goodIn_r _ [11] (by decide +kernel) (by decide +kernel)
set_option maxRecDepth 20000 in
theorem gX8_changes_X8_place : GoodIn wsX8_changes (va_wsS RX8 213 yX8_place wsX8_place) := goodIn_app (goodIn_of _ (by decide +kernel)) ggX8_changes_X8_place
set_option maxRecDepth 20000 in
theorem ggX8_changes_X8_get : GoodIn wsX8_changes wsX8_get := goodIn_r _ [15, 16, 17, 18, 19, 20, 21, 22, 23, 24, 25, 26, 27, 28, 29, 30, 31, 32, 33, 34, 35, 36, 37, 38, 39] (by decide +kernel) (by decide +kernel)
set_option maxRecDepth 20000 in
theorem gX8_changes_X8_get : GoodIn wsX8_changes (wsV RX8 76 RX8 yX8_get wsX8_get) := goodIn_app (goodIn_of _ (by decide +kernel)) ggX8_changes_X8_get
theorem dX8_changes_0 : decode cX8_changes 0 = .ok (.iconst 0, 1) := by decide +kernel
theorem dX8_changes_1 : decode cX8_changes 1 = .ok (.istore 6, 2) := by decide +kernel
theorem dX8_changes_3 : decode cX8_changes 3 = .ok (.iload 6, 2) := by decide +kernel
theorem dX8_changes_5 : decode cX8_changes 5 = .ok (.bipush 10, 2) := by decide +kernel
theorem dX8_changes_7 : decode cX8_changes 7 = .ok (.if_icmp .ge 17, 3) := by decide +kernel
theorem dX8_changes_10 : decode cX8_changes 10 = .ok (.aload_n 0, 1) := by decide +kernel
theorem dX8_changes_11 : decode cX8_changes 11 = .ok (.getfield 47, 3) := by decide +kernel
theorem dX8_changes_14 : decode cX8_changes 14 = .ok (.iload 6, 2) := by decide +kernel
theorem dX8_changes_16 : decode cX8_changes 16 = .ok (.lconst 0, 1) := by decide +kernel
theorem dX8_changes_17 : decode cX8_changes 17 = .ok (.lastore, 1) := by decide +kernel
theorem dX8_changes_18 : decode cX8_changes 18 = .ok (.iinc 6 1, 3) := by decide +kernel
theorem dX8_changes_21 : decode cX8_changes 21 = .ok (.goto (-18), 3) := by decide +kernel
theorem dX8_changes_24 : decode cX8_changes 24 = .ok (.iconst 0, 1) := by decide +kernel
theorem dX8_changes_25 : decode cX8_changes 25 = .ok (.istore 6, 2) := by decide +kernel
theorem dX8_changes_27 : decode cX8_changes 27 = .ok (.iload 6, 2) := by decide +kernel
theorem dX8_changes_29 : decode cX8_changes 29 = .ok (.bipush 6, 2) := by decide +kernel
theorem dX8_changes_31 : decode cX8_changes 31 = .ok (.if_icmp .ge 139, 3) := by decide +kernel
theorem dX8_changes_34 : decode cX8_changes 34 = .ok (.iload 6, 2) := by decide +kernel
theorem dX8_changes_36 : decode cX8_changes 36 = .ok (.invokestatic 207, 3) := by decide +kernel
theorem dX8_changes_39 : decode cX8_changes 39 = .ok (.istore 7, 2) := by decide +kernel
theorem dX8_changes_41 : decode cX8_changes 41 = .ok (.iload 6, 2) := by decide +kernel
theorem dX8_changes_43 : decode cX8_changes 43 = .ok (.invokestatic 210, 3) := by decide +kernel
theorem dX8_changes_46 : decode cX8_changes 46 = .ok (.istore 8, 2) := by decide +kernel
theorem dX8_changes_48 : decode cX8_changes 48 = .ok (.aload_n 0, 1) := by decide +kernel
theorem dX8_changes_49 : decode cX8_changes 49 = .ok (.getfield 47, 3) := by decide +kernel
theorem dX8_changes_52 : decode cX8_changes 52 = .ok (.iload 7, 2) := by decide +kernel
theorem dX8_changes_54 : decode cX8_changes 54 = .ok (.iload 8, 2) := by decide +kernel
theorem dX8_changes_56 : decode cX8_changes 56 = .ok (.invokestatic 213, 3) := by decide +kernel
theorem dX8_changes_59 : decode cX8_changes 59 = .ok (.dup2, 1) := by decide +kernel
theorem dX8_changes_60 : decode cX8_changes 60 = .ok (.laload, 1) := by decide +kernel
theorem dX8_changes_61 : decode cX8_changes 61 = .ok (.iload_n 1, 1) := by decide +kernel
theorem dX8_changes_62 : decode cX8_changes 62 = .ok (.aload_n 0, 1) := by decide +kernel
theorem dX8_changes_63 : decode cX8_changes 63 = .ok (.iconst 0, 1) := by decide +kernel
theorem dX8_changes_64 : decode cX8_changes 64 = .ok (.iload 6, 2) := by decide +kernel
theorem dX8_changes_66 : decode cX8_changes 66 = .ok (.invokevirtual 76, 3) := by decide +kernel
theorem dX8_changes_69 : decode cX8_changes 69 = .ok (.imul, 1) := by decide +kernel
theorem dX8_changes_70 : decode cX8_changes 70 = .ok (.iload_n 2, 1) := by decide +kernel
theorem dX8_changes_71 : decode cX8_changes 71 = .ok (.aload_n 0, 1) := by decide +kernel
theorem dX8_changes_72 : decode cX8_changes 72 = .ok (.iconst 1, 1) := by decide +kernel
theorem dX8_changes_73 : decode cX8_changes 73 = .ok (.iload 6, 2) := by decide +kernel
theorem dX8_changes_75 : decode cX8_changes 75 = .ok (.invokevirtual 76, 3) := by decide +kernel
theorem dX8_changes_78 : decode cX8_changes 78 = .ok (.imul, 1) := by decide +kernel
theorem dX8_changes_79 : decode cX8_changes 79 = .ok (.iadd, 1) := by decide +kernel
theorem dX8_changes_80 : decode cX8_changes 80 = .ok (.i2l, 1) := by decide +kernel
theorem dX8_changes_81 : decode cX8_changes 81 = .ok (.ladd, 1) := by decide +kernel
theorem dX8_changes_82 : decode cX8_changes 82 = .ok (.lastore, 1) := by decide +kernel
theorem dX8_changes_83 : decode cX8_changes 83 = .ok (.aload_n 0, 1) := by decide +kernel
theorem dX8_changes_84 : decode cX8_changes 84 = .ok (.getfield 47, 3) := by decide +kernel
theorem dX8_changes_87 : decode cX8_changes 87 = .ok (.iload 7, 2) := by decide +kernel
theorem dX8_changes_89 : decode cX8_changes 89 = .ok (.iconst 1, 1) := by decide +kernel
theorem dX8_changes_90 : decode cX8_changes 90 = .ok (.iadd, 1) := by decide +kernel
theorem dX8_changes_91 : decode cX8_changes 91 = .ok (.iload 8, 2) := by decide +kernel
theorem dX8_changes_93 : decode cX8_changes 93 = .ok (.invokestatic 213, 3) := by decide +kernel
theorem dX8_changes_96 : decode cX8_changes 96 = .ok (.dup2, 1) := by decide +kernel
theorem dX8_changes_97 : decode cX8_changes 97 = .ok (.laload, 1) := by decide +kernel
theorem dX8_changes_98 : decode cX8_changes 98 = .ok (.iconst 2, 1) := by decide +kernel
theorem dX8_changes_99 : decode cX8_changes 99 = .ok (.iload_n 3, 1) := by decide +kernel
theorem dX8_changes_100 : decode cX8_changes 100 = .ok (.imul, 1) := by decide +kernel
theorem dX8_changes_101 : decode cX8_changes 101 = .ok (.aload_n 0, 1) := by decide +kernel
theorem dX8_changes_102 : decode cX8_changes 102 = .ok (.iconst 0, 1) := by decide +kernel
theorem dX8_changes_103 : decode cX8_changes 103 = .ok (.iload 6, 2) := by decide +kernel
theorem dX8_changes_105 : decode cX8_changes 105 = .ok (.invokevirtual 76, 3) := by decide +kernel
theorem dX8_changes_108 : decode cX8_changes 108 = .ok (.imul, 1) := by decide +kernel
theorem dX8_changes_109 : decode cX8_changes 109 = .ok (.iload 4, 2) := by decide +kernel
theorem dX8_changes_111 : decode cX8_changes 111 = .ok (.aload_n 0, 1) := by decide +kernel
theorem dX8_changes_112 : decode cX8_changes 112 = .ok (.iconst 1, 1) := by decide +kernel
theorem dX8_changes_113 : decode cX8_changes 113 = .ok (.iload 6, 2) := by decide +kernel
theorem dX8_changes_115 : decode cX8_changes 115 = .ok (.invokevirtual 76, 3) := by decide +kernel
theorem dX8_changes_118 : decode cX8_changes 118 = .ok (.imul, 1) := by decide +kernel
theorem dX8_changes_119 : decode cX8_changes 119 = .ok (.iadd, 1) := by decide +kernel
theorem dX8_changes_120 : decode cX8_changes 120 = .ok (.i2l, 1) := by decide +kernel
theorem dX8_changes_121 : decode cX8_changes 121 = .ok (.ladd, 1) := by decide +kernel
theorem dX8_changes_122 : decode cX8_changes 122 = .ok (.lastore, 1) := by decide +kernel
theorem dX8_changes_123 : decode cX8_changes 123 = .ok (.aload_n 0, 1) := by decide +kernel
theorem dX8_changes_124 : decode cX8_changes 124 = .ok (.getfield 47, 3) := by decide +kernel
theorem dX8_changes_127 : decode cX8_changes 127 = .ok (.iload 7, 2) := by decide +kernel
theorem dX8_changes_129 : decode cX8_changes 129 = .ok (.iload 8, 2) := by decide +kernel
theorem dX8_changes_131 : decode cX8_changes 131 = .ok (.iconst 1, 1) := by decide +kernel
theorem dX8_changes_132 : decode cX8_changes 132 = .ok (.iadd, 1) := by decide +kernel
theorem dX8_changes_133 : decode cX8_changes 133 = .ok (.invokestatic 213, 3) := by decide +kernel
theorem dX8_changes_136 : decode cX8_changes 136 = .ok (.dup2, 1) := by decide +kernel
theorem dX8_changes_137 : decode cX8_changes 137 = .ok (.laload, 1) := by decide +kernel
theorem dX8_changes_138 : decode cX8_changes 138 = .ok (.iload 4, 2) := by decide +kernel
theorem dX8_changes_140 : decode cX8_changes 140 = .ok (.aload_n 0, 1) := by decide +kernel
theorem dX8_changes_141 : decode cX8_changes 141 = .ok (.iconst 0, 1) := by decide +kernel
theorem dX8_changes_142 : decode cX8_changes 142 = .ok (.iload 6, 2) := by decide +kernel
theorem dX8_changes_144 : decode cX8_changes 144 = .ok (.invokevirtual 76, 3) := by decide +kernel
theorem dX8_changes_147 : decode cX8_changes 147 = .ok (.imul, 1) := by decide +kernel
theorem dX8_changes_148 : decode cX8_changes 148 = .ok (.iconst 2, 1) := by decide +kernel
theorem dX8_changes_149 : decode cX8_changes 149 = .ok (.iload 5, 2) := by decide +kernel
theorem dX8_changes_151 : decode cX8_changes 151 = .ok (.imul, 1) := by decide +kernel
theorem dX8_changes_152 : decode cX8_changes 152 = .ok (.aload_n 0, 1) := by decide +kernel
theorem dX8_changes_153 : decode cX8_changes 153 = .ok (.iconst 1, 1) := by decide +kernel
theorem dX8_changes_154 : decode cX8_changes 154 = .ok (.iload 6, 2) := by decide +kernel
theorem dX8_changes_156 : decode cX8_changes 156 = .ok (.invokevirtual 76, 3) := by decide +kernel
theorem dX8_changes_159 : decode cX8_changes 159 = .ok (.imul, 1) := by decide +kernel
theorem dX8_changes_160 : decode cX8_changes 160 = .ok (.iadd, 1) := by decide +kernel
theorem dX8_changes_161 : decode cX8_changes 161 = .ok (.i2l, 1) := by decide +kernel
theorem dX8_changes_162 : decode cX8_changes 162 = .ok (.ladd, 1) := by decide +kernel
theorem dX8_changes_163 : decode cX8_changes 163 = .ok (.lastore, 1) := by decide +kernel
theorem dX8_changes_164 : decode cX8_changes 164 = .ok (.iinc 6 1, 3) := by decide +kernel
theorem dX8_changes_167 : decode cX8_changes 167 = .ok (.goto (-140), 3) := by decide +kernel
theorem dX8_changes_170 : decode cX8_changes 170 = .ok (.return_, 1) := by decide +kernel
set_option maxRecDepth 20000 in
theorem ggX8_areSmall_X8_in : GoodIn wsX8_areSmall wsX8_in := goodIn_r _ [4] (by decide +kernel) (by decide +kernel)
set_option maxRecDepth 20000 in
theorem gX8_areSmall_X8_in : GoodIn wsX8_areSmall (va_wsS RX8 61 yX8_in wsX8_in) := goodIn_app (goodIn_of _ (by decide +kernel)) ggX8_areSmall_X8_in
theorem dX8_areSmall_0 : decode cX8_areSmall 0 = .ok (.iload_n 0, 1) := by decide +kernel
theorem dX8_areSmall_1 : decode cX8_areSmall 1 = .ok (.bipush (-9), 2) := by decide +kernel
theorem dX8_areSmall_3 : decode cX8_areSmall 3 = .ok (.bipush 9, 2) := by decide +kernel
theorem dX8_areSmall_5 : decode cX8_areSmall 5 = .ok (.invokestatic 61, 3) := by decide +kernel
theorem dX8_areSmall_8 : decode cX8_areSmall 8 = .ok (.ifCond .eq 52, 3) := by decide +kernel
theorem dX8_areSmall_11 : decode cX8_areSmall 11 = .ok (.iload_n 1, 1) := by decide +kernel
theorem dX8_areSmall_12 : decode cX8_areSmall 12 = .ok (.bipush (-9), 2) := by decide +kernel
theorem dX8_areSmall_14 : decode cX8_areSmall 14 = .ok (.bipush 9, 2) := by decide +kernel
theorem dX8_areSmall_16 : decode cX8_areSmall 16 = .ok (.invokestatic 61, 3) := by decide +kernel
theorem dX8_areSmall_19 : decode cX8_areSmall 19 = .ok (.ifCond .eq 41, 3) := by decide +kernel
theorem dX8_areSmall_22 : decode cX8_areSmall 22 = .ok (.iload_n 2, 1) := by decide +kernel
theorem dX8_areSmall_23 : decode cX8_areSmall 23 = .ok (.bipush (-9), 2) := by decide +kernel
theorem dX8_areSmall_25 : decode cX8_areSmall 25 = .ok (.bipush 9, 2) := by decide +kernel
theorem dX8_areSmall_27 : decode cX8_areSmall 27 = .ok (.invokestatic 61, 3) := by decide +kernel
theorem dX8_areSmall_30 : decode cX8_areSmall 30 = .ok (.ifCond .eq 30, 3) := by decide +kernel
theorem dX8_areSmall_33 : decode cX8_areSmall 33 = .ok (.iload_n 3, 1) := by decide +kernel
theorem dX8_areSmall_34 : decode cX8_areSmall 34 = .ok (.bipush (-9), 2) := by decide +kernel
theorem dX8_areSmall_36 : decode cX8_areSmall 36 = .ok (.bipush 9, 2) := by decide +kernel
theorem dX8_areSmall_38 : decode cX8_areSmall 38 = .ok (.invokestatic 61, 3) := by decide +kernel
theorem dX8_areSmall_41 : decode cX8_areSmall 41 = .ok (.ifCond .eq 19, 3) := by decide +kernel
theorem dX8_areSmall_44 : decode cX8_areSmall 44 = .ok (.iload 4, 2) := by decide +kernel
theorem dX8_areSmall_46 : decode cX8_areSmall 46 = .ok (.bipush (-9), 2) := by decide +kernel
theorem dX8_areSmall_48 : decode cX8_areSmall 48 = .ok (.bipush 9, 2) := by decide +kernel
theorem dX8_areSmall_50 : decode cX8_areSmall 50 = .ok (.invokestatic 61, 3) := by decide +kernel
theorem dX8_areSmall_53 : decode cX8_areSmall 53 = .ok (.ifCond .eq 7, 3) := by decide +kernel
theorem dX8_areSmall_56 : decode cX8_areSmall 56 = .ok (.iconst 1, 1) := by decide +kernel
theorem dX8_areSmall_57 : decode cX8_areSmall 57 = .ok (.goto 4, 3) := by decide +kernel
theorem dX8_areSmall_60 : decode cX8_areSmall 60 = .ok (.iconst 0, 1) := by decide +kernel
theorem dX8_areSmall_61 : decode cX8_areSmall 61 = .ok (.ireturn, 1) := by decide +kernel
set_option maxRecDepth 20000 in
theorem ggX8_along_X8_areSmall : GoodIn wsX8_along wsX8_areSmall := goodIn_r _ [6, 7, 8, 5, 9] (by decide +kernel) (by decide +kernel)
set_option maxRecDepth 20000 in
theorem gX8_along_X8_areSmall : GoodIn wsX8_along (va_wsS RX8 216 yX8_areSmall wsX8_areSmall) := goodIn_app (goodIn_of _ (by decide +kernel)) ggX8_along_X8_areSmall
set_option maxRecDepth 20000 in
theorem ggX8_along_X8_in : GoodIn wsX8_along wsX8_in := goodIn_r _ [9] (by decide +kernel) (by decide +kernel)
set_option maxRecDepth 20000 in
theorem gX8_along_X8_in : GoodIn wsX8_along (va_wsS RX8 61 yX8_in wsX8_in) := goodIn_app (goodIn_of _ (by decide +kernel)) ggX8_along_X8_in
set_option maxRecDepth 20000 in
theorem ggX8_along_X8_found : GoodIn wsX8_along wsX8_found := goodIn_r _ [13, 14, 33, 34, 35, 36, 37, 38, 39, 40, 41, 42, 43, 44, 45, 46, 47, 48, 49, 50, 51, 52, 53, 54, 55] (by decide +kernel) (by decide +kernel)
set_option maxRecDepth 20000 in
theorem gX8_along_X8_found : GoodIn wsX8_along (wsV RX8 69 RX8 yX8_found wsX8_found) := goodIn_app (goodIn_of _ (by decide +kernel)) ggX8_along_X8_found
set_option maxRecDepth 20000 in
theorem ggX8_along_X8_changes : GoodIn wsX8_along wsX8_changes := goodIn_r _ [18, 2, 19, 20, 5, 21, 22, 23, 24, 25, 26, 27, 28, 29, 30, 31, 32, 33, 34, 35, 36, 37, 38, 39, 40, 41, 42, 43, 44, 45, 46, 47, 48, 49, 50, 51, 52, 53, 54, 55] (by decide +kernel) (by decide +kernel)
set_option maxRecDepth 20000 in
theorem gX8_along_X8_changes : GoodIn wsX8_along (wsV RX8 220 RX8 yX8_changes wsX8_changes) := goodIn_app (goodIn_of _ (by decide +kernel)) ggX8_along_X8_changes
theorem dX8_along_0 : decode cX8_along 0 = .ok (.iload_n 1, 1) := by decide +kernel
theorem dX8_along_1 : decode cX8_along 1 = .ok (.iload_n 2, 1) := by decide +kernel
theorem dX8_along_2 : decode cX8_along 2 = .ok (.iload_n 3, 1) := by decide +kernel
theorem dX8_along_3 : decode cX8_along 3 = .ok (.iload 4, 2) := by decide +kernel
theorem dX8_along_5 : decode cX8_along 5 = .ok (.iload 5, 2) := by decide +kernel
theorem dX8_along_7 : decode cX8_along 7 = .ok (.invokestatic 216, 3) := by decide +kernel
theorem dX8_along_10 : decode cX8_along 10 = .ok (.ifCond .eq 14, 3) := by decide +kernel
theorem dX8_along_13 : decode cX8_along 13 = .ok (.iload 6, 2) := by decide +kernel
theorem dX8_along_15 : decode cX8_along 15 = .ok (.iconst 0, 1) := by decide +kernel
theorem dX8_along_16 : decode cX8_along 16 = .ok (.bipush 9, 2) := by decide +kernel
theorem dX8_along_18 : decode cX8_along 18 = .ok (.invokestatic 61, 3) := by decide +kernel
theorem dX8_along_21 : decode cX8_along 21 = .ok (.ifCond .ne 10, 3) := by decide +kernel
theorem dX8_along_24 : decode cX8_along 24 = .ok (.aload_n 0, 1) := by decide +kernel
theorem dX8_along_25 : decode cX8_along 25 = .ok (.ldc 68, 2) := by decide +kernel
theorem dX8_along_27 : decode cX8_along 27 = .ok (.invokevirtual 69, 3) := by decide +kernel
theorem dX8_along_30 : decode cX8_along 30 = .ok (.ireturn, 1) := by decide +kernel
theorem dX8_along_31 : decode cX8_along 31 = .ok (.aload_n 0, 1) := by decide +kernel
theorem dX8_along_32 : decode cX8_along 32 = .ok (.iload_n 1, 1) := by decide +kernel
theorem dX8_along_33 : decode cX8_along 33 = .ok (.iload_n 2, 1) := by decide +kernel
theorem dX8_along_34 : decode cX8_along 34 = .ok (.iload_n 3, 1) := by decide +kernel
theorem dX8_along_35 : decode cX8_along 35 = .ok (.iload 4, 2) := by decide +kernel
theorem dX8_along_37 : decode cX8_along 37 = .ok (.iload 5, 2) := by decide +kernel
theorem dX8_along_39 : decode cX8_along 39 = .ok (.invokevirtual 220, 3) := by decide +kernel
theorem dX8_along_42 : decode cX8_along 42 = .ok (.aload_n 0, 1) := by decide +kernel
theorem dX8_along_43 : decode cX8_along 43 = .ok (.getfield 47, 3) := by decide +kernel
theorem dX8_along_46 : decode cX8_along 46 = .ok (.iload 6, 2) := by decide +kernel
theorem dX8_along_48 : decode cX8_along 48 = .ok (.laload, 1) := by decide +kernel
theorem dX8_along_49 : decode cX8_along 49 = .ok (.l2i, 1) := by decide +kernel
theorem dX8_along_50 : decode cX8_along 50 = .ok (.ireturn, 1) := by decide +kernel
set_option maxRecDepth 20000 in
theorem ggX8_falls_X8_areSmall : GoodIn wsX8_falls wsX8_areSmall := goodIn_r _ [5, 6, 7, 4, 8] (by decide +kernel) (by decide +kernel)
set_option maxRecDepth 20000 in
theorem gX8_falls_X8_areSmall : GoodIn wsX8_falls (va_wsS RX8 216 yX8_areSmall wsX8_areSmall) := goodIn_app (goodIn_of _ (by decide +kernel)) ggX8_falls_X8_areSmall
set_option maxRecDepth 20000 in
theorem ggX8_falls_X8_isPlace : GoodIn wsX8_falls wsX8_isPlace := goodIn_r _ [11, 6, 7, 4, 8] (by decide +kernel) (by decide +kernel)
set_option maxRecDepth 20000 in
theorem gX8_falls_X8_isPlace : GoodIn wsX8_falls (va_wsS RX8 80 yX8_isPlace wsX8_isPlace) := goodIn_app (goodIn_of _ (by decide +kernel)) ggX8_falls_X8_isPlace
set_option maxRecDepth 20000 in
theorem ggX8_falls_X8_found : GoodIn wsX8_falls wsX8_found := goodIn_r _ [15, 16, 26, 27, 28, 29, 30, 31, 32, 33, 34, 35, 36, 37, 38, 39, 40, 41, 42, 43, 44, 45, 46, 47, 48] (by decide +kernel) (by decide +kernel)
set_option maxRecDepth 20000 in
theorem gX8_falls_X8_found : GoodIn wsX8_falls (wsV RX8 69 RX8 yX8_found wsX8_found) := goodIn_app (goodIn_of _ (by decide +kernel)) ggX8_falls_X8_found
set_option maxRecDepth 20000 in
theorem ggX8_falls_X8_speedAt : GoodIn wsX8_falls wsX8_speedAt := goodIn_r _ [20, 21, 22, 23, 4, 24, 25, 26, 27, 28, 29, 30, 31, 32, 33, 34, 35, 36, 37, 38, 39, 40, 41, 42, 43, 44, 45, 46, 47, 48] (by decide +kernel) (by decide +kernel)
set_option maxRecDepth 20000 in
theorem gX8_falls_X8_speedAt : GoodIn wsX8_falls (wsV RX8 84 RX8 yX8_speedAt wsX8_speedAt) := goodIn_app (goodIn_of _ (by decide +kernel)) ggX8_falls_X8_speedAt
theorem dX8_falls_0 : decode cX8_falls 0 = .ok (.iload_n 1, 1) := by decide +kernel
theorem dX8_falls_1 : decode cX8_falls 1 = .ok (.iload_n 2, 1) := by decide +kernel
theorem dX8_falls_2 : decode cX8_falls 2 = .ok (.iload_n 3, 1) := by decide +kernel
theorem dX8_falls_3 : decode cX8_falls 3 = .ok (.iload 4, 2) := by decide +kernel
theorem dX8_falls_5 : decode cX8_falls 5 = .ok (.iload 5, 2) := by decide +kernel
theorem dX8_falls_7 : decode cX8_falls 7 = .ok (.invokestatic 216, 3) := by decide +kernel
theorem dX8_falls_10 : decode cX8_falls 10 = .ok (.ifCond .eq 13, 3) := by decide +kernel
theorem dX8_falls_13 : decode cX8_falls 13 = .ok (.iload 6, 2) := by decide +kernel
theorem dX8_falls_15 : decode cX8_falls 15 = .ok (.iload 7, 2) := by decide +kernel
theorem dX8_falls_17 : decode cX8_falls 17 = .ok (.invokestatic 80, 3) := by decide +kernel
theorem dX8_falls_20 : decode cX8_falls 20 = .ok (.ifCond .ne 10, 3) := by decide +kernel
theorem dX8_falls_23 : decode cX8_falls 23 = .ok (.aload_n 0, 1) := by decide +kernel
theorem dX8_falls_24 : decode cX8_falls 24 = .ok (.ldc 68, 2) := by decide +kernel
theorem dX8_falls_26 : decode cX8_falls 26 = .ok (.invokevirtual 69, 3) := by decide +kernel
theorem dX8_falls_29 : decode cX8_falls 29 = .ok (.ireturn, 1) := by decide +kernel
theorem dX8_falls_30 : decode cX8_falls 30 = .ok (.iload_n 1, 1) := by decide +kernel
theorem dX8_falls_31 : decode cX8_falls 31 = .ok (.iconst 2, 1) := by decide +kernel
theorem dX8_falls_32 : decode cX8_falls 32 = .ok (.iload_n 3, 1) := by decide +kernel
theorem dX8_falls_33 : decode cX8_falls 33 = .ok (.imul, 1) := by decide +kernel
theorem dX8_falls_34 : decode cX8_falls 34 = .ok (.iload 6, 2) := by decide +kernel
theorem dX8_falls_36 : decode cX8_falls 36 = .ok (.imul, 1) := by decide +kernel
theorem dX8_falls_37 : decode cX8_falls 37 = .ok (.iadd, 1) := by decide +kernel
theorem dX8_falls_38 : decode cX8_falls 38 = .ok (.iload 4, 2) := by decide +kernel
theorem dX8_falls_40 : decode cX8_falls 40 = .ok (.iload 7, 2) := by decide +kernel
theorem dX8_falls_42 : decode cX8_falls 42 = .ok (.imul, 1) := by decide +kernel
theorem dX8_falls_43 : decode cX8_falls 43 = .ok (.iadd, 1) := by decide +kernel
theorem dX8_falls_44 : decode cX8_falls 44 = .ok (.aload_n 0, 1) := by decide +kernel
theorem dX8_falls_45 : decode cX8_falls 45 = .ok (.iload 6, 2) := by decide +kernel
theorem dX8_falls_47 : decode cX8_falls 47 = .ok (.iload 7, 2) := by decide +kernel
theorem dX8_falls_49 : decode cX8_falls 49 = .ok (.iconst 0, 1) := by decide +kernel
theorem dX8_falls_50 : decode cX8_falls 50 = .ok (.invokevirtual 84, 3) := by decide +kernel
theorem dX8_falls_53 : decode cX8_falls 53 = .ok (.imul, 1) := by decide +kernel
theorem dX8_falls_54 : decode cX8_falls 54 = .ok (.iload_n 2, 1) := by decide +kernel
theorem dX8_falls_55 : decode cX8_falls 55 = .ok (.iload 4, 2) := by decide +kernel
theorem dX8_falls_57 : decode cX8_falls 57 = .ok (.iload 6, 2) := by decide +kernel
theorem dX8_falls_59 : decode cX8_falls 59 = .ok (.imul, 1) := by decide +kernel
theorem dX8_falls_60 : decode cX8_falls 60 = .ok (.iadd, 1) := by decide +kernel
theorem dX8_falls_61 : decode cX8_falls 61 = .ok (.iconst 2, 1) := by decide +kernel
theorem dX8_falls_62 : decode cX8_falls 62 = .ok (.iload 5, 2) := by decide +kernel
theorem dX8_falls_64 : decode cX8_falls 64 = .ok (.imul, 1) := by decide +kernel
theorem dX8_falls_65 : decode cX8_falls 65 = .ok (.iload 7, 2) := by decide +kernel
theorem dX8_falls_67 : decode cX8_falls 67 = .ok (.imul, 1) := by decide +kernel
theorem dX8_falls_68 : decode cX8_falls 68 = .ok (.iadd, 1) := by decide +kernel
theorem dX8_falls_69 : decode cX8_falls 69 = .ok (.aload_n 0, 1) := by decide +kernel
theorem dX8_falls_70 : decode cX8_falls 70 = .ok (.iload 6, 2) := by decide +kernel
theorem dX8_falls_72 : decode cX8_falls 72 = .ok (.iload 7, 2) := by decide +kernel
theorem dX8_falls_74 : decode cX8_falls 74 = .ok (.iconst 1, 1) := by decide +kernel
theorem dX8_falls_75 : decode cX8_falls 75 = .ok (.invokevirtual 84, 3) := by decide +kernel
theorem dX8_falls_78 : decode cX8_falls 78 = .ok (.imul, 1) := by decide +kernel
theorem dX8_falls_79 : decode cX8_falls 79 = .ok (.iadd, 1) := by decide +kernel
theorem dX8_falls_80 : decode cX8_falls 80 = .ok (.ireturn, 1) := by decide +kernel
set_option maxRecDepth 20000 in
theorem ggX8_kept_X8_changes : GoodIn wsX8_kept wsX8_changes := goodIn_r _ [7, 2, 8, 9, 6, 10, 11, 12, 13, 14, 15, 16, 17, 18, 19, 20, 21, 22, 23, 24, 25, 26, 27, 28, 29, 30, 31, 32, 33, 34, 35, 36, 37, 38, 39, 40, 41, 42, 43, 44] (by decide +kernel) (by decide +kernel)
set_option maxRecDepth 20000 in
theorem gX8_kept_X8_changes : GoodIn wsX8_kept (wsV RX8 220 RX8 yX8_changes wsX8_changes) := goodIn_app (goodIn_of _ (by decide +kernel)) ggX8_kept_X8_changes
theorem dX8_kept_0 : decode cX8_kept 0 = .ok (.iconst 0, 1) := by decide +kernel
theorem dX8_kept_1 : decode cX8_kept 1 = .ok (.istore_n 1, 1) := by decide +kernel
theorem dX8_kept_2 : decode cX8_kept 2 = .ok (.iload_n 1, 1) := by decide +kernel
theorem dX8_kept_3 : decode cX8_kept 3 = .ok (.iconst 5, 1) := by decide +kernel
theorem dX8_kept_4 : decode cX8_kept 4 = .ok (.if_icmp .ge 93, 3) := by decide +kernel
theorem dX8_kept_7 : decode cX8_kept 7 = .ok (.aload_n 0, 1) := by decide +kernel
theorem dX8_kept_8 : decode cX8_kept 8 = .ok (.iload_n 1, 1) := by decide +kernel
theorem dX8_kept_9 : decode cX8_kept 9 = .ok (.ifCond .ne 7, 3) := by decide +kernel
theorem dX8_kept_12 : decode cX8_kept 12 = .ok (.iconst 1, 1) := by decide +kernel
theorem dX8_kept_13 : decode cX8_kept 13 = .ok (.goto 4, 3) := by decide +kernel
theorem dX8_kept_16 : decode cX8_kept 16 = .ok (.iconst 0, 1) := by decide +kernel
theorem dX8_kept_17 : decode cX8_kept 17 = .ok (.iload_n 1, 1) := by decide +kernel
theorem dX8_kept_18 : decode cX8_kept 18 = .ok (.iconst 1, 1) := by decide +kernel
theorem dX8_kept_19 : decode cX8_kept 19 = .ok (.if_icmp .ne 7, 3) := by decide +kernel
theorem dX8_kept_22 : decode cX8_kept 22 = .ok (.iconst 1, 1) := by decide +kernel
theorem dX8_kept_23 : decode cX8_kept 23 = .ok (.goto 4, 3) := by decide +kernel
theorem dX8_kept_26 : decode cX8_kept 26 = .ok (.iconst 0, 1) := by decide +kernel
theorem dX8_kept_27 : decode cX8_kept 27 = .ok (.iload_n 1, 1) := by decide +kernel
theorem dX8_kept_28 : decode cX8_kept 28 = .ok (.iconst 2, 1) := by decide +kernel
theorem dX8_kept_29 : decode cX8_kept 29 = .ok (.if_icmp .ne 7, 3) := by decide +kernel
theorem dX8_kept_32 : decode cX8_kept 32 = .ok (.iconst 1, 1) := by decide +kernel
theorem dX8_kept_33 : decode cX8_kept 33 = .ok (.goto 4, 3) := by decide +kernel
theorem dX8_kept_36 : decode cX8_kept 36 = .ok (.iconst 0, 1) := by decide +kernel
theorem dX8_kept_37 : decode cX8_kept 37 = .ok (.iload_n 1, 1) := by decide +kernel
theorem dX8_kept_38 : decode cX8_kept 38 = .ok (.iconst 3, 1) := by decide +kernel
theorem dX8_kept_39 : decode cX8_kept 39 = .ok (.if_icmp .ne 7, 3) := by decide +kernel
theorem dX8_kept_42 : decode cX8_kept 42 = .ok (.iconst 1, 1) := by decide +kernel
theorem dX8_kept_43 : decode cX8_kept 43 = .ok (.goto 4, 3) := by decide +kernel
theorem dX8_kept_46 : decode cX8_kept 46 = .ok (.iconst 0, 1) := by decide +kernel
theorem dX8_kept_47 : decode cX8_kept 47 = .ok (.iload_n 1, 1) := by decide +kernel
theorem dX8_kept_48 : decode cX8_kept 48 = .ok (.iconst 4, 1) := by decide +kernel
theorem dX8_kept_49 : decode cX8_kept 49 = .ok (.if_icmp .ne 7, 3) := by decide +kernel
theorem dX8_kept_52 : decode cX8_kept 52 = .ok (.iconst 1, 1) := by decide +kernel
theorem dX8_kept_53 : decode cX8_kept 53 = .ok (.goto 4, 3) := by decide +kernel
theorem dX8_kept_56 : decode cX8_kept 56 = .ok (.iconst 0, 1) := by decide +kernel
theorem dX8_kept_57 : decode cX8_kept 57 = .ok (.invokevirtual 220, 3) := by decide +kernel
theorem dX8_kept_60 : decode cX8_kept 60 = .ok (.iconst 0, 1) := by decide +kernel
theorem dX8_kept_61 : decode cX8_kept 61 = .ok (.istore_n 2, 1) := by decide +kernel
theorem dX8_kept_62 : decode cX8_kept 62 = .ok (.iload_n 2, 1) := by decide +kernel
theorem dX8_kept_63 : decode cX8_kept 63 = .ok (.bipush 10, 2) := by decide +kernel
theorem dX8_kept_65 : decode cX8_kept 65 = .ok (.if_icmp .ge 26, 3) := by decide +kernel
theorem dX8_kept_68 : decode cX8_kept 68 = .ok (.aload_n 0, 1) := by decide +kernel
theorem dX8_kept_69 : decode cX8_kept 69 = .ok (.getfield 51, 3) := by decide +kernel
theorem dX8_kept_72 : decode cX8_kept 72 = .ok (.bipush 10, 2) := by decide +kernel
theorem dX8_kept_74 : decode cX8_kept 74 = .ok (.iload_n 1, 1) := by decide +kernel
theorem dX8_kept_75 : decode cX8_kept 75 = .ok (.imul, 1) := by decide +kernel
theorem dX8_kept_76 : decode cX8_kept 76 = .ok (.iload_n 2, 1) := by decide +kernel
theorem dX8_kept_77 : decode cX8_kept 77 = .ok (.iadd, 1) := by decide +kernel
theorem dX8_kept_78 : decode cX8_kept 78 = .ok (.aload_n 0, 1) := by decide +kernel
theorem dX8_kept_79 : decode cX8_kept 79 = .ok (.getfield 47, 3) := by decide +kernel
theorem dX8_kept_82 : decode cX8_kept 82 = .ok (.iload_n 2, 1) := by decide +kernel
theorem dX8_kept_83 : decode cX8_kept 83 = .ok (.laload, 1) := by decide +kernel
theorem dX8_kept_84 : decode cX8_kept 84 = .ok (.lastore, 1) := by decide +kernel
theorem dX8_kept_85 : decode cX8_kept 85 = .ok (.iinc 2 1, 3) := by decide +kernel
theorem dX8_kept_88 : decode cX8_kept 88 = .ok (.goto (-26), 3) := by decide +kernel
theorem dX8_kept_91 : decode cX8_kept 91 = .ok (.iinc 1 1, 3) := by decide +kernel
theorem dX8_kept_94 : decode cX8_kept 94 = .ok (.goto (-92), 3) := by decide +kernel
theorem dX8_kept_97 : decode cX8_kept 97 = .ok (.iconst 0, 1) := by decide +kernel
theorem dX8_kept_98 : decode cX8_kept 98 = .ok (.istore_n 1, 1) := by decide +kernel
theorem dX8_kept_99 : decode cX8_kept 99 = .ok (.lconst 1, 1) := by decide +kernel
theorem dX8_kept_100 : decode cX8_kept 100 = .ok (.lstore_n 2, 1) := by decide +kernel
theorem dX8_kept_101 : decode cX8_kept 101 = .ok (.iconst 0, 1) := by decide +kernel
theorem dX8_kept_102 : decode cX8_kept 102 = .ok (.istore 4, 2) := by decide +kernel
theorem dX8_kept_104 : decode cX8_kept 104 = .ok (.iload 4, 2) := by decide +kernel
theorem dX8_kept_106 : decode cX8_kept 106 = .ok (.bipush 10, 2) := by decide +kernel
theorem dX8_kept_108 : decode cX8_kept 108 = .ok (.if_icmp .ge 241, 3) := by decide +kernel
theorem dX8_kept_111 : decode cX8_kept 111 = .ok (.iload_n 1, 1) := by decide +kernel
theorem dX8_kept_112 : decode cX8_kept 112 = .ok (.iconst 5, 1) := by decide +kernel
theorem dX8_kept_113 : decode cX8_kept 113 = .ok (.if_icmp .ge 236, 3) := by decide +kernel
theorem dX8_kept_116 : decode cX8_kept 116 = .ok (.iload_n 1, 1) := by decide +kernel
theorem dX8_kept_117 : decode cX8_kept 117 = .ok (.istore 5, 2) := by decide +kernel
theorem dX8_kept_119 : decode cX8_kept 119 = .ok (.iload 5, 2) := by decide +kernel
theorem dX8_kept_121 : decode cX8_kept 121 = .ok (.iconst 5, 1) := by decide +kernel
theorem dX8_kept_122 : decode cX8_kept 122 = .ok (.if_icmp .ge 27, 3) := by decide +kernel
theorem dX8_kept_125 : decode cX8_kept 125 = .ok (.aload_n 0, 1) := by decide +kernel
theorem dX8_kept_126 : decode cX8_kept 126 = .ok (.getfield 51, 3) := by decide +kernel
theorem dX8_kept_129 : decode cX8_kept 129 = .ok (.bipush 10, 2) := by decide +kernel
theorem dX8_kept_131 : decode cX8_kept 131 = .ok (.iload 5, 2) := by decide +kernel
theorem dX8_kept_133 : decode cX8_kept 133 = .ok (.imul, 1) := by decide +kernel
theorem dX8_kept_134 : decode cX8_kept 134 = .ok (.iload 4, 2) := by decide +kernel
theorem dX8_kept_136 : decode cX8_kept 136 = .ok (.iadd, 1) := by decide +kernel
theorem dX8_kept_137 : decode cX8_kept 137 = .ok (.laload, 1) := by decide +kernel
theorem dX8_kept_138 : decode cX8_kept 138 = .ok (.lconst 0, 1) := by decide +kernel
theorem dX8_kept_139 : decode cX8_kept 139 = .ok (.lcmp, 1) := by decide +kernel
theorem dX8_kept_140 : decode cX8_kept 140 = .ok (.ifCond .ne 9, 3) := by decide +kernel
theorem dX8_kept_143 : decode cX8_kept 143 = .ok (.iinc 5 1, 3) := by decide +kernel
theorem dX8_kept_146 : decode cX8_kept 146 = .ok (.goto (-27), 3) := by decide +kernel
theorem dX8_kept_149 : decode cX8_kept 149 = .ok (.iload 5, 2) := by decide +kernel
theorem dX8_kept_151 : decode cX8_kept 151 = .ok (.iconst 5, 1) := by decide +kernel
theorem dX8_kept_152 : decode cX8_kept 152 = .ok (.if_icmp .ne 6, 3) := by decide +kernel
theorem dX8_kept_155 : decode cX8_kept 155 = .ok (.goto 188, 3) := by decide +kernel
theorem dX8_kept_158 : decode cX8_kept 158 = .ok (.iconst 0, 1) := by decide +kernel
theorem dX8_kept_159 : decode cX8_kept 159 = .ok (.istore 6, 2) := by decide +kernel
theorem dX8_kept_161 : decode cX8_kept 161 = .ok (.iload 6, 2) := by decide +kernel
theorem dX8_kept_163 : decode cX8_kept 163 = .ok (.bipush 10, 2) := by decide +kernel
theorem dX8_kept_165 : decode cX8_kept 165 = .ok (.if_icmp .ge 63, 3) := by decide +kernel
theorem dX8_kept_168 : decode cX8_kept 168 = .ok (.aload_n 0, 1) := by decide +kernel
theorem dX8_kept_169 : decode cX8_kept 169 = .ok (.getfield 51, 3) := by decide +kernel
theorem dX8_kept_172 : decode cX8_kept 172 = .ok (.bipush 10, 2) := by decide +kernel
theorem dX8_kept_174 : decode cX8_kept 174 = .ok (.iload 5, 2) := by decide +kernel
theorem dX8_kept_176 : decode cX8_kept 176 = .ok (.imul, 1) := by decide +kernel
theorem dX8_kept_177 : decode cX8_kept 177 = .ok (.iload 6, 2) := by decide +kernel
theorem dX8_kept_179 : decode cX8_kept 179 = .ok (.iadd, 1) := by decide +kernel
theorem dX8_kept_180 : decode cX8_kept 180 = .ok (.laload, 1) := by decide +kernel
theorem dX8_kept_181 : decode cX8_kept 181 = .ok (.lstore 7, 2) := by decide +kernel
theorem dX8_kept_183 : decode cX8_kept 183 = .ok (.aload_n 0, 1) := by decide +kernel
theorem dX8_kept_184 : decode cX8_kept 184 = .ok (.getfield 51, 3) := by decide +kernel
theorem dX8_kept_187 : decode cX8_kept 187 = .ok (.bipush 10, 2) := by decide +kernel
theorem dX8_kept_189 : decode cX8_kept 189 = .ok (.iload 5, 2) := by decide +kernel
theorem dX8_kept_191 : decode cX8_kept 191 = .ok (.imul, 1) := by decide +kernel
theorem dX8_kept_192 : decode cX8_kept 192 = .ok (.iload 6, 2) := by decide +kernel
theorem dX8_kept_194 : decode cX8_kept 194 = .ok (.iadd, 1) := by decide +kernel
theorem dX8_kept_195 : decode cX8_kept 195 = .ok (.aload_n 0, 1) := by decide +kernel
theorem dX8_kept_196 : decode cX8_kept 196 = .ok (.getfield 51, 3) := by decide +kernel
theorem dX8_kept_199 : decode cX8_kept 199 = .ok (.bipush 10, 2) := by decide +kernel
theorem dX8_kept_201 : decode cX8_kept 201 = .ok (.iload_n 1, 1) := by decide +kernel
theorem dX8_kept_202 : decode cX8_kept 202 = .ok (.imul, 1) := by decide +kernel
theorem dX8_kept_203 : decode cX8_kept 203 = .ok (.iload 6, 2) := by decide +kernel
theorem dX8_kept_205 : decode cX8_kept 205 = .ok (.iadd, 1) := by decide +kernel
theorem dX8_kept_206 : decode cX8_kept 206 = .ok (.laload, 1) := by decide +kernel
theorem dX8_kept_207 : decode cX8_kept 207 = .ok (.lastore, 1) := by decide +kernel
theorem dX8_kept_208 : decode cX8_kept 208 = .ok (.aload_n 0, 1) := by decide +kernel
theorem dX8_kept_209 : decode cX8_kept 209 = .ok (.getfield 51, 3) := by decide +kernel
theorem dX8_kept_212 : decode cX8_kept 212 = .ok (.bipush 10, 2) := by decide +kernel
theorem dX8_kept_214 : decode cX8_kept 214 = .ok (.iload_n 1, 1) := by decide +kernel
theorem dX8_kept_215 : decode cX8_kept 215 = .ok (.imul, 1) := by decide +kernel
theorem dX8_kept_216 : decode cX8_kept 216 = .ok (.iload 6, 2) := by decide +kernel
theorem dX8_kept_218 : decode cX8_kept 218 = .ok (.iadd, 1) := by decide +kernel
theorem dX8_kept_219 : decode cX8_kept 219 = .ok (.lload 7, 2) := by decide +kernel
theorem dX8_kept_221 : decode cX8_kept 221 = .ok (.lastore, 1) := by decide +kernel
theorem dX8_kept_222 : decode cX8_kept 222 = .ok (.iinc 6 1, 3) := by decide +kernel
theorem dX8_kept_225 : decode cX8_kept 225 = .ok (.goto (-64), 3) := by decide +kernel
theorem dX8_kept_228 : decode cX8_kept 228 = .ok (.aload_n 0, 1) := by decide +kernel
theorem dX8_kept_229 : decode cX8_kept 229 = .ok (.getfield 51, 3) := by decide +kernel
theorem dX8_kept_232 : decode cX8_kept 232 = .ok (.bipush 10, 2) := by decide +kernel
theorem dX8_kept_234 : decode cX8_kept 234 = .ok (.iload_n 1, 1) := by decide +kernel
theorem dX8_kept_235 : decode cX8_kept 235 = .ok (.imul, 1) := by decide +kernel
theorem dX8_kept_236 : decode cX8_kept 236 = .ok (.iload 4, 2) := by decide +kernel
theorem dX8_kept_238 : decode cX8_kept 238 = .ok (.iadd, 1) := by decide +kernel
theorem dX8_kept_239 : decode cX8_kept 239 = .ok (.laload, 1) := by decide +kernel
theorem dX8_kept_240 : decode cX8_kept 240 = .ok (.lstore 6, 2) := by decide +kernel
theorem dX8_kept_242 : decode cX8_kept 242 = .ok (.iload_n 1, 1) := by decide +kernel
theorem dX8_kept_243 : decode cX8_kept 243 = .ok (.iconst 1, 1) := by decide +kernel
theorem dX8_kept_244 : decode cX8_kept 244 = .ok (.iadd, 1) := by decide +kernel
theorem dX8_kept_245 : decode cX8_kept 245 = .ok (.istore 8, 2) := by decide +kernel
theorem dX8_kept_247 : decode cX8_kept 247 = .ok (.iload 8, 2) := by decide +kernel
theorem dX8_kept_249 : decode cX8_kept 249 = .ok (.iconst 5, 1) := by decide +kernel
theorem dX8_kept_250 : decode cX8_kept 250 = .ok (.if_icmp .ge 87, 3) := by decide +kernel
theorem dX8_kept_253 : decode cX8_kept 253 = .ok (.aload_n 0, 1) := by decide +kernel
theorem dX8_kept_254 : decode cX8_kept 254 = .ok (.getfield 51, 3) := by decide +kernel
theorem dX8_kept_257 : decode cX8_kept 257 = .ok (.bipush 10, 2) := by decide +kernel
theorem dX8_kept_259 : decode cX8_kept 259 = .ok (.iload 8, 2) := by decide +kernel
theorem dX8_kept_261 : decode cX8_kept 261 = .ok (.imul, 1) := by decide +kernel
theorem dX8_kept_262 : decode cX8_kept 262 = .ok (.iload 4, 2) := by decide +kernel
theorem dX8_kept_264 : decode cX8_kept 264 = .ok (.iadd, 1) := by decide +kernel
theorem dX8_kept_265 : decode cX8_kept 265 = .ok (.laload, 1) := by decide +kernel
theorem dX8_kept_266 : decode cX8_kept 266 = .ok (.lstore 9, 2) := by decide +kernel
theorem dX8_kept_268 : decode cX8_kept 268 = .ok (.iconst 0, 1) := by decide +kernel
theorem dX8_kept_269 : decode cX8_kept 269 = .ok (.istore 11, 2) := by decide +kernel
theorem dX8_kept_271 : decode cX8_kept 271 = .ok (.iload 11, 2) := by decide +kernel
theorem dX8_kept_273 : decode cX8_kept 273 = .ok (.bipush 10, 2) := by decide +kernel
theorem dX8_kept_275 : decode cX8_kept 275 = .ok (.if_icmp .ge 56, 3) := by decide +kernel
theorem dX8_kept_278 : decode cX8_kept 278 = .ok (.aload_n 0, 1) := by decide +kernel
theorem dX8_kept_279 : decode cX8_kept 279 = .ok (.getfield 51, 3) := by decide +kernel
theorem dX8_kept_282 : decode cX8_kept 282 = .ok (.bipush 10, 2) := by decide +kernel
theorem dX8_kept_284 : decode cX8_kept 284 = .ok (.iload 8, 2) := by decide +kernel
theorem dX8_kept_286 : decode cX8_kept 286 = .ok (.imul, 1) := by decide +kernel
theorem dX8_kept_287 : decode cX8_kept 287 = .ok (.iload 11, 2) := by decide +kernel
theorem dX8_kept_289 : decode cX8_kept 289 = .ok (.iadd, 1) := by decide +kernel
theorem dX8_kept_290 : decode cX8_kept 290 = .ok (.aload_n 0, 1) := by decide +kernel
theorem dX8_kept_291 : decode cX8_kept 291 = .ok (.getfield 51, 3) := by decide +kernel
theorem dX8_kept_294 : decode cX8_kept 294 = .ok (.bipush 10, 2) := by decide +kernel
theorem dX8_kept_296 : decode cX8_kept 296 = .ok (.iload 8, 2) := by decide +kernel
theorem dX8_kept_298 : decode cX8_kept 298 = .ok (.imul, 1) := by decide +kernel
theorem dX8_kept_299 : decode cX8_kept 299 = .ok (.iload 11, 2) := by decide +kernel
theorem dX8_kept_301 : decode cX8_kept 301 = .ok (.iadd, 1) := by decide +kernel
theorem dX8_kept_302 : decode cX8_kept 302 = .ok (.laload, 1) := by decide +kernel
theorem dX8_kept_303 : decode cX8_kept 303 = .ok (.lload 6, 2) := by decide +kernel
theorem dX8_kept_305 : decode cX8_kept 305 = .ok (.lmul, 1) := by decide +kernel
theorem dX8_kept_306 : decode cX8_kept 306 = .ok (.aload_n 0, 1) := by decide +kernel
theorem dX8_kept_307 : decode cX8_kept 307 = .ok (.getfield 51, 3) := by decide +kernel
theorem dX8_kept_310 : decode cX8_kept 310 = .ok (.bipush 10, 2) := by decide +kernel
theorem dX8_kept_312 : decode cX8_kept 312 = .ok (.iload_n 1, 1) := by decide +kernel
theorem dX8_kept_313 : decode cX8_kept 313 = .ok (.imul, 1) := by decide +kernel
theorem dX8_kept_314 : decode cX8_kept 314 = .ok (.iload 11, 2) := by decide +kernel
theorem dX8_kept_316 : decode cX8_kept 316 = .ok (.iadd, 1) := by decide +kernel
theorem dX8_kept_317 : decode cX8_kept 317 = .ok (.laload, 1) := by decide +kernel
theorem dX8_kept_318 : decode cX8_kept 318 = .ok (.lload 9, 2) := by decide +kernel
theorem dX8_kept_320 : decode cX8_kept 320 = .ok (.lmul, 1) := by decide +kernel
theorem dX8_kept_321 : decode cX8_kept 321 = .ok (.lsub, 1) := by decide +kernel
theorem dX8_kept_322 : decode cX8_kept 322 = .ok (.lload_n 2, 1) := by decide +kernel
theorem dX8_kept_323 : decode cX8_kept 323 = .ok (.ldiv, 1) := by decide +kernel
theorem dX8_kept_324 : decode cX8_kept 324 = .ok (.lastore, 1) := by decide +kernel
theorem dX8_kept_325 : decode cX8_kept 325 = .ok (.iinc 11 1, 3) := by decide +kernel
theorem dX8_kept_328 : decode cX8_kept 328 = .ok (.goto (-57), 3) := by decide +kernel
theorem dX8_kept_331 : decode cX8_kept 331 = .ok (.iinc 8 1, 3) := by decide +kernel
theorem dX8_kept_334 : decode cX8_kept 334 = .ok (.goto (-87), 3) := by decide +kernel
theorem dX8_kept_337 : decode cX8_kept 337 = .ok (.lload 6, 2) := by decide +kernel
theorem dX8_kept_339 : decode cX8_kept 339 = .ok (.lstore_n 2, 1) := by decide +kernel
theorem dX8_kept_340 : decode cX8_kept 340 = .ok (.iinc 1 1, 3) := by decide +kernel
theorem dX8_kept_343 : decode cX8_kept 343 = .ok (.iinc 4 1, 3) := by decide +kernel
theorem dX8_kept_346 : decode cX8_kept 346 = .ok (.goto (-242), 3) := by decide +kernel
theorem dX8_kept_349 : decode cX8_kept 349 = .ok (.iconst 5, 1) := by decide +kernel
theorem dX8_kept_350 : decode cX8_kept 350 = .ok (.iload_n 1, 1) := by decide +kernel
theorem dX8_kept_351 : decode cX8_kept 351 = .ok (.isub, 1) := by decide +kernel
theorem dX8_kept_352 : decode cX8_kept 352 = .ok (.ireturn, 1) := by decide +kernel
set_option maxRecDepth 20000 in
theorem ggX8_spreadAt_X8_slopeAt : GoodIn wsX8_spreadAt wsX8_slopeAt := goodIn_r _ [5, 6, 7, 8, 4, 9, 10, 11, 12, 13, 14, 15, 16, 17, 18, 19, 20, 21, 22, 23, 24, 25, 26, 27, 28, 29, 30, 31, 32, 33] (by decide +kernel) (by decide +kernel)
set_option maxRecDepth 20000 in
theorem gX8_spreadAt_X8_slopeAt : GoodIn wsX8_spreadAt (wsV RX8 88 RX8 yX8_slopeAt wsX8_slopeAt) := goodIn_app (goodIn_of _ (by decide +kernel)) ggX8_spreadAt_X8_slopeAt

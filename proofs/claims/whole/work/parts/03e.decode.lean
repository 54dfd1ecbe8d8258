theorem dX8_spreadAt_0 : decode cX8_spreadAt 0 = .ok (.aload_n 0, 1) := by decide +kernel
theorem dX8_spreadAt_1 : decode cX8_spreadAt 1 = .ok (.iload_n 1, 1) := by decide +kernel
theorem dX8_spreadAt_2 : decode cX8_spreadAt 2 = .ok (.iload_n 2, 1) := by decide +kernel
theorem dX8_spreadAt_3 : decode cX8_spreadAt 3 = .ok (.iconst 0, 1) := by decide +kernel
theorem dX8_spreadAt_4 : decode cX8_spreadAt 4 = .ok (.iconst 0, 1) := by decide +kernel
theorem dX8_spreadAt_5 : decode cX8_spreadAt 5 = .ok (.invokevirtual 88, 3) := by decide +kernel
theorem dX8_spreadAt_8 : decode cX8_spreadAt 8 = .ok (.aload_n 0, 1) := by decide +kernel
theorem dX8_spreadAt_9 : decode cX8_spreadAt 9 = .ok (.iload_n 1, 1) := by decide +kernel
theorem dX8_spreadAt_10 : decode cX8_spreadAt 10 = .ok (.iload_n 2, 1) := by decide +kernel
theorem dX8_spreadAt_11 : decode cX8_spreadAt 11 = .ok (.iconst 1, 1) := by decide +kernel
theorem dX8_spreadAt_12 : decode cX8_spreadAt 12 = .ok (.iconst 1, 1) := by decide +kernel
theorem dX8_spreadAt_13 : decode cX8_spreadAt 13 = .ok (.invokevirtual 88, 3) := by decide +kernel
theorem dX8_spreadAt_16 : decode cX8_spreadAt 16 = .ok (.iadd, 1) := by decide +kernel
theorem dX8_spreadAt_17 : decode cX8_spreadAt 17 = .ok (.ireturn, 1) := by decide +kernel
set_option maxRecDepth 20000 in
theorem ggX8_none_X8_isPlace : GoodIn wsX8_none wsX8_isPlace := goodIn_r _ [5, 6, 7, 4, 8] (by decide +kernel) (by decide +kernel)
set_option maxRecDepth 20000 in
theorem gX8_none_X8_isPlace : GoodIn wsX8_none (va_wsS RX8 80 yX8_isPlace wsX8_isPlace) := goodIn_app (goodIn_of _ (by decide +kernel)) ggX8_none_X8_isPlace
set_option maxRecDepth 20000 in
theorem ggX8_none_X8_found : GoodIn wsX8_none wsX8_found := goodIn_r _ [12, 13, 27, 28, 29, 30, 31, 32, 33, 34, 35, 36, 37, 38, 39, 40, 41, 42, 43, 44, 45, 46, 47, 48, 49] (by decide +kernel) (by decide +kernel)
set_option maxRecDepth 20000 in
theorem gX8_none_X8_found : GoodIn wsX8_none (wsV RX8 69 RX8 yX8_found wsX8_found) := goodIn_app (goodIn_of _ (by decide +kernel)) ggX8_none_X8_found
set_option maxRecDepth 20000 in
theorem ggX8_none_X8_spreadAt : GoodIn wsX8_none wsX8_spreadAt := goodIn_r _ [17, 18, 19, 20, 4, 21, 22, 23, 24, 25, 26, 27, 28, 29, 30, 31, 32, 33, 34, 35, 36, 37, 38, 39, 40, 41, 42, 43, 44, 45, 46, 47, 48, 49] (by decide +kernel) (by decide +kernel)
set_option maxRecDepth 20000 in
theorem gX8_none_X8_spreadAt : GoodIn wsX8_none (wsV RX8 224 RX8 yX8_spreadAt wsX8_spreadAt) := goodIn_app (goodIn_of _ (by decide +kernel)) ggX8_none_X8_spreadAt
theorem dX8_none_0 : decode cX8_none 0 = .ok (.iload_n 1, 1) := by decide +kernel
theorem dX8_none_1 : decode cX8_none 1 = .ok (.iload_n 2, 1) := by decide +kernel
theorem dX8_none_2 : decode cX8_none 2 = .ok (.invokestatic 80, 3) := by decide +kernel
theorem dX8_none_5 : decode cX8_none 5 = .ok (.ifCond .eq 23, 3) := by decide +kernel
theorem dX8_none_8 : decode cX8_none 8 = .ok (.iload_n 3, 1) := by decide +kernel
theorem dX8_none_9 : decode cX8_none 9 = .ok (.iload 4, 2) := by decide +kernel
theorem dX8_none_11 : decode cX8_none 11 = .ok (.invokestatic 80, 3) := by decide +kernel
theorem dX8_none_14 : decode cX8_none 14 = .ok (.ifCond .eq 14, 3) := by decide +kernel
theorem dX8_none_17 : decode cX8_none 17 = .ok (.iload_n 1, 1) := by decide +kernel
theorem dX8_none_18 : decode cX8_none 18 = .ok (.iload_n 3, 1) := by decide +kernel
theorem dX8_none_19 : decode cX8_none 19 = .ok (.if_icmp .ge 9, 3) := by decide +kernel
theorem dX8_none_22 : decode cX8_none 22 = .ok (.iload_n 2, 1) := by decide +kernel
theorem dX8_none_23 : decode cX8_none 23 = .ok (.iload 4, 2) := by decide +kernel
theorem dX8_none_25 : decode cX8_none 25 = .ok (.if_icmp .lt 10, 3) := by decide +kernel
theorem dX8_none_28 : decode cX8_none 28 = .ok (.aload_n 0, 1) := by decide +kernel
theorem dX8_none_29 : decode cX8_none 29 = .ok (.ldc 68, 2) := by decide +kernel
theorem dX8_none_31 : decode cX8_none 31 = .ok (.invokevirtual 69, 3) := by decide +kernel
theorem dX8_none_34 : decode cX8_none 34 = .ok (.ireturn, 1) := by decide +kernel
theorem dX8_none_35 : decode cX8_none 35 = .ok (.iconst 0, 1) := by decide +kernel
theorem dX8_none_36 : decode cX8_none 36 = .ok (.istore 5, 2) := by decide +kernel
theorem dX8_none_38 : decode cX8_none 38 = .ok (.iconst 0, 1) := by decide +kernel
theorem dX8_none_39 : decode cX8_none 39 = .ok (.istore 6, 2) := by decide +kernel
theorem dX8_none_41 : decode cX8_none 41 = .ok (.iconst 0, 1) := by decide +kernel
theorem dX8_none_42 : decode cX8_none 42 = .ok (.istore 7, 2) := by decide +kernel
theorem dX8_none_44 : decode cX8_none 44 = .ok (.iload 7, 2) := by decide +kernel
theorem dX8_none_46 : decode cX8_none 46 = .ok (.iconst 4, 1) := by decide +kernel
theorem dX8_none_47 : decode cX8_none 47 = .ok (.if_icmp .ge 69, 3) := by decide +kernel
theorem dX8_none_50 : decode cX8_none 50 = .ok (.aload_n 0, 1) := by decide +kernel
theorem dX8_none_51 : decode cX8_none 51 = .ok (.iload 7, 2) := by decide +kernel
theorem dX8_none_53 : decode cX8_none 53 = .ok (.iconst 2, 1) := by decide +kernel
theorem dX8_none_54 : decode cX8_none 54 = .ok (.irem, 1) := by decide +kernel
theorem dX8_none_55 : decode cX8_none 55 = .ok (.ifCond .ne 7, 3) := by decide +kernel
theorem dX8_none_58 : decode cX8_none 58 = .ok (.iload_n 1, 1) := by decide +kernel
theorem dX8_none_59 : decode cX8_none 59 = .ok (.goto 4, 3) := by decide +kernel
theorem dX8_none_62 : decode cX8_none 62 = .ok (.iload_n 3, 1) := by decide +kernel
theorem dX8_none_63 : decode cX8_none 63 = .ok (.iload 7, 2) := by decide +kernel
theorem dX8_none_65 : decode cX8_none 65 = .ok (.iconst 2, 1) := by decide +kernel
theorem dX8_none_66 : decode cX8_none 66 = .ok (.if_icmp .ge 7, 3) := by decide +kernel
theorem dX8_none_69 : decode cX8_none 69 = .ok (.iload_n 2, 1) := by decide +kernel
theorem dX8_none_70 : decode cX8_none 70 = .ok (.goto 5, 3) := by decide +kernel
theorem dX8_none_73 : decode cX8_none 73 = .ok (.iload 4, 2) := by decide +kernel
theorem dX8_none_75 : decode cX8_none 75 = .ok (.invokevirtual 224, 3) := by decide +kernel
theorem dX8_none_78 : decode cX8_none 78 = .ok (.istore 8, 2) := by decide +kernel
theorem dX8_none_80 : decode cX8_none 80 = .ok (.iload 5, 2) := by decide +kernel
theorem dX8_none_82 : decode cX8_none 82 = .ok (.iload 8, 2) := by decide +kernel
theorem dX8_none_84 : decode cX8_none 84 = .ok (.ifCond .le 7, 3) := by decide +kernel
theorem dX8_none_87 : decode cX8_none 87 = .ok (.iconst 1, 1) := by decide +kernel
theorem dX8_none_88 : decode cX8_none 88 = .ok (.goto 4, 3) := by decide +kernel
theorem dX8_none_91 : decode cX8_none 91 = .ok (.iconst 0, 1) := by decide +kernel
theorem dX8_none_92 : decode cX8_none 92 = .ok (.iadd, 1) := by decide +kernel
theorem dX8_none_93 : decode cX8_none 93 = .ok (.istore 5, 2) := by decide +kernel
theorem dX8_none_95 : decode cX8_none 95 = .ok (.iload 6, 2) := by decide +kernel
theorem dX8_none_97 : decode cX8_none 97 = .ok (.iload 8, 2) := by decide +kernel
theorem dX8_none_99 : decode cX8_none 99 = .ok (.ifCond .ge 7, 3) := by decide +kernel
theorem dX8_none_102 : decode cX8_none 102 = .ok (.iconst 1, 1) := by decide +kernel
theorem dX8_none_103 : decode cX8_none 103 = .ok (.goto 4, 3) := by decide +kernel
theorem dX8_none_106 : decode cX8_none 106 = .ok (.iconst 0, 1) := by decide +kernel
theorem dX8_none_107 : decode cX8_none 107 = .ok (.iadd, 1) := by decide +kernel
theorem dX8_none_108 : decode cX8_none 108 = .ok (.istore 6, 2) := by decide +kernel
theorem dX8_none_110 : decode cX8_none 110 = .ok (.iinc 7 1, 3) := by decide +kernel
theorem dX8_none_113 : decode cX8_none 113 = .ok (.goto (-69), 3) := by decide +kernel
theorem dX8_none_116 : decode cX8_none 116 = .ok (.iload 5, 2) := by decide +kernel
theorem dX8_none_118 : decode cX8_none 118 = .ok (.ifCond .le 12, 3) := by decide +kernel
theorem dX8_none_121 : decode cX8_none 121 = .ok (.iload 6, 2) := by decide +kernel
theorem dX8_none_123 : decode cX8_none 123 = .ok (.ifCond .ne 7, 3) := by decide +kernel
theorem dX8_none_126 : decode cX8_none 126 = .ok (.iconst 1, 1) := by decide +kernel
theorem dX8_none_127 : decode cX8_none 127 = .ok (.goto 18, 3) := by decide +kernel
theorem dX8_none_130 : decode cX8_none 130 = .ok (.iload 6, 2) := by decide +kernel
theorem dX8_none_132 : decode cX8_none 132 = .ok (.ifCond .le 12, 3) := by decide +kernel
theorem dX8_none_135 : decode cX8_none 135 = .ok (.iload 5, 2) := by decide +kernel
theorem dX8_none_137 : decode cX8_none 137 = .ok (.ifCond .ne 7, 3) := by decide +kernel
theorem dX8_none_140 : decode cX8_none 140 = .ok (.iconst (-1), 1) := by decide +kernel
theorem dX8_none_141 : decode cX8_none 141 = .ok (.goto 4, 3) := by decide +kernel
theorem dX8_none_144 : decode cX8_none 144 = .ok (.iconst 0, 1) := by decide +kernel
theorem dX8_none_145 : decode cX8_none 145 = .ok (.ireturn, 1) := by decide +kernel
set_option maxRecDepth 20000 in
theorem ggX8_form_X8_get : GoodIn wsX8_form wsX8_get := goodIn_r _ [5, 6, 7, 8, 9, 10, 11, 12, 13, 14, 15, 16, 17, 18, 19, 20, 21, 22, 23, 24, 25, 26, 27, 28, 29] (by decide +kernel) (by decide +kernel)
set_option maxRecDepth 20000 in
theorem gX8_form_X8_get : GoodIn wsX8_form (wsV RX8 76 RX8 yX8_get wsX8_get) := goodIn_app (goodIn_of _ (by decide +kernel)) ggX8_form_X8_get
theorem dX8_form_0 : decode cX8_form 0 = .ok (.iload_n 1, 1) := by decide +kernel
theorem dX8_form_1 : decode cX8_form 1 = .ok (.ifCond .ne 13, 3) := by decide +kernel
theorem dX8_form_4 : decode cX8_form 4 = .ok (.aload_n 0, 1) := by decide +kernel
theorem dX8_form_5 : decode cX8_form 5 = .ok (.iconst 1, 1) := by decide +kernel
theorem dX8_form_6 : decode cX8_form 6 = .ok (.iconst 3, 1) := by decide +kernel
theorem dX8_form_7 : decode cX8_form 7 = .ok (.invokevirtual 76, 3) := by decide +kernel
theorem dX8_form_10 : decode cX8_form 10 = .ok (.i2l, 1) := by decide +kernel
theorem dX8_form_11 : decode cX8_form 11 = .ok (.goto 55, 3) := by decide +kernel
theorem dX8_form_14 : decode cX8_form 14 = .ok (.iload_n 1, 1) := by decide +kernel
theorem dX8_form_15 : decode cX8_form 15 = .ok (.iconst 1, 1) := by decide +kernel
theorem dX8_form_16 : decode cX8_form 16 = .ok (.if_icmp .ne 20, 3) := by decide +kernel
theorem dX8_form_19 : decode cX8_form 19 = .ok (.aload_n 0, 1) := by decide +kernel
theorem dX8_form_20 : decode cX8_form 20 = .ok (.iconst 1, 1) := by decide +kernel
theorem dX8_form_21 : decode cX8_form 21 = .ok (.iconst 4, 1) := by decide +kernel
theorem dX8_form_22 : decode cX8_form 22 = .ok (.invokevirtual 76, 3) := by decide +kernel
theorem dX8_form_25 : decode cX8_form 25 = .ok (.aload_n 0, 1) := by decide +kernel
theorem dX8_form_26 : decode cX8_form 26 = .ok (.iconst 0, 1) := by decide +kernel
theorem dX8_form_27 : decode cX8_form 27 = .ok (.iconst 3, 1) := by decide +kernel
theorem dX8_form_28 : decode cX8_form 28 = .ok (.invokevirtual 76, 3) := by decide +kernel
theorem dX8_form_31 : decode cX8_form 31 = .ok (.isub, 1) := by decide +kernel
theorem dX8_form_32 : decode cX8_form 32 = .ok (.i2l, 1) := by decide +kernel
theorem dX8_form_33 : decode cX8_form 33 = .ok (.goto 33, 3) := by decide +kernel
theorem dX8_form_36 : decode cX8_form 36 = .ok (.iload_n 1, 1) := by decide +kernel
theorem dX8_form_37 : decode cX8_form 37 = .ok (.iconst 2, 1) := by decide +kernel
theorem dX8_form_38 : decode cX8_form 38 = .ok (.if_icmp .ne 20, 3) := by decide +kernel
theorem dX8_form_41 : decode cX8_form 41 = .ok (.aload_n 0, 1) := by decide +kernel
theorem dX8_form_42 : decode cX8_form 42 = .ok (.iconst 1, 1) := by decide +kernel
theorem dX8_form_43 : decode cX8_form 43 = .ok (.iconst 5, 1) := by decide +kernel
theorem dX8_form_44 : decode cX8_form 44 = .ok (.invokevirtual 76, 3) := by decide +kernel
theorem dX8_form_47 : decode cX8_form 47 = .ok (.aload_n 0, 1) := by decide +kernel
theorem dX8_form_48 : decode cX8_form 48 = .ok (.iconst 0, 1) := by decide +kernel
theorem dX8_form_49 : decode cX8_form 49 = .ok (.iconst 4, 1) := by decide +kernel
theorem dX8_form_50 : decode cX8_form 50 = .ok (.invokevirtual 76, 3) := by decide +kernel
theorem dX8_form_53 : decode cX8_form 53 = .ok (.isub, 1) := by decide +kernel
theorem dX8_form_54 : decode cX8_form 54 = .ok (.i2l, 1) := by decide +kernel
theorem dX8_form_55 : decode cX8_form 55 = .ok (.goto 11, 3) := by decide +kernel
theorem dX8_form_58 : decode cX8_form 58 = .ok (.aload_n 0, 1) := by decide +kernel
theorem dX8_form_59 : decode cX8_form 59 = .ok (.iconst 0, 1) := by decide +kernel
theorem dX8_form_60 : decode cX8_form 60 = .ok (.iconst 5, 1) := by decide +kernel
theorem dX8_form_61 : decode cX8_form 61 = .ok (.invokevirtual 76, 3) := by decide +kernel
theorem dX8_form_64 : decode cX8_form 64 = .ok (.ineg, 1) := by decide +kernel
theorem dX8_form_65 : decode cX8_form 65 = .ok (.i2l, 1) := by decide +kernel
theorem dX8_form_66 : decode cX8_form 66 = .ok (.lreturn, 1) := by decide +kernel
set_option maxRecDepth 20000 in
theorem ggX8_edge_X8_form : GoodIn wsX8_edge wsX8_form := goodIn_r _ [10, 11, 12, 13, 9, 14, 15, 16, 17, 18, 19, 20, 21, 22, 23, 24, 25, 26, 27, 28, 29, 30, 31, 32, 33, 34, 35, 36, 37, 38] (by decide +kernel) (by decide +kernel)
set_option maxRecDepth 20000 in
theorem gX8_edge_X8_form : GoodIn wsX8_edge (wsV RX8 227 RX8 yX8_form wsX8_form) := goodIn_app (goodIn_of _ (by decide +kernel)) ggX8_edge_X8_form
theorem dX8_edge_0 : decode cX8_edge 0 = .ok (.aload_n 0, 1) := by decide +kernel
theorem dX8_edge_1 : decode cX8_edge 1 = .ok (.iconst 0, 1) := by decide +kernel
theorem dX8_edge_2 : decode cX8_edge 2 = .ok (.invokevirtual 227, 3) := by decide +kernel
theorem dX8_edge_5 : decode cX8_edge 5 = .ok (.lstore_n 1, 1) := by decide +kernel
theorem dX8_edge_6 : decode cX8_edge 6 = .ok (.aload_n 0, 1) := by decide +kernel
theorem dX8_edge_7 : decode cX8_edge 7 = .ok (.iconst 1, 1) := by decide +kernel
theorem dX8_edge_8 : decode cX8_edge 8 = .ok (.invokevirtual 227, 3) := by decide +kernel
theorem dX8_edge_11 : decode cX8_edge 11 = .ok (.lstore_n 3, 1) := by decide +kernel
theorem dX8_edge_12 : decode cX8_edge 12 = .ok (.aload_n 0, 1) := by decide +kernel
theorem dX8_edge_13 : decode cX8_edge 13 = .ok (.iconst 2, 1) := by decide +kernel
theorem dX8_edge_14 : decode cX8_edge 14 = .ok (.invokevirtual 227, 3) := by decide +kernel
theorem dX8_edge_17 : decode cX8_edge 17 = .ok (.lstore 5, 2) := by decide +kernel
theorem dX8_edge_19 : decode cX8_edge 19 = .ok (.aload_n 0, 1) := by decide +kernel
theorem dX8_edge_20 : decode cX8_edge 20 = .ok (.iconst 3, 1) := by decide +kernel
theorem dX8_edge_21 : decode cX8_edge 21 = .ok (.invokevirtual 227, 3) := by decide +kernel
theorem dX8_edge_24 : decode cX8_edge 24 = .ok (.lstore 7, 2) := by decide +kernel
theorem dX8_edge_26 : decode cX8_edge 26 = .ok (.lload_n 1, 1) := by decide +kernel
theorem dX8_edge_27 : decode cX8_edge 27 = .ok (.lconst 0, 1) := by decide +kernel
theorem dX8_edge_28 : decode cX8_edge 28 = .ok (.lcmp, 1) := by decide +kernel
theorem dX8_edge_29 : decode cX8_edge 29 = .ok (.ifCond .ne 25, 3) := by decide +kernel
theorem dX8_edge_32 : decode cX8_edge 32 = .ok (.lload_n 3, 1) := by decide +kernel
theorem dX8_edge_33 : decode cX8_edge 33 = .ok (.lconst 0, 1) := by decide +kernel
theorem dX8_edge_34 : decode cX8_edge 34 = .ok (.lcmp, 1) := by decide +kernel
theorem dX8_edge_35 : decode cX8_edge 35 = .ok (.ifCond .ne 19, 3) := by decide +kernel
theorem dX8_edge_38 : decode cX8_edge 38 = .ok (.lload 5, 2) := by decide +kernel
theorem dX8_edge_40 : decode cX8_edge 40 = .ok (.lconst 0, 1) := by decide +kernel
theorem dX8_edge_41 : decode cX8_edge 41 = .ok (.lcmp, 1) := by decide +kernel
theorem dX8_edge_42 : decode cX8_edge 42 = .ok (.ifCond .ne 12, 3) := by decide +kernel
theorem dX8_edge_45 : decode cX8_edge 45 = .ok (.lload 7, 2) := by decide +kernel
theorem dX8_edge_47 : decode cX8_edge 47 = .ok (.lconst 0, 1) := by decide +kernel
theorem dX8_edge_48 : decode cX8_edge 48 = .ok (.lcmp, 1) := by decide +kernel
theorem dX8_edge_49 : decode cX8_edge 49 = .ok (.ifCond .ne 5, 3) := by decide +kernel
theorem dX8_edge_52 : decode cX8_edge 52 = .ok (.iconst 4, 1) := by decide +kernel
theorem dX8_edge_53 : decode cX8_edge 53 = .ok (.ireturn, 1) := by decide +kernel
theorem dX8_edge_54 : decode cX8_edge 54 = .ok (.ldc2_w 231, 3) := by decide +kernel
theorem dX8_edge_57 : decode cX8_edge 57 = .ok (.lload_n 1, 1) := by decide +kernel
theorem dX8_edge_58 : decode cX8_edge 58 = .ok (.lmul, 1) := by decide +kernel
theorem dX8_edge_59 : decode cX8_edge 59 = .ok (.lload_n 3, 1) := by decide +kernel
theorem dX8_edge_60 : decode cX8_edge 60 = .ok (.lmul, 1) := by decide +kernel
theorem dX8_edge_61 : decode cX8_edge 61 = .ok (.lload 5, 2) := by decide +kernel
theorem dX8_edge_63 : decode cX8_edge 63 = .ok (.lmul, 1) := by decide +kernel
theorem dX8_edge_64 : decode cX8_edge 64 = .ok (.lload 7, 2) := by decide +kernel
theorem dX8_edge_66 : decode cX8_edge 66 = .ok (.lmul, 1) := by decide +kernel
theorem dX8_edge_67 : decode cX8_edge 67 = .ok (.ldc2_w 168, 3) := by decide +kernel
theorem dX8_edge_70 : decode cX8_edge 70 = .ok (.lload_n 3, 1) := by decide +kernel
theorem dX8_edge_71 : decode cX8_edge 71 = .ok (.lmul, 1) := by decide +kernel
theorem dX8_edge_72 : decode cX8_edge 72 = .ok (.lload_n 3, 1) := by decide +kernel
theorem dX8_edge_73 : decode cX8_edge 73 = .ok (.lmul, 1) := by decide +kernel
theorem dX8_edge_74 : decode cX8_edge 74 = .ok (.lload_n 3, 1) := by decide +kernel
theorem dX8_edge_75 : decode cX8_edge 75 = .ok (.lmul, 1) := by decide +kernel
theorem dX8_edge_76 : decode cX8_edge 76 = .ok (.lload 7, 2) := by decide +kernel
theorem dX8_edge_78 : decode cX8_edge 78 = .ok (.lmul, 1) := by decide +kernel
theorem dX8_edge_79 : decode cX8_edge 79 = .ok (.lsub, 1) := by decide +kernel
theorem dX8_edge_80 : decode cX8_edge 80 = .ok (.lload_n 3, 1) := by decide +kernel
theorem dX8_edge_81 : decode cX8_edge 81 = .ok (.lload_n 3, 1) := by decide +kernel
theorem dX8_edge_82 : decode cX8_edge 82 = .ok (.lmul, 1) := by decide +kernel
theorem dX8_edge_83 : decode cX8_edge 83 = .ok (.lload 5, 2) := by decide +kernel
theorem dX8_edge_85 : decode cX8_edge 85 = .ok (.lmul, 1) := by decide +kernel
theorem dX8_edge_86 : decode cX8_edge 86 = .ok (.lload 5, 2) := by decide +kernel
theorem dX8_edge_88 : decode cX8_edge 88 = .ok (.lmul, 1) := by decide +kernel
theorem dX8_edge_89 : decode cX8_edge 89 = .ok (.ladd, 1) := by decide +kernel
theorem dX8_edge_90 : decode cX8_edge 90 = .ok (.ldc2_w 168, 3) := by decide +kernel
theorem dX8_edge_93 : decode cX8_edge 93 = .ok (.lload_n 1, 1) := by decide +kernel
theorem dX8_edge_94 : decode cX8_edge 94 = .ok (.lmul, 1) := by decide +kernel
theorem dX8_edge_95 : decode cX8_edge 95 = .ok (.lload 5, 2) := by decide +kernel
theorem dX8_edge_97 : decode cX8_edge 97 = .ok (.lmul, 1) := by decide +kernel
theorem dX8_edge_98 : decode cX8_edge 98 = .ok (.lload 5, 2) := by decide +kernel
theorem dX8_edge_100 : decode cX8_edge 100 = .ok (.lmul, 1) := by decide +kernel
theorem dX8_edge_101 : decode cX8_edge 101 = .ok (.lload 5, 2) := by decide +kernel
theorem dX8_edge_103 : decode cX8_edge 103 = .ok (.lmul, 1) := by decide +kernel
theorem dX8_edge_104 : decode cX8_edge 104 = .ok (.lsub, 1) := by decide +kernel
theorem dX8_edge_105 : decode cX8_edge 105 = .ok (.ldc2_w 233, 3) := by decide +kernel
theorem dX8_edge_108 : decode cX8_edge 108 = .ok (.lload_n 1, 1) := by decide +kernel
theorem dX8_edge_109 : decode cX8_edge 109 = .ok (.lmul, 1) := by decide +kernel
theorem dX8_edge_110 : decode cX8_edge 110 = .ok (.lload_n 1, 1) := by decide +kernel
theorem dX8_edge_111 : decode cX8_edge 111 = .ok (.lmul, 1) := by decide +kernel
theorem dX8_edge_112 : decode cX8_edge 112 = .ok (.lload 7, 2) := by decide +kernel
theorem dX8_edge_114 : decode cX8_edge 114 = .ok (.lmul, 1) := by decide +kernel
theorem dX8_edge_115 : decode cX8_edge 115 = .ok (.lload 7, 2) := by decide +kernel
theorem dX8_edge_117 : decode cX8_edge 117 = .ok (.lmul, 1) := by decide +kernel
theorem dX8_edge_118 : decode cX8_edge 118 = .ok (.lsub, 1) := by decide +kernel
theorem dX8_edge_119 : decode cX8_edge 119 = .ok (.lstore 9, 2) := by decide +kernel
theorem dX8_edge_121 : decode cX8_edge 121 = .ok (.lload 9, 2) := by decide +kernel
theorem dX8_edge_123 : decode cX8_edge 123 = .ok (.lconst 0, 1) := by decide +kernel
theorem dX8_edge_124 : decode cX8_edge 124 = .ok (.lcmp, 1) := by decide +kernel
theorem dX8_edge_125 : decode cX8_edge 125 = .ok (.ifCond .eq 16, 3) := by decide +kernel
theorem dX8_edge_128 : decode cX8_edge 128 = .ok (.lload 9, 2) := by decide +kernel
theorem dX8_edge_130 : decode cX8_edge 130 = .ok (.lconst 0, 1) := by decide +kernel
theorem dX8_edge_131 : decode cX8_edge 131 = .ok (.lcmp, 1) := by decide +kernel
theorem dX8_edge_132 : decode cX8_edge 132 = .ok (.ifCond .le 7, 3) := by decide +kernel
theorem dX8_edge_135 : decode cX8_edge 135 = .ok (.iconst 3, 1) := by decide +kernel
theorem dX8_edge_136 : decode cX8_edge 136 = .ok (.goto 4, 3) := by decide +kernel
theorem dX8_edge_139 : decode cX8_edge 139 = .ok (.iconst 1, 1) := by decide +kernel
theorem dX8_edge_140 : decode cX8_edge 140 = .ok (.ireturn, 1) := by decide +kernel
theorem dX8_edge_141 : decode cX8_edge 141 = .ok (.lload_n 3, 1) := by decide +kernel
theorem dX8_edge_142 : decode cX8_edge 142 = .ok (.lload_n 3, 1) := by decide +kernel
theorem dX8_edge_143 : decode cX8_edge 143 = .ok (.lmul, 1) := by decide +kernel
theorem dX8_edge_144 : decode cX8_edge 144 = .ok (.ldc2_w 235, 3) := by decide +kernel
theorem dX8_edge_147 : decode cX8_edge 147 = .ok (.lload_n 1, 1) := by decide +kernel
theorem dX8_edge_148 : decode cX8_edge 148 = .ok (.lmul, 1) := by decide +kernel
theorem dX8_edge_149 : decode cX8_edge 149 = .ok (.lload 5, 2) := by decide +kernel
theorem dX8_edge_151 : decode cX8_edge 151 = .ok (.lmul, 1) := by decide +kernel
theorem dX8_edge_152 : decode cX8_edge 152 = .ok (.lcmp, 1) := by decide +kernel
theorem dX8_edge_153 : decode cX8_edge 153 = .ok (.ifCond .ne 40, 3) := by decide +kernel
theorem dX8_edge_156 : decode cX8_edge 156 = .ok (.lload_n 3, 1) := by decide +kernel
theorem dX8_edge_157 : decode cX8_edge 157 = .ok (.lload 5, 2) := by decide +kernel
theorem dX8_edge_159 : decode cX8_edge 159 = .ok (.lmul, 1) := by decide +kernel
theorem dX8_edge_160 : decode cX8_edge 160 = .ok (.ldc2_w 237, 3) := by decide +kernel
theorem dX8_edge_163 : decode cX8_edge 163 = .ok (.lload_n 1, 1) := by decide +kernel
theorem dX8_edge_164 : decode cX8_edge 164 = .ok (.lmul, 1) := by decide +kernel
theorem dX8_edge_165 : decode cX8_edge 165 = .ok (.lload 7, 2) := by decide +kernel
theorem dX8_edge_167 : decode cX8_edge 167 = .ok (.lmul, 1) := by decide +kernel
theorem dX8_edge_168 : decode cX8_edge 168 = .ok (.lcmp, 1) := by decide +kernel
theorem dX8_edge_169 : decode cX8_edge 169 = .ok (.ifCond .ne 24, 3) := by decide +kernel
theorem dX8_edge_172 : decode cX8_edge 172 = .ok (.lload 5, 2) := by decide +kernel
theorem dX8_edge_174 : decode cX8_edge 174 = .ok (.lload 5, 2) := by decide +kernel
theorem dX8_edge_176 : decode cX8_edge 176 = .ok (.lmul, 1) := by decide +kernel
theorem dX8_edge_177 : decode cX8_edge 177 = .ok (.ldc2_w 235, 3) := by decide +kernel
theorem dX8_edge_180 : decode cX8_edge 180 = .ok (.lload_n 3, 1) := by decide +kernel
theorem dX8_edge_181 : decode cX8_edge 181 = .ok (.lmul, 1) := by decide +kernel
theorem dX8_edge_182 : decode cX8_edge 182 = .ok (.lload 7, 2) := by decide +kernel
theorem dX8_edge_184 : decode cX8_edge 184 = .ok (.lmul, 1) := by decide +kernel
theorem dX8_edge_185 : decode cX8_edge 185 = .ok (.lcmp, 1) := by decide +kernel
theorem dX8_edge_186 : decode cX8_edge 186 = .ok (.ifCond .ne 7, 3) := by decide +kernel
theorem dX8_edge_189 : decode cX8_edge 189 = .ok (.iconst 1, 1) := by decide +kernel
theorem dX8_edge_190 : decode cX8_edge 190 = .ok (.goto 4, 3) := by decide +kernel
theorem dX8_edge_193 : decode cX8_edge 193 = .ok (.iconst 2, 1) := by decide +kernel
theorem dX8_edge_194 : decode cX8_edge 194 = .ok (.ireturn, 1) := by decide +kernel
set_option maxRecDepth 20000 in
theorem ggX8_far_X8_isPlace : GoodIn wsX8_far wsX8_isPlace := goodIn_r _ [5, 6, 7, 4, 8] (by decide +kernel) (by decide +kernel)
set_option maxRecDepth 20000 in
theorem gX8_far_X8_isPlace : GoodIn wsX8_far (va_wsS RX8 80 yX8_isPlace wsX8_isPlace) := goodIn_app (goodIn_of _ (by decide +kernel)) ggX8_far_X8_isPlace
set_option maxRecDepth 20000 in
theorem ggX8_far_X8_found : GoodIn wsX8_far wsX8_found := goodIn_r _ [12, 13, 23, 24, 25, 26, 27, 28, 29, 30, 31, 32, 33, 34, 35, 36, 37, 38, 39, 40, 41, 42, 43, 44, 45] (by decide +kernel) (by decide +kernel)
set_option maxRecDepth 20000 in
theorem gX8_far_X8_found : GoodIn wsX8_far (wsV RX8 69 RX8 yX8_found wsX8_found) := goodIn_app (goodIn_of _ (by decide +kernel)) ggX8_far_X8_found
set_option maxRecDepth 20000 in
theorem ggX8_far_X8_form : GoodIn wsX8_far wsX8_form := goodIn_r _ [17, 18, 19, 20, 4, 21, 22, 23, 24, 25, 26, 27, 28, 29, 30, 31, 32, 33, 34, 35, 36, 37, 38, 39, 40, 41, 42, 43, 44, 45] (by decide +kernel) (by decide +kernel)
set_option maxRecDepth 20000 in
theorem gX8_far_X8_form : GoodIn wsX8_far (wsV RX8 227 RX8 yX8_form wsX8_form) := goodIn_app (goodIn_of _ (by decide +kernel)) ggX8_far_X8_form
theorem dX8_far_0 : decode cX8_far 0 = .ok (.iload_n 1, 1) := by decide +kernel
theorem dX8_far_1 : decode cX8_far 1 = .ok (.iload_n 2, 1) := by decide +kernel
theorem dX8_far_2 : decode cX8_far 2 = .ok (.invokestatic 80, 3) := by decide +kernel
theorem dX8_far_5 : decode cX8_far 5 = .ok (.ifCond .eq 11, 3) := by decide +kernel
theorem dX8_far_8 : decode cX8_far 8 = .ok (.iload_n 1, 1) := by decide +kernel
theorem dX8_far_9 : decode cX8_far 9 = .ok (.ifCond .ne 14, 3) := by decide +kernel
theorem dX8_far_12 : decode cX8_far 12 = .ok (.iload_n 2, 1) := by decide +kernel
theorem dX8_far_13 : decode cX8_far 13 = .ok (.ifCond .ne 10, 3) := by decide +kernel
theorem dX8_far_16 : decode cX8_far 16 = .ok (.aload_n 0, 1) := by decide +kernel
theorem dX8_far_17 : decode cX8_far 17 = .ok (.ldc 68, 2) := by decide +kernel
theorem dX8_far_19 : decode cX8_far 19 = .ok (.invokevirtual 69, 3) := by decide +kernel
theorem dX8_far_22 : decode cX8_far 22 = .ok (.ireturn, 1) := by decide +kernel
theorem dX8_far_23 : decode cX8_far 23 = .ok (.aload_n 0, 1) := by decide +kernel
theorem dX8_far_24 : decode cX8_far 24 = .ok (.iconst 0, 1) := by decide +kernel
theorem dX8_far_25 : decode cX8_far 25 = .ok (.invokevirtual 227, 3) := by decide +kernel
theorem dX8_far_28 : decode cX8_far 28 = .ok (.iload_n 1, 1) := by decide +kernel
theorem dX8_far_29 : decode cX8_far 29 = .ok (.i2l, 1) := by decide +kernel
theorem dX8_far_30 : decode cX8_far 30 = .ok (.lmul, 1) := by decide +kernel
theorem dX8_far_31 : decode cX8_far 31 = .ok (.iload_n 1, 1) := by decide +kernel
theorem dX8_far_32 : decode cX8_far 32 = .ok (.i2l, 1) := by decide +kernel
theorem dX8_far_33 : decode cX8_far 33 = .ok (.lmul, 1) := by decide +kernel
theorem dX8_far_34 : decode cX8_far 34 = .ok (.iload_n 1, 1) := by decide +kernel
theorem dX8_far_35 : decode cX8_far 35 = .ok (.i2l, 1) := by decide +kernel
theorem dX8_far_36 : decode cX8_far 36 = .ok (.lmul, 1) := by decide +kernel
theorem dX8_far_37 : decode cX8_far 37 = .ok (.aload_n 0, 1) := by decide +kernel
theorem dX8_far_38 : decode cX8_far 38 = .ok (.iconst 1, 1) := by decide +kernel
theorem dX8_far_39 : decode cX8_far 39 = .ok (.invokevirtual 227, 3) := by decide +kernel
theorem dX8_far_42 : decode cX8_far 42 = .ok (.iload_n 1, 1) := by decide +kernel
theorem dX8_far_43 : decode cX8_far 43 = .ok (.i2l, 1) := by decide +kernel
theorem dX8_far_44 : decode cX8_far 44 = .ok (.lmul, 1) := by decide +kernel
theorem dX8_far_45 : decode cX8_far 45 = .ok (.iload_n 1, 1) := by decide +kernel
theorem dX8_far_46 : decode cX8_far 46 = .ok (.i2l, 1) := by decide +kernel
theorem dX8_far_47 : decode cX8_far 47 = .ok (.lmul, 1) := by decide +kernel
theorem dX8_far_48 : decode cX8_far 48 = .ok (.iload_n 2, 1) := by decide +kernel
theorem dX8_far_49 : decode cX8_far 49 = .ok (.i2l, 1) := by decide +kernel
theorem dX8_far_50 : decode cX8_far 50 = .ok (.lmul, 1) := by decide +kernel
theorem dX8_far_51 : decode cX8_far 51 = .ok (.ladd, 1) := by decide +kernel
theorem dX8_far_52 : decode cX8_far 52 = .ok (.aload_n 0, 1) := by decide +kernel
theorem dX8_far_53 : decode cX8_far 53 = .ok (.iconst 2, 1) := by decide +kernel
theorem dX8_far_54 : decode cX8_far 54 = .ok (.invokevirtual 227, 3) := by decide +kernel
theorem dX8_far_57 : decode cX8_far 57 = .ok (.iload_n 1, 1) := by decide +kernel
theorem dX8_far_58 : decode cX8_far 58 = .ok (.i2l, 1) := by decide +kernel
theorem dX8_far_59 : decode cX8_far 59 = .ok (.lmul, 1) := by decide +kernel
theorem dX8_far_60 : decode cX8_far 60 = .ok (.iload_n 2, 1) := by decide +kernel
theorem dX8_far_61 : decode cX8_far 61 = .ok (.i2l, 1) := by decide +kernel
theorem dX8_far_62 : decode cX8_far 62 = .ok (.lmul, 1) := by decide +kernel
theorem dX8_far_63 : decode cX8_far 63 = .ok (.iload_n 2, 1) := by decide +kernel
theorem dX8_far_64 : decode cX8_far 64 = .ok (.i2l, 1) := by decide +kernel
theorem dX8_far_65 : decode cX8_far 65 = .ok (.lmul, 1) := by decide +kernel
theorem dX8_far_66 : decode cX8_far 66 = .ok (.ladd, 1) := by decide +kernel
theorem dX8_far_67 : decode cX8_far 67 = .ok (.aload_n 0, 1) := by decide +kernel
theorem dX8_far_68 : decode cX8_far 68 = .ok (.iconst 3, 1) := by decide +kernel
theorem dX8_far_69 : decode cX8_far 69 = .ok (.invokevirtual 227, 3) := by decide +kernel
theorem dX8_far_72 : decode cX8_far 72 = .ok (.iload_n 2, 1) := by decide +kernel
theorem dX8_far_73 : decode cX8_far 73 = .ok (.i2l, 1) := by decide +kernel
theorem dX8_far_74 : decode cX8_far 74 = .ok (.lmul, 1) := by decide +kernel
theorem dX8_far_75 : decode cX8_far 75 = .ok (.iload_n 2, 1) := by decide +kernel
theorem dX8_far_76 : decode cX8_far 76 = .ok (.i2l, 1) := by decide +kernel
theorem dX8_far_77 : decode cX8_far 77 = .ok (.lmul, 1) := by decide +kernel
theorem dX8_far_78 : decode cX8_far 78 = .ok (.iload_n 2, 1) := by decide +kernel
theorem dX8_far_79 : decode cX8_far 79 = .ok (.i2l, 1) := by decide +kernel
theorem dX8_far_80 : decode cX8_far 80 = .ok (.lmul, 1) := by decide +kernel
theorem dX8_far_81 : decode cX8_far 81 = .ok (.ladd, 1) := by decide +kernel
theorem dX8_far_82 : decode cX8_far 82 = .ok (.lconst 0, 1) := by decide +kernel
theorem dX8_far_83 : decode cX8_far 83 = .ok (.lcmp, 1) := by decide +kernel
theorem dX8_far_84 : decode cX8_far 84 = .ok (.ifCond .ne 7, 3) := by decide +kernel
theorem dX8_far_87 : decode cX8_far 87 = .ok (.iconst 1, 1) := by decide +kernel
theorem dX8_far_88 : decode cX8_far 88 = .ok (.goto 4, 3) := by decide +kernel
theorem dX8_far_91 : decode cX8_far 91 = .ok (.iconst 0, 1) := by decide +kernel
theorem dX8_far_92 : decode cX8_far 92 = .ok (.ireturn, 1) := by decide +kernel
set_option maxRecDepth 20000 in
theorem ggX8_isSlot_X8_in : GoodIn wsX8_isSlot wsX8_in := goodIn_r _ [4] (by decide +kernel) (by decide +kernel)
set_option maxRecDepth 20000 in
theorem gX8_isSlot_X8_in : GoodIn wsX8_isSlot (va_wsS RX8 61 yX8_in wsX8_in) := goodIn_app (goodIn_of _ (by decide +kernel)) ggX8_isSlot_X8_in
theorem dX8_isSlot_0 : decode cX8_isSlot 0 = .ok (.iload_n 0, 1) := by decide +kernel
theorem dX8_isSlot_1 : decode cX8_isSlot 1 = .ok (.iconst 0, 1) := by decide +kernel
theorem dX8_isSlot_2 : decode cX8_isSlot 2 = .ok (.iconst 3, 1) := by decide +kernel
theorem dX8_isSlot_3 : decode cX8_isSlot 3 = .ok (.invokestatic 61, 3) := by decide +kernel
theorem dX8_isSlot_6 : decode cX8_isSlot 6 = .ok (.ireturn, 1) := by decide +kernel
set_option maxRecDepth 20000 in
theorem ggX8_kindOf_X8_spreadAt : GoodIn wsX8_kindOf wsX8_spreadAt := goodIn_r _ [5, 6, 7, 8, 4, 9, 10, 11, 12, 13, 14, 15, 16, 17, 18, 19, 20, 21, 22, 23, 24, 25, 26, 27, 28, 29, 30, 31, 32, 33, 34, 35, 36, 37] (by decide +kernel) (by decide +kernel)
set_option maxRecDepth 20000 in
theorem gX8_kindOf_X8_spreadAt : GoodIn wsX8_kindOf (wsV RX8 224 RX8 yX8_spreadAt wsX8_spreadAt) := goodIn_app (goodIn_of _ (by decide +kernel)) ggX8_kindOf_X8_spreadAt
set_option maxRecDepth 20000 in
theorem ggX8_kindOf_X8_get : GoodIn wsX8_kindOf wsX8_get := goodIn_r _ [13, 14, 15, 16, 17, 18, 19, 20, 21, 22, 23, 24, 25, 26, 27, 28, 29, 30, 31, 32, 33, 34, 35, 36, 37] (by decide +kernel) (by decide +kernel)
set_option maxRecDepth 20000 in
theorem gX8_kindOf_X8_get : GoodIn wsX8_kindOf (wsV RX8 76 RX8 yX8_get wsX8_get) := goodIn_app (goodIn_of _ (by decide +kernel)) ggX8_kindOf_X8_get
theorem dX8_kindOf_0 : decode cX8_kindOf 0 = .ok (.aload_n 0, 1) := by decide +kernel
theorem dX8_kindOf_1 : decode cX8_kindOf 1 = .ok (.iconst 0, 1) := by decide +kernel
theorem dX8_kindOf_2 : decode cX8_kindOf 2 = .ok (.iconst 0, 1) := by decide +kernel
theorem dX8_kindOf_3 : decode cX8_kindOf 3 = .ok (.invokevirtual 224, 3) := by decide +kernel
theorem dX8_kindOf_6 : decode cX8_kindOf 6 = .ok (.ifCond .ne 23, 3) := by decide +kernel
theorem dX8_kindOf_9 : decode cX8_kindOf 9 = .ok (.aload_n 0, 1) := by decide +kernel
theorem dX8_kindOf_10 : decode cX8_kindOf 10 = .ok (.iconst 1, 1) := by decide +kernel
theorem dX8_kindOf_11 : decode cX8_kindOf 11 = .ok (.iconst 0, 1) := by decide +kernel
theorem dX8_kindOf_12 : decode cX8_kindOf 12 = .ok (.invokevirtual 224, 3) := by decide +kernel
theorem dX8_kindOf_15 : decode cX8_kindOf 15 = .ok (.ifCond .ne 14, 3) := by decide +kernel
theorem dX8_kindOf_18 : decode cX8_kindOf 18 = .ok (.aload_n 0, 1) := by decide +kernel
theorem dX8_kindOf_19 : decode cX8_kindOf 19 = .ok (.iconst 0, 1) := by decide +kernel
theorem dX8_kindOf_20 : decode cX8_kindOf 20 = .ok (.iconst 1, 1) := by decide +kernel
theorem dX8_kindOf_21 : decode cX8_kindOf 21 = .ok (.invokevirtual 224, 3) := by decide +kernel
theorem dX8_kindOf_24 : decode cX8_kindOf 24 = .ok (.ifCond .ne 5, 3) := by decide +kernel
theorem dX8_kindOf_27 : decode cX8_kindOf 27 = .ok (.iconst 3, 1) := by decide +kernel
theorem dX8_kindOf_28 : decode cX8_kindOf 28 = .ok (.ireturn, 1) := by decide +kernel
theorem dX8_kindOf_29 : decode cX8_kindOf 29 = .ok (.iconst 1, 1) := by decide +kernel
theorem dX8_kindOf_30 : decode cX8_kindOf 30 = .ok (.istore_n 1, 1) := by decide +kernel
theorem dX8_kindOf_31 : decode cX8_kindOf 31 = .ok (.iconst 3, 1) := by decide +kernel
theorem dX8_kindOf_32 : decode cX8_kindOf 32 = .ok (.istore_n 2, 1) := by decide +kernel
theorem dX8_kindOf_33 : decode cX8_kindOf 33 = .ok (.iload_n 2, 1) := by decide +kernel
theorem dX8_kindOf_34 : decode cX8_kindOf 34 = .ok (.bipush 6, 2) := by decide +kernel
theorem dX8_kindOf_36 : decode cX8_kindOf 36 = .ok (.if_icmp .ge 37, 3) := by decide +kernel
theorem dX8_kindOf_39 : decode cX8_kindOf 39 = .ok (.iload_n 1, 1) := by decide +kernel
theorem dX8_kindOf_40 : decode cX8_kindOf 40 = .ok (.ifCond .eq 25, 3) := by decide +kernel
theorem dX8_kindOf_43 : decode cX8_kindOf 43 = .ok (.aload_n 0, 1) := by decide +kernel
theorem dX8_kindOf_44 : decode cX8_kindOf 44 = .ok (.iconst 0, 1) := by decide +kernel
theorem dX8_kindOf_45 : decode cX8_kindOf 45 = .ok (.iload_n 2, 1) := by decide +kernel
theorem dX8_kindOf_46 : decode cX8_kindOf 46 = .ok (.invokevirtual 76, 3) := by decide +kernel
theorem dX8_kindOf_49 : decode cX8_kindOf 49 = .ok (.ifCond .ne 16, 3) := by decide +kernel
theorem dX8_kindOf_52 : decode cX8_kindOf 52 = .ok (.aload_n 0, 1) := by decide +kernel
theorem dX8_kindOf_53 : decode cX8_kindOf 53 = .ok (.iconst 1, 1) := by decide +kernel
theorem dX8_kindOf_54 : decode cX8_kindOf 54 = .ok (.iload_n 2, 1) := by decide +kernel
theorem dX8_kindOf_55 : decode cX8_kindOf 55 = .ok (.invokevirtual 76, 3) := by decide +kernel
theorem dX8_kindOf_58 : decode cX8_kindOf 58 = .ok (.ifCond .ne 7, 3) := by decide +kernel
theorem dX8_kindOf_61 : decode cX8_kindOf 61 = .ok (.iconst 1, 1) := by decide +kernel
theorem dX8_kindOf_62 : decode cX8_kindOf 62 = .ok (.goto 4, 3) := by decide +kernel
theorem dX8_kindOf_65 : decode cX8_kindOf 65 = .ok (.iconst 0, 1) := by decide +kernel
theorem dX8_kindOf_66 : decode cX8_kindOf 66 = .ok (.istore_n 1, 1) := by decide +kernel
theorem dX8_kindOf_67 : decode cX8_kindOf 67 = .ok (.iinc 2 1, 3) := by decide +kernel
theorem dX8_kindOf_70 : decode cX8_kindOf 70 = .ok (.goto (-37), 3) := by decide +kernel
theorem dX8_kindOf_73 : decode cX8_kindOf 73 = .ok (.iload_n 1, 1) := by decide +kernel
theorem dX8_kindOf_74 : decode cX8_kindOf 74 = .ok (.ifCond .ne 7, 3) := by decide +kernel
theorem dX8_kindOf_77 : decode cX8_kindOf 77 = .ok (.iconst 0, 1) := by decide +kernel
theorem dX8_kindOf_78 : decode cX8_kindOf 78 = .ok (.goto 26, 3) := by decide +kernel
theorem dX8_kindOf_81 : decode cX8_kindOf 81 = .ok (.aload_n 0, 1) := by decide +kernel
theorem dX8_kindOf_82 : decode cX8_kindOf 82 = .ok (.iconst 0, 1) := by decide +kernel
theorem dX8_kindOf_83 : decode cX8_kindOf 83 = .ok (.iconst 0, 1) := by decide +kernel
theorem dX8_kindOf_84 : decode cX8_kindOf 84 = .ok (.invokevirtual 76, 3) := by decide +kernel
theorem dX8_kindOf_87 : decode cX8_kindOf 87 = .ok (.ifCond .ne 16, 3) := by decide +kernel
theorem dX8_kindOf_90 : decode cX8_kindOf 90 = .ok (.aload_n 0, 1) := by decide +kernel
theorem dX8_kindOf_91 : decode cX8_kindOf 91 = .ok (.iconst 1, 1) := by decide +kernel
theorem dX8_kindOf_92 : decode cX8_kindOf 92 = .ok (.iconst 0, 1) := by decide +kernel
theorem dX8_kindOf_93 : decode cX8_kindOf 93 = .ok (.invokevirtual 76, 3) := by decide +kernel
theorem dX8_kindOf_96 : decode cX8_kindOf 96 = .ok (.ifCond .ne 7, 3) := by decide +kernel
theorem dX8_kindOf_99 : decode cX8_kindOf 99 = .ok (.iconst 2, 1) := by decide +kernel
theorem dX8_kindOf_100 : decode cX8_kindOf 100 = .ok (.goto 4, 3) := by decide +kernel
theorem dX8_kindOf_103 : decode cX8_kindOf 103 = .ok (.iconst 1, 1) := by decide +kernel
theorem dX8_kindOf_104 : decode cX8_kindOf 104 = .ok (.ireturn, 1) := by decide +kernel
set_option maxRecDepth 20000 in
theorem ggX8_keep_X8_isSlot : GoodIn wsX8_keep wsX8_isSlot := goodIn_r _ [9, 10, 11, 8, 12] (by decide +kernel) (by decide +kernel)
set_option maxRecDepth 20000 in
theorem gX8_keep_X8_isSlot : GoodIn wsX8_keep (va_wsS RX8 239 yX8_isSlot wsX8_isSlot) := goodIn_app (goodIn_of _ (by decide +kernel)) ggX8_keep_X8_isSlot
set_option maxRecDepth 20000 in
theorem ggX8_keep_X8_found : GoodIn wsX8_keep wsX8_found := goodIn_r _ [16, 17, 34, 35, 36, 37, 38, 39, 40, 41, 42, 43, 44, 45, 46, 47, 48, 49, 50, 51, 52, 53, 54, 55, 56] (by decide +kernel) (by decide +kernel)
set_option maxRecDepth 20000 in
theorem gX8_keep_X8_found : GoodIn wsX8_keep (wsV RX8 69 RX8 yX8_found wsX8_found) := goodIn_app (goodIn_of _ (by decide +kernel)) ggX8_keep_X8_found
set_option maxRecDepth 20000 in
theorem ggX8_keep_X8_kindOf : GoodIn wsX8_keep wsX8_kindOf := goodIn_r _ [21, 22, 23, 24, 8, 25, 26, 27, 28, 29, 30, 31, 32, 33, 3, 34, 35, 36, 37, 38, 39, 40, 41, 42, 43, 44, 45, 46, 47, 48, 49, 50, 51, 52, 53, 54, 55, 56] (by decide +kernel) (by decide +kernel)
set_option maxRecDepth 20000 in
theorem gX8_keep_X8_kindOf : GoodIn wsX8_keep (wsV RX8 242 RX8 yX8_kindOf wsX8_kindOf) := goodIn_app (goodIn_of _ (by decide +kernel)) ggX8_keep_X8_kindOf
theorem dX8_keep_0 : decode cX8_keep 0 = .ok (.iload_n 1, 1) := by decide +kernel
theorem dX8_keep_1 : decode cX8_keep 1 = .ok (.invokestatic 239, 3) := by decide +kernel
theorem dX8_keep_4 : decode cX8_keep 4 = .ok (.ifCond .ne 10, 3) := by decide +kernel
theorem dX8_keep_7 : decode cX8_keep 7 = .ok (.aload_n 0, 1) := by decide +kernel
theorem dX8_keep_8 : decode cX8_keep 8 = .ok (.ldc 68, 2) := by decide +kernel
theorem dX8_keep_10 : decode cX8_keep 10 = .ok (.invokevirtual 69, 3) := by decide +kernel
theorem dX8_keep_13 : decode cX8_keep 13 = .ok (.ireturn, 1) := by decide +kernel
theorem dX8_keep_14 : decode cX8_keep 14 = .ok (.iconst 0, 1) := by decide +kernel
theorem dX8_keep_15 : decode cX8_keep 15 = .ok (.istore_n 2, 1) := by decide +kernel
theorem dX8_keep_16 : decode cX8_keep 16 = .ok (.iload_n 2, 1) := by decide +kernel
theorem dX8_keep_17 : decode cX8_keep 17 = .ok (.bipush 12, 2) := by decide +kernel
theorem dX8_keep_19 : decode cX8_keep 19 = .ok (.if_icmp .ge 26, 3) := by decide +kernel
theorem dX8_keep_22 : decode cX8_keep 22 = .ok (.aload_n 0, 1) := by decide +kernel
theorem dX8_keep_23 : decode cX8_keep 23 = .ok (.getfield 16, 3) := by decide +kernel
theorem dX8_keep_26 : decode cX8_keep 26 = .ok (.bipush 12, 2) := by decide +kernel
theorem dX8_keep_28 : decode cX8_keep 28 = .ok (.iload_n 1, 1) := by decide +kernel
theorem dX8_keep_29 : decode cX8_keep 29 = .ok (.imul, 1) := by decide +kernel
theorem dX8_keep_30 : decode cX8_keep 30 = .ok (.iload_n 2, 1) := by decide +kernel
theorem dX8_keep_31 : decode cX8_keep 31 = .ok (.iadd, 1) := by decide +kernel
theorem dX8_keep_32 : decode cX8_keep 32 = .ok (.aload_n 0, 1) := by decide +kernel
theorem dX8_keep_33 : decode cX8_keep 33 = .ok (.getfield 7, 3) := by decide +kernel
theorem dX8_keep_36 : decode cX8_keep 36 = .ok (.iload_n 2, 1) := by decide +kernel
theorem dX8_keep_37 : decode cX8_keep 37 = .ok (.iaload, 1) := by decide +kernel
theorem dX8_keep_38 : decode cX8_keep 38 = .ok (.iastore, 1) := by decide +kernel
theorem dX8_keep_39 : decode cX8_keep 39 = .ok (.iinc 2 1, 3) := by decide +kernel
theorem dX8_keep_42 : decode cX8_keep 42 = .ok (.goto (-26), 3) := by decide +kernel
theorem dX8_keep_45 : decode cX8_keep 45 = .ok (.aload_n 0, 1) := by decide +kernel
theorem dX8_keep_46 : decode cX8_keep 46 = .ok (.getfield 22, 3) := by decide +kernel
theorem dX8_keep_49 : decode cX8_keep 49 = .ok (.iload_n 1, 1) := by decide +kernel
theorem dX8_keep_50 : decode cX8_keep 50 = .ok (.iconst 1, 1) := by decide +kernel
theorem dX8_keep_51 : decode cX8_keep 51 = .ok (.bastore, 1) := by decide +kernel
theorem dX8_keep_52 : decode cX8_keep 52 = .ok (.aload_n 0, 1) := by decide +kernel
theorem dX8_keep_53 : decode cX8_keep 53 = .ok (.getfield 19, 3) := by decide +kernel
theorem dX8_keep_56 : decode cX8_keep 56 = .ok (.iload_n 1, 1) := by decide +kernel
theorem dX8_keep_57 : decode cX8_keep 57 = .ok (.aload_n 0, 1) := by decide +kernel
theorem dX8_keep_58 : decode cX8_keep 58 = .ok (.invokevirtual 242, 3) := by decide +kernel
theorem dX8_keep_61 : decode cX8_keep 61 = .ok (.iastore, 1) := by decide +kernel
theorem dX8_keep_62 : decode cX8_keep 62 = .ok (.aload_n 0, 1) := by decide +kernel
theorem dX8_keep_63 : decode cX8_keep 63 = .ok (.getfield 19, 3) := by decide +kernel
theorem dX8_keep_66 : decode cX8_keep 66 = .ok (.iload_n 1, 1) := by decide +kernel
theorem dX8_keep_67 : decode cX8_keep 67 = .ok (.iaload, 1) := by decide +kernel
theorem dX8_keep_68 : decode cX8_keep 68 = .ok (.ireturn, 1) := by decide +kernel
set_option maxRecDepth 20000 in
theorem ggX8_bring_X8_isSlot : GoodIn wsX8_bring wsX8_isSlot := goodIn_r _ [10, 11, 12, 9, 13] (by decide +kernel) (by decide +kernel)
set_option maxRecDepth 20000 in
theorem gX8_bring_X8_isSlot : GoodIn wsX8_bring (va_wsS RX8 239 yX8_isSlot wsX8_isSlot) := goodIn_app (goodIn_of _ (by decide +kernel)) ggX8_bring_X8_isSlot
set_option maxRecDepth 20000 in
theorem ggX8_bring_X8_found : GoodIn wsX8_bring wsX8_found := goodIn_r _ [17, 18, 25, 26, 27, 28, 29, 30, 31, 32, 33, 34, 35, 36, 37, 38, 39, 40, 41, 42, 43, 44, 45, 46, 47] (by decide +kernel) (by decide +kernel)
set_option maxRecDepth 20000 in
theorem gX8_bring_X8_found : GoodIn wsX8_bring (wsV RX8 69 RX8 yX8_found wsX8_found) := goodIn_app (goodIn_of _ (by decide +kernel)) ggX8_bring_X8_found
set_option maxRecDepth 20000 in
theorem ggX8_bring_X8_remember : GoodIn wsX8_bring wsX8_remember := goodIn_r _ [22, 23, 24, 4, 25, 26, 27, 28, 29, 30, 31, 32, 33, 34, 35, 36, 37, 38, 39, 40, 41, 42, 43, 44, 45, 46, 47] (by decide +kernel) (by decide +kernel)
set_option maxRecDepth 20000 in
theorem gX8_bring_X8_remember : GoodIn wsX8_bring (wsV RX8 73 RX8 yX8_remember wsX8_remember) := goodIn_app (goodIn_of _ (by decide +kernel)) ggX8_bring_X8_remember
theorem dX8_bring_0 : decode cX8_bring 0 = .ok (.iload_n 1, 1) := by decide +kernel
theorem dX8_bring_1 : decode cX8_bring 1 = .ok (.invokestatic 239, 3) := by decide +kernel
theorem dX8_bring_4 : decode cX8_bring 4 = .ok (.ifCond .ne 10, 3) := by decide +kernel
theorem dX8_bring_7 : decode cX8_bring 7 = .ok (.aload_n 0, 1) := by decide +kernel
theorem dX8_bring_8 : decode cX8_bring 8 = .ok (.ldc 68, 2) := by decide +kernel
theorem dX8_bring_10 : decode cX8_bring 10 = .ok (.invokevirtual 69, 3) := by decide +kernel
theorem dX8_bring_13 : decode cX8_bring 13 = .ok (.ireturn, 1) := by decide +kernel
theorem dX8_bring_14 : decode cX8_bring 14 = .ok (.aload_n 0, 1) := by decide +kernel
theorem dX8_bring_15 : decode cX8_bring 15 = .ok (.getfield 22, 3) := by decide +kernel
theorem dX8_bring_18 : decode cX8_bring 18 = .ok (.iload_n 1, 1) := by decide +kernel
theorem dX8_bring_19 : decode cX8_bring 19 = .ok (.baload, 1) := by decide +kernel
theorem dX8_bring_20 : decode cX8_bring 20 = .ok (.ifCond .ne 10, 3) := by decide +kernel
theorem dX8_bring_23 : decode cX8_bring 23 = .ok (.aload_n 0, 1) := by decide +kernel
theorem dX8_bring_24 : decode cX8_bring 24 = .ok (.ldc 100, 2) := by decide +kernel
theorem dX8_bring_26 : decode cX8_bring 26 = .ok (.invokevirtual 69, 3) := by decide +kernel
theorem dX8_bring_29 : decode cX8_bring 29 = .ok (.ireturn, 1) := by decide +kernel
theorem dX8_bring_30 : decode cX8_bring 30 = .ok (.aload_n 0, 1) := by decide +kernel
theorem dX8_bring_31 : decode cX8_bring 31 = .ok (.invokevirtual 73, 3) := by decide +kernel
theorem dX8_bring_34 : decode cX8_bring 34 = .ok (.iconst 0, 1) := by decide +kernel
theorem dX8_bring_35 : decode cX8_bring 35 = .ok (.istore_n 2, 1) := by decide +kernel
theorem dX8_bring_36 : decode cX8_bring 36 = .ok (.iload_n 2, 1) := by decide +kernel
theorem dX8_bring_37 : decode cX8_bring 37 = .ok (.bipush 12, 2) := by decide +kernel
theorem dX8_bring_39 : decode cX8_bring 39 = .ok (.if_icmp .ge 26, 3) := by decide +kernel
theorem dX8_bring_42 : decode cX8_bring 42 = .ok (.aload_n 0, 1) := by decide +kernel
theorem dX8_bring_43 : decode cX8_bring 43 = .ok (.getfield 7, 3) := by decide +kernel
theorem dX8_bring_46 : decode cX8_bring 46 = .ok (.iload_n 2, 1) := by decide +kernel
theorem dX8_bring_47 : decode cX8_bring 47 = .ok (.aload_n 0, 1) := by decide +kernel
theorem dX8_bring_48 : decode cX8_bring 48 = .ok (.getfield 16, 3) := by decide +kernel
theorem dX8_bring_51 : decode cX8_bring 51 = .ok (.bipush 12, 2) := by decide +kernel
theorem dX8_bring_53 : decode cX8_bring 53 = .ok (.iload_n 1, 1) := by decide +kernel
theorem dX8_bring_54 : decode cX8_bring 54 = .ok (.imul, 1) := by decide +kernel
theorem dX8_bring_55 : decode cX8_bring 55 = .ok (.iload_n 2, 1) := by decide +kernel
theorem dX8_bring_56 : decode cX8_bring 56 = .ok (.iadd, 1) := by decide +kernel
theorem dX8_bring_57 : decode cX8_bring 57 = .ok (.iaload, 1) := by decide +kernel
theorem dX8_bring_58 : decode cX8_bring 58 = .ok (.iastore, 1) := by decide +kernel
theorem dX8_bring_59 : decode cX8_bring 59 = .ok (.iinc 2 1, 3) := by decide +kernel
theorem dX8_bring_62 : decode cX8_bring 62 = .ok (.goto (-26), 3) := by decide +kernel
theorem dX8_bring_65 : decode cX8_bring 65 = .ok (.aload_n 0, 1) := by decide +kernel
theorem dX8_bring_66 : decode cX8_bring 66 = .ok (.getfield 19, 3) := by decide +kernel
theorem dX8_bring_69 : decode cX8_bring 69 = .ok (.iload_n 1, 1) := by decide +kernel
theorem dX8_bring_70 : decode cX8_bring 70 = .ok (.iaload, 1) := by decide +kernel
theorem dX8_bring_71 : decode cX8_bring 71 = .ok (.ireturn, 1) := by decide +kernel
set_option maxRecDepth 20000 in
theorem ggX8_as_X8_isSlot : GoodIn wsX8_as wsX8_isSlot := goodIn_r _ [10, 11, 12, 9, 13] (by decide +kernel) (by decide +kernel)
set_option maxRecDepth 20000 in
theorem gX8_as_X8_isSlot : GoodIn wsX8_as (va_wsS RX8 239 yX8_isSlot wsX8_isSlot) := goodIn_app (goodIn_of _ (by decide +kernel)) ggX8_as_X8_isSlot
set_option maxRecDepth 20000 in
theorem ggX8_as_X8_in : GoodIn wsX8_as wsX8_in := goodIn_r _ [13] (by decide +kernel) (by decide +kernel)
set_option maxRecDepth 20000 in
theorem gX8_as_X8_in : GoodIn wsX8_as (va_wsS RX8 61 yX8_in wsX8_in) := goodIn_app (goodIn_of _ (by decide +kernel)) ggX8_as_X8_in
set_option maxRecDepth 20000 in
theorem ggX8_as_X8_found : GoodIn wsX8_as wsX8_found := goodIn_r _ [17, 18, 19, 20, 21, 22, 23, 24, 25, 26, 27, 28, 29, 30, 31, 32, 33, 34, 35, 36, 37, 38, 39, 40, 41] (by decide +kernel) (by decide +kernel)
set_option maxRecDepth 20000 in
theorem gX8_as_X8_found : GoodIn wsX8_as (wsV RX8 69 RX8 yX8_found wsX8_found) := goodIn_app (goodIn_of _ (by decide +kernel)) ggX8_as_X8_found
theorem dX8_as_0 : decode cX8_as 0 = .ok (.iload_n 1, 1) := by decide +kernel
theorem dX8_as_1 : decode cX8_as 1 = .ok (.invokestatic 239, 3) := by decide +kernel
theorem dX8_as_4 : decode cX8_as 4 = .ok (.ifCond .eq 12, 3) := by decide +kernel
theorem dX8_as_7 : decode cX8_as 7 = .ok (.iload_n 2, 1) := by decide +kernel
theorem dX8_as_8 : decode cX8_as 8 = .ok (.iconst 0, 1) := by decide +kernel
theorem dX8_as_9 : decode cX8_as 9 = .ok (.iconst 3, 1) := by decide +kernel
theorem dX8_as_10 : decode cX8_as 10 = .ok (.invokestatic 61, 3) := by decide +kernel
theorem dX8_as_13 : decode cX8_as 13 = .ok (.ifCond .ne 10, 3) := by decide +kernel
theorem dX8_as_16 : decode cX8_as 16 = .ok (.aload_n 0, 1) := by decide +kernel
theorem dX8_as_17 : decode cX8_as 17 = .ok (.ldc 68, 2) := by decide +kernel
theorem dX8_as_19 : decode cX8_as 19 = .ok (.invokevirtual 69, 3) := by decide +kernel
theorem dX8_as_22 : decode cX8_as 22 = .ok (.ireturn, 1) := by decide +kernel
theorem dX8_as_23 : decode cX8_as 23 = .ok (.aload_n 0, 1) := by decide +kernel
theorem dX8_as_24 : decode cX8_as 24 = .ok (.getfield 22, 3) := by decide +kernel
theorem dX8_as_27 : decode cX8_as 27 = .ok (.iload_n 1, 1) := by decide +kernel
theorem dX8_as_28 : decode cX8_as 28 = .ok (.baload, 1) := by decide +kernel
theorem dX8_as_29 : decode cX8_as 29 = .ok (.ifCond .ne 10, 3) := by decide +kernel
theorem dX8_as_32 : decode cX8_as 32 = .ok (.aload_n 0, 1) := by decide +kernel
theorem dX8_as_33 : decode cX8_as 33 = .ok (.ldc 100, 2) := by decide +kernel
theorem dX8_as_35 : decode cX8_as 35 = .ok (.invokevirtual 69, 3) := by decide +kernel
theorem dX8_as_38 : decode cX8_as 38 = .ok (.ireturn, 1) := by decide +kernel
theorem dX8_as_39 : decode cX8_as 39 = .ok (.aload_n 0, 1) := by decide +kernel
theorem dX8_as_40 : decode cX8_as 40 = .ok (.getfield 19, 3) := by decide +kernel
theorem dX8_as_43 : decode cX8_as 43 = .ok (.iload_n 1, 1) := by decide +kernel
theorem dX8_as_44 : decode cX8_as 44 = .ok (.iaload, 1) := by decide +kernel
theorem dX8_as_45 : decode cX8_as 45 = .ok (.istore_n 3, 1) := by decide +kernel
theorem dX8_as_46 : decode cX8_as 46 = .ok (.iload_n 2, 1) := by decide +kernel
theorem dX8_as_47 : decode cX8_as 47 = .ok (.ifCond .eq 25, 3) := by decide +kernel
theorem dX8_as_50 : decode cX8_as 50 = .ok (.iload_n 2, 1) := by decide +kernel
theorem dX8_as_51 : decode cX8_as 51 = .ok (.iload_n 3, 1) := by decide +kernel
theorem dX8_as_52 : decode cX8_as 52 = .ok (.if_icmp .eq 20, 3) := by decide +kernel
theorem dX8_as_55 : decode cX8_as 55 = .ok (.iload_n 2, 1) := by decide +kernel
theorem dX8_as_56 : decode cX8_as 56 = .ok (.iconst 1, 1) := by decide +kernel
theorem dX8_as_57 : decode cX8_as 57 = .ok (.if_icmp .ne 8, 3) := by decide +kernel
theorem dX8_as_60 : decode cX8_as 60 = .ok (.iload_n 3, 1) := by decide +kernel
theorem dX8_as_61 : decode cX8_as 61 = .ok (.iconst 2, 1) := by decide +kernel
theorem dX8_as_62 : decode cX8_as 62 = .ok (.if_icmp .eq 10, 3) := by decide +kernel
theorem dX8_as_65 : decode cX8_as 65 = .ok (.aload_n 0, 1) := by decide +kernel
theorem dX8_as_66 : decode cX8_as 66 = .ok (.ldc 138, 2) := by decide +kernel
theorem dX8_as_68 : decode cX8_as 68 = .ok (.invokevirtual 69, 3) := by decide +kernel
theorem dX8_as_71 : decode cX8_as 71 = .ok (.ireturn, 1) := by decide +kernel
theorem dX8_as_72 : decode cX8_as 72 = .ok (.iconst 0, 1) := by decide +kernel
theorem dX8_as_73 : decode cX8_as 73 = .ok (.istore 4, 2) := by decide +kernel
theorem dX8_as_75 : decode cX8_as 75 = .ok (.iconst 0, 1) := by decide +kernel
theorem dX8_as_76 : decode cX8_as 76 = .ok (.istore 5, 2) := by decide +kernel
theorem dX8_as_78 : decode cX8_as 78 = .ok (.iload 5, 2) := by decide +kernel
theorem dX8_as_80 : decode cX8_as 80 = .ok (.bipush 12, 2) := by decide +kernel
theorem dX8_as_82 : decode cX8_as 82 = .ok (.if_icmp .ge 34, 3) := by decide +kernel
theorem dX8_as_85 : decode cX8_as 85 = .ok (.iload 4, 2) := by decide +kernel
theorem dX8_as_87 : decode cX8_as 87 = .ok (.aload_n 0, 1) := by decide +kernel
theorem dX8_as_88 : decode cX8_as 88 = .ok (.getfield 16, 3) := by decide +kernel
theorem dX8_as_91 : decode cX8_as 91 = .ok (.bipush 12, 2) := by decide +kernel
theorem dX8_as_93 : decode cX8_as 93 = .ok (.iload_n 1, 1) := by decide +kernel
theorem dX8_as_94 : decode cX8_as 94 = .ok (.imul, 1) := by decide +kernel
theorem dX8_as_95 : decode cX8_as 95 = .ok (.iload 5, 2) := by decide +kernel
theorem dX8_as_97 : decode cX8_as 97 = .ok (.iadd, 1) := by decide +kernel
theorem dX8_as_98 : decode cX8_as 98 = .ok (.iaload, 1) := by decide +kernel
theorem dX8_as_99 : decode cX8_as 99 = .ok (.ifCond .eq 7, 3) := by decide +kernel
theorem dX8_as_102 : decode cX8_as 102 = .ok (.iconst 1, 1) := by decide +kernel
theorem dX8_as_103 : decode cX8_as 103 = .ok (.goto 4, 3) := by decide +kernel
theorem dX8_as_106 : decode cX8_as 106 = .ok (.iconst 0, 1) := by decide +kernel
theorem dX8_as_107 : decode cX8_as 107 = .ok (.iadd, 1) := by decide +kernel
theorem dX8_as_108 : decode cX8_as 108 = .ok (.istore 4, 2) := by decide +kernel
theorem dX8_as_110 : decode cX8_as 110 = .ok (.iinc 5 1, 3) := by decide +kernel
theorem dX8_as_113 : decode cX8_as 113 = .ok (.goto (-35), 3) := by decide +kernel
theorem dX8_as_116 : decode cX8_as 116 = .ok (.iload 4, 2) := by decide +kernel
theorem dX8_as_118 : decode cX8_as 118 = .ok (.ireturn, 1) := by decide +kernel
set_option maxRecDepth 20000 in
theorem ggX8_sheet_X8_isSlot : GoodIn wsX8_sheet wsX8_isSlot := goodIn_r _ [9, 10, 11, 8, 12] (by decide +kernel) (by decide +kernel)
set_option maxRecDepth 20000 in
theorem gX8_sheet_X8_isSlot : GoodIn wsX8_sheet (va_wsS RX8 239 yX8_isSlot wsX8_isSlot) := goodIn_app (goodIn_of _ (by decide +kernel)) ggX8_sheet_X8_isSlot
set_option maxRecDepth 20000 in
theorem ggX8_sheet_X8_found : GoodIn wsX8_sheet wsX8_found := goodIn_r _ [16, 17, 18, 19, 20, 21, 22, 23, 24, 25, 26, 27, 28, 29, 30, 31, 32, 33, 34, 35, 36, 37, 38, 39, 40] (by decide +kernel) (by decide +kernel)
set_option maxRecDepth 20000 in
theorem gX8_sheet_X8_found : GoodIn wsX8_sheet (wsV RX8 69 RX8 yX8_found wsX8_found) := goodIn_app (goodIn_of _ (by decide +kernel)) ggX8_sheet_X8_found
theorem dX8_sheet_0 : decode cX8_sheet 0 = .ok (.iload_n 1, 1) := by decide +kernel
theorem dX8_sheet_1 : decode cX8_sheet 1 = .ok (.invokestatic 239, 3) := by decide +kernel
theorem dX8_sheet_4 : decode cX8_sheet 4 = .ok (.ifCond .eq 25, 3) := by decide +kernel
theorem dX8_sheet_7 : decode cX8_sheet 7 = .ok (.iload_n 2, 1) := by decide +kernel
theorem dX8_sheet_8 : decode cX8_sheet 8 = .ok (.ifCond .eq 28, 3) := by decide +kernel
theorem dX8_sheet_11 : decode cX8_sheet 11 = .ok (.iload_n 2, 1) := by decide +kernel
theorem dX8_sheet_12 : decode cX8_sheet 12 = .ok (.bipush 8, 2) := by decide +kernel
theorem dX8_sheet_14 : decode cX8_sheet 14 = .ok (.if_icmp .eq 22, 3) := by decide +kernel
theorem dX8_sheet_17 : decode cX8_sheet 17 = .ok (.iload_n 2, 1) := by decide +kernel
theorem dX8_sheet_18 : decode cX8_sheet 18 = .ok (.bipush 16, 2) := by decide +kernel
theorem dX8_sheet_20 : decode cX8_sheet 20 = .ok (.if_icmp .eq 16, 3) := by decide +kernel
theorem dX8_sheet_23 : decode cX8_sheet 23 = .ok (.iload_n 2, 1) := by decide +kernel
theorem dX8_sheet_24 : decode cX8_sheet 24 = .ok (.bipush 32, 2) := by decide +kernel
theorem dX8_sheet_26 : decode cX8_sheet 26 = .ok (.if_icmp .eq 10, 3) := by decide +kernel
theorem dX8_sheet_29 : decode cX8_sheet 29 = .ok (.aload_n 0, 1) := by decide +kernel
theorem dX8_sheet_30 : decode cX8_sheet 30 = .ok (.ldc 68, 2) := by decide +kernel
theorem dX8_sheet_32 : decode cX8_sheet 32 = .ok (.invokevirtual 69, 3) := by decide +kernel
theorem dX8_sheet_35 : decode cX8_sheet 35 = .ok (.ireturn, 1) := by decide +kernel
theorem dX8_sheet_36 : decode cX8_sheet 36 = .ok (.iload_n 3, 1) := by decide +kernel
theorem dX8_sheet_37 : decode cX8_sheet 37 = .ok (.ifCond .ge 10, 3) := by decide +kernel
theorem dX8_sheet_40 : decode cX8_sheet 40 = .ok (.aload_n 0, 1) := by decide +kernel
theorem dX8_sheet_41 : decode cX8_sheet 41 = .ok (.ldc 99, 2) := by decide +kernel
theorem dX8_sheet_43 : decode cX8_sheet 43 = .ok (.invokevirtual 69, 3) := by decide +kernel
theorem dX8_sheet_46 : decode cX8_sheet 46 = .ok (.ireturn, 1) := by decide +kernel
theorem dX8_sheet_47 : decode cX8_sheet 47 = .ok (.iload_n 3, 1) := by decide +kernel
theorem dX8_sheet_48 : decode cX8_sheet 48 = .ok (.bipush 16, 2) := by decide +kernel
theorem dX8_sheet_50 : decode cX8_sheet 50 = .ok (.if_icmp .le 10, 3) := by decide +kernel
theorem dX8_sheet_53 : decode cX8_sheet 53 = .ok (.aload_n 0, 1) := by decide +kernel
theorem dX8_sheet_54 : decode cX8_sheet 54 = .ok (.ldc 68, 2) := by decide +kernel
theorem dX8_sheet_56 : decode cX8_sheet 56 = .ok (.invokevirtual 69, 3) := by decide +kernel
theorem dX8_sheet_59 : decode cX8_sheet 59 = .ok (.ireturn, 1) := by decide +kernel
theorem dX8_sheet_60 : decode cX8_sheet 60 = .ok (.aload_n 0, 1) := by decide +kernel
theorem dX8_sheet_61 : decode cX8_sheet 61 = .ok (.getfield 26, 3) := by decide +kernel
theorem dX8_sheet_64 : decode cX8_sheet 64 = .ok (.iload_n 1, 1) := by decide +kernel
theorem dX8_sheet_65 : decode cX8_sheet 65 = .ok (.iload_n 2, 1) := by decide +kernel
theorem dX8_sheet_66 : decode cX8_sheet 66 = .ok (.iastore, 1) := by decide +kernel
theorem dX8_sheet_67 : decode cX8_sheet 67 = .ok (.aload_n 0, 1) := by decide +kernel
theorem dX8_sheet_68 : decode cX8_sheet 68 = .ok (.getfield 29, 3) := by decide +kernel
theorem dX8_sheet_71 : decode cX8_sheet 71 = .ok (.iload_n 1, 1) := by decide +kernel
theorem dX8_sheet_72 : decode cX8_sheet 72 = .ok (.iload_n 2, 1) := by decide +kernel
theorem dX8_sheet_73 : decode cX8_sheet 73 = .ok (.ifCond .ne 7, 3) := by decide +kernel
theorem dX8_sheet_76 : decode cX8_sheet 76 = .ok (.iconst 0, 1) := by decide +kernel
theorem dX8_sheet_77 : decode cX8_sheet 77 = .ok (.goto 4, 3) := by decide +kernel
theorem dX8_sheet_80 : decode cX8_sheet 80 = .ok (.iload_n 3, 1) := by decide +kernel
theorem dX8_sheet_81 : decode cX8_sheet 81 = .ok (.iastore, 1) := by decide +kernel
theorem dX8_sheet_82 : decode cX8_sheet 82 = .ok (.iconst 0, 1) := by decide +kernel
theorem dX8_sheet_83 : decode cX8_sheet 83 = .ok (.istore 4, 2) := by decide +kernel
theorem dX8_sheet_85 : decode cX8_sheet 85 = .ok (.iload 4, 2) := by decide +kernel
theorem dX8_sheet_87 : decode cX8_sheet 87 = .ok (.bipush 16, 2) := by decide +kernel
theorem dX8_sheet_89 : decode cX8_sheet 89 = .ok (.if_icmp .ge 22, 3) := by decide +kernel
theorem dX8_sheet_92 : decode cX8_sheet 92 = .ok (.aload_n 0, 1) := by decide +kernel
theorem dX8_sheet_93 : decode cX8_sheet 93 = .ok (.getfield 32, 3) := by decide +kernel
theorem dX8_sheet_96 : decode cX8_sheet 96 = .ok (.bipush 16, 2) := by decide +kernel
theorem dX8_sheet_98 : decode cX8_sheet 98 = .ok (.iload_n 1, 1) := by decide +kernel
theorem dX8_sheet_99 : decode cX8_sheet 99 = .ok (.imul, 1) := by decide +kernel
theorem dX8_sheet_100 : decode cX8_sheet 100 = .ok (.iload 4, 2) := by decide +kernel
theorem dX8_sheet_102 : decode cX8_sheet 102 = .ok (.iadd, 1) := by decide +kernel
theorem dX8_sheet_103 : decode cX8_sheet 103 = .ok (.iconst 0, 1) := by decide +kernel
theorem dX8_sheet_104 : decode cX8_sheet 104 = .ok (.iastore, 1) := by decide +kernel
theorem dX8_sheet_105 : decode cX8_sheet 105 = .ok (.iinc 4 1, 3) := by decide +kernel
theorem dX8_sheet_108 : decode cX8_sheet 108 = .ok (.goto (-23), 3) := by decide +kernel
theorem dX8_sheet_111 : decode cX8_sheet 111 = .ok (.aload_n 0, 1) := by decide +kernel
theorem dX8_sheet_112 : decode cX8_sheet 112 = .ok (.getfield 29, 3) := by decide +kernel
theorem dX8_sheet_115 : decode cX8_sheet 115 = .ok (.iload_n 1, 1) := by decide +kernel
theorem dX8_sheet_116 : decode cX8_sheet 116 = .ok (.iaload, 1) := by decide +kernel
theorem dX8_sheet_117 : decode cX8_sheet 117 = .ok (.ireturn, 1) := by decide +kernel
set_option maxRecDepth 20000 in
theorem ggX8_write_X8_isSlot : GoodIn wsX8_write wsX8_isSlot := goodIn_r _ [9, 10, 11, 8, 12] (by decide +kernel) (by decide +kernel)
set_option maxRecDepth 20000 in
theorem gX8_write_X8_isSlot : GoodIn wsX8_write (va_wsS RX8 239 yX8_isSlot wsX8_isSlot) := goodIn_app (goodIn_of _ (by decide +kernel)) ggX8_write_X8_isSlot
set_option maxRecDepth 20000 in
theorem ggX8_write_X8_found : GoodIn wsX8_write wsX8_found := goodIn_r _ [16, 17, 18, 19, 20, 21, 22, 23, 24, 25, 26, 27, 28, 29, 30, 31, 32, 33, 34, 35, 36, 37, 38, 39, 40] (by decide +kernel) (by decide +kernel)
set_option maxRecDepth 20000 in
theorem gX8_write_X8_found : GoodIn wsX8_write (wsV RX8 69 RX8 yX8_found wsX8_found) := goodIn_app (goodIn_of _ (by decide +kernel)) ggX8_write_X8_found
set_option maxRecDepth 20000 in
theorem ggX8_write_X8_in : GoodIn wsX8_write wsX8_in := goodIn_r _ [12] (by decide +kernel) (by decide +kernel)
set_option maxRecDepth 20000 in
theorem gX8_write_X8_in : GoodIn wsX8_write (va_wsS RX8 61 yX8_in wsX8_in) := goodIn_app (goodIn_of _ (by decide +kernel)) ggX8_write_X8_in
theorem dX8_write_0 : decode cX8_write 0 = .ok (.iload_n 1, 1) := by decide +kernel
theorem dX8_write_1 : decode cX8_write 1 = .ok (.invokestatic 239, 3) := by decide +kernel
theorem dX8_write_4 : decode cX8_write 4 = .ok (.ifCond .ne 10, 3) := by decide +kernel
theorem dX8_write_7 : decode cX8_write 7 = .ok (.aload_n 0, 1) := by decide +kernel
theorem dX8_write_8 : decode cX8_write 8 = .ok (.ldc 68, 2) := by decide +kernel
theorem dX8_write_10 : decode cX8_write 10 = .ok (.invokevirtual 69, 3) := by decide +kernel
theorem dX8_write_13 : decode cX8_write 13 = .ok (.ireturn, 1) := by decide +kernel
theorem dX8_write_14 : decode cX8_write 14 = .ok (.aload_n 0, 1) := by decide +kernel
theorem dX8_write_15 : decode cX8_write 15 = .ok (.getfield 26, 3) := by decide +kernel
theorem dX8_write_18 : decode cX8_write 18 = .ok (.iload_n 1, 1) := by decide +kernel
theorem dX8_write_19 : decode cX8_write 19 = .ok (.iaload, 1) := by decide +kernel
theorem dX8_write_20 : decode cX8_write 20 = .ok (.ifCond .ne 10, 3) := by decide +kernel
theorem dX8_write_23 : decode cX8_write 23 = .ok (.aload_n 0, 1) := by decide +kernel
theorem dX8_write_24 : decode cX8_write 24 = .ok (.ldc 245, 2) := by decide +kernel
theorem dX8_write_26 : decode cX8_write 26 = .ok (.invokevirtual 69, 3) := by decide +kernel
theorem dX8_write_29 : decode cX8_write 29 = .ok (.ireturn, 1) := by decide +kernel
theorem dX8_write_30 : decode cX8_write 30 = .ok (.iload_n 2, 1) := by decide +kernel
theorem dX8_write_31 : decode cX8_write 31 = .ok (.iconst 0, 1) := by decide +kernel
theorem dX8_write_32 : decode cX8_write 32 = .ok (.aload_n 0, 1) := by decide +kernel
theorem dX8_write_33 : decode cX8_write 33 = .ok (.getfield 29, 3) := by decide +kernel
theorem dX8_write_36 : decode cX8_write 36 = .ok (.iload_n 1, 1) := by decide +kernel
theorem dX8_write_37 : decode cX8_write 37 = .ok (.iaload, 1) := by decide +kernel
theorem dX8_write_38 : decode cX8_write 38 = .ok (.iconst 1, 1) := by decide +kernel
theorem dX8_write_39 : decode cX8_write 39 = .ok (.isub, 1) := by decide +kernel
theorem dX8_write_40 : decode cX8_write 40 = .ok (.invokestatic 61, 3) := by decide +kernel
theorem dX8_write_43 : decode cX8_write 43 = .ok (.ifCond .ne 10, 3) := by decide +kernel
theorem dX8_write_46 : decode cX8_write 46 = .ok (.aload_n 0, 1) := by decide +kernel
theorem dX8_write_47 : decode cX8_write 47 = .ok (.ldc 68, 2) := by decide +kernel
theorem dX8_write_49 : decode cX8_write 49 = .ok (.invokevirtual 69, 3) := by decide +kernel
theorem dX8_write_52 : decode cX8_write 52 = .ok (.ireturn, 1) := by decide +kernel
theorem dX8_write_53 : decode cX8_write 53 = .ok (.aload_n 0, 1) := by decide +kernel
theorem dX8_write_54 : decode cX8_write 54 = .ok (.getfield 32, 3) := by decide +kernel
theorem dX8_write_57 : decode cX8_write 57 = .ok (.bipush 16, 2) := by decide +kernel
theorem dX8_write_59 : decode cX8_write 59 = .ok (.iload_n 1, 1) := by decide +kernel
theorem dX8_write_60 : decode cX8_write 60 = .ok (.imul, 1) := by decide +kernel
theorem dX8_write_61 : decode cX8_write 61 = .ok (.iload_n 2, 1) := by decide +kernel
theorem dX8_write_62 : decode cX8_write 62 = .ok (.iadd, 1) := by decide +kernel
theorem dX8_write_63 : decode cX8_write 63 = .ok (.aload_n 0, 1) := by decide +kernel
theorem dX8_write_64 : decode cX8_write 64 = .ok (.getfield 26, 3) := by decide +kernel
theorem dX8_write_67 : decode cX8_write 67 = .ok (.iload_n 1, 1) := by decide +kernel
theorem dX8_write_68 : decode cX8_write 68 = .ok (.iaload, 1) := by decide +kernel
theorem dX8_write_69 : decode cX8_write 69 = .ok (.bipush 8, 2) := by decide +kernel
theorem dX8_write_71 : decode cX8_write 71 = .ok (.if_icmp .ne 8, 3) := by decide +kernel
theorem dX8_write_74 : decode cX8_write 74 = .ok (.iload_n 3, 1) := by decide +kernel
theorem dX8_write_75 : decode cX8_write 75 = .ok (.i2b, 1) := by decide +kernel
theorem dX8_write_76 : decode cX8_write 76 = .ok (.goto 20, 3) := by decide +kernel
theorem dX8_write_79 : decode cX8_write 79 = .ok (.aload_n 0, 1) := by decide +kernel
theorem dX8_write_80 : decode cX8_write 80 = .ok (.getfield 26, 3) := by decide +kernel
theorem dX8_write_83 : decode cX8_write 83 = .ok (.iload_n 1, 1) := by decide +kernel
theorem dX8_write_84 : decode cX8_write 84 = .ok (.iaload, 1) := by decide +kernel
theorem dX8_write_85 : decode cX8_write 85 = .ok (.bipush 16, 2) := by decide +kernel
theorem dX8_write_87 : decode cX8_write 87 = .ok (.if_icmp .ne 8, 3) := by decide +kernel
theorem dX8_write_90 : decode cX8_write 90 = .ok (.iload_n 3, 1) := by decide +kernel
theorem dX8_write_91 : decode cX8_write 91 = .ok (.i2s, 1) := by decide +kernel
theorem dX8_write_92 : decode cX8_write 92 = .ok (.goto 4, 3) := by decide +kernel
theorem dX8_write_95 : decode cX8_write 95 = .ok (.iload_n 3, 1) := by decide +kernel
theorem dX8_write_96 : decode cX8_write 96 = .ok (.iastore, 1) := by decide +kernel
theorem dX8_write_97 : decode cX8_write 97 = .ok (.iconst 0, 1) := by decide +kernel
theorem dX8_write_98 : decode cX8_write 98 = .ok (.ireturn, 1) := by decide +kernel
set_option maxRecDepth 20000 in
theorem ggX8_copy_X8_isSlot : GoodIn wsX8_copy wsX8_isSlot := goodIn_r _ [11, 12, 13, 10, 14] (by decide +kernel) (by decide +kernel)
set_option maxRecDepth 20000 in
theorem gX8_copy_X8_isSlot : GoodIn wsX8_copy (va_wsS RX8 239 yX8_isSlot wsX8_isSlot) := goodIn_app (goodIn_of _ (by decide +kernel)) ggX8_copy_X8_isSlot
set_option maxRecDepth 20000 in
theorem ggX8_copy_X8_found : GoodIn wsX8_copy wsX8_found := goodIn_r _ [18, 19, 20, 21, 22, 23, 24, 25, 26, 27, 28, 29, 30, 31, 32, 33, 34, 35, 36, 37, 38, 39, 40, 41, 42] (by decide +kernel) (by decide +kernel)
set_option maxRecDepth 20000 in
theorem gX8_copy_X8_found : GoodIn wsX8_copy (wsV RX8 69 RX8 yX8_found wsX8_found) := goodIn_app (goodIn_of _ (by decide +kernel)) ggX8_copy_X8_found
theorem dX8_copy_0 : decode cX8_copy 0 = .ok (.iload_n 1, 1) := by decide +kernel
theorem dX8_copy_1 : decode cX8_copy 1 = .ok (.invokestatic 239, 3) := by decide +kernel
theorem dX8_copy_4 : decode cX8_copy 4 = .ok (.ifCond .eq 10, 3) := by decide +kernel
theorem dX8_copy_7 : decode cX8_copy 7 = .ok (.iload_n 3, 1) := by decide +kernel
theorem dX8_copy_8 : decode cX8_copy 8 = .ok (.invokestatic 239, 3) := by decide +kernel
theorem dX8_copy_11 : decode cX8_copy 11 = .ok (.ifCond .ne 10, 3) := by decide +kernel
theorem dX8_copy_14 : decode cX8_copy 14 = .ok (.aload_n 0, 1) := by decide +kernel
theorem dX8_copy_15 : decode cX8_copy 15 = .ok (.ldc 68, 2) := by decide +kernel
theorem dX8_copy_17 : decode cX8_copy 17 = .ok (.invokevirtual 69, 3) := by decide +kernel
theorem dX8_copy_20 : decode cX8_copy 20 = .ok (.ireturn, 1) := by decide +kernel
theorem dX8_copy_21 : decode cX8_copy 21 = .ok (.aload_n 0, 1) := by decide +kernel
theorem dX8_copy_22 : decode cX8_copy 22 = .ok (.getfield 26, 3) := by decide +kernel
theorem dX8_copy_25 : decode cX8_copy 25 = .ok (.iload_n 1, 1) := by decide +kernel
theorem dX8_copy_26 : decode cX8_copy 26 = .ok (.iaload, 1) := by decide +kernel
theorem dX8_copy_27 : decode cX8_copy 27 = .ok (.ifCond .eq 12, 3) := by decide +kernel
theorem dX8_copy_30 : decode cX8_copy 30 = .ok (.aload_n 0, 1) := by decide +kernel
theorem dX8_copy_31 : decode cX8_copy 31 = .ok (.getfield 26, 3) := by decide +kernel
theorem dX8_copy_34 : decode cX8_copy 34 = .ok (.iload_n 3, 1) := by decide +kernel
theorem dX8_copy_35 : decode cX8_copy 35 = .ok (.iaload, 1) := by decide +kernel
theorem dX8_copy_36 : decode cX8_copy 36 = .ok (.ifCond .ne 10, 3) := by decide +kernel
theorem dX8_copy_39 : decode cX8_copy 39 = .ok (.aload_n 0, 1) := by decide +kernel
theorem dX8_copy_40 : decode cX8_copy 40 = .ok (.ldc 245, 2) := by decide +kernel
theorem dX8_copy_42 : decode cX8_copy 42 = .ok (.invokevirtual 69, 3) := by decide +kernel
theorem dX8_copy_45 : decode cX8_copy 45 = .ok (.ireturn, 1) := by decide +kernel
theorem dX8_copy_46 : decode cX8_copy 46 = .ok (.aload_n 0, 1) := by decide +kernel
theorem dX8_copy_47 : decode cX8_copy 47 = .ok (.getfield 26, 3) := by decide +kernel
theorem dX8_copy_50 : decode cX8_copy 50 = .ok (.iload_n 1, 1) := by decide +kernel
theorem dX8_copy_51 : decode cX8_copy 51 = .ok (.iaload, 1) := by decide +kernel
theorem dX8_copy_52 : decode cX8_copy 52 = .ok (.aload_n 0, 1) := by decide +kernel
theorem dX8_copy_53 : decode cX8_copy 53 = .ok (.getfield 26, 3) := by decide +kernel
theorem dX8_copy_56 : decode cX8_copy 56 = .ok (.iload_n 3, 1) := by decide +kernel
theorem dX8_copy_57 : decode cX8_copy 57 = .ok (.iaload, 1) := by decide +kernel
theorem dX8_copy_58 : decode cX8_copy 58 = .ok (.if_icmp .eq 10, 3) := by decide +kernel
theorem dX8_copy_61 : decode cX8_copy 61 = .ok (.aload_n 0, 1) := by decide +kernel
theorem dX8_copy_62 : decode cX8_copy 62 = .ok (.ldc 138, 2) := by decide +kernel
theorem dX8_copy_64 : decode cX8_copy 64 = .ok (.invokevirtual 69, 3) := by decide +kernel
theorem dX8_copy_67 : decode cX8_copy 67 = .ok (.ireturn, 1) := by decide +kernel
theorem dX8_copy_68 : decode cX8_copy 68 = .ok (.iload_n 2, 1) := by decide +kernel
theorem dX8_copy_69 : decode cX8_copy 69 = .ok (.ifCond .lt 48, 3) := by decide +kernel
theorem dX8_copy_72 : decode cX8_copy 72 = .ok (.iload 4, 2) := by decide +kernel
theorem dX8_copy_74 : decode cX8_copy 74 = .ok (.ifCond .lt 43, 3) := by decide +kernel
theorem dX8_copy_77 : decode cX8_copy 77 = .ok (.iload 5, 2) := by decide +kernel
theorem dX8_copy_79 : decode cX8_copy 79 = .ok (.ifCond .lt 38, 3) := by decide +kernel
theorem dX8_copy_82 : decode cX8_copy 82 = .ok (.iload_n 2, 1) := by decide +kernel
theorem dX8_copy_83 : decode cX8_copy 83 = .ok (.i2l, 1) := by decide +kernel
theorem dX8_copy_84 : decode cX8_copy 84 = .ok (.iload 5, 2) := by decide +kernel
theorem dX8_copy_86 : decode cX8_copy 86 = .ok (.i2l, 1) := by decide +kernel
theorem dX8_copy_87 : decode cX8_copy 87 = .ok (.ladd, 1) := by decide +kernel
theorem dX8_copy_88 : decode cX8_copy 88 = .ok (.aload_n 0, 1) := by decide +kernel
theorem dX8_copy_89 : decode cX8_copy 89 = .ok (.getfield 29, 3) := by decide +kernel
theorem dX8_copy_92 : decode cX8_copy 92 = .ok (.iload_n 1, 1) := by decide +kernel
theorem dX8_copy_93 : decode cX8_copy 93 = .ok (.iaload, 1) := by decide +kernel
theorem dX8_copy_94 : decode cX8_copy 94 = .ok (.i2l, 1) := by decide +kernel
theorem dX8_copy_95 : decode cX8_copy 95 = .ok (.lcmp, 1) := by decide +kernel
theorem dX8_copy_96 : decode cX8_copy 96 = .ok (.ifCond .gt 21, 3) := by decide +kernel
theorem dX8_copy_99 : decode cX8_copy 99 = .ok (.iload 4, 2) := by decide +kernel
theorem dX8_copy_101 : decode cX8_copy 101 = .ok (.i2l, 1) := by decide +kernel
theorem dX8_copy_102 : decode cX8_copy 102 = .ok (.iload 5, 2) := by decide +kernel
theorem dX8_copy_104 : decode cX8_copy 104 = .ok (.i2l, 1) := by decide +kernel
theorem dX8_copy_105 : decode cX8_copy 105 = .ok (.ladd, 1) := by decide +kernel
theorem dX8_copy_106 : decode cX8_copy 106 = .ok (.aload_n 0, 1) := by decide +kernel
theorem dX8_copy_107 : decode cX8_copy 107 = .ok (.getfield 29, 3) := by decide +kernel
theorem dX8_copy_110 : decode cX8_copy 110 = .ok (.iload_n 3, 1) := by decide +kernel
theorem dX8_copy_111 : decode cX8_copy 111 = .ok (.iaload, 1) := by decide +kernel
theorem dX8_copy_112 : decode cX8_copy 112 = .ok (.i2l, 1) := by decide +kernel
theorem dX8_copy_113 : decode cX8_copy 113 = .ok (.lcmp, 1) := by decide +kernel
theorem dX8_copy_114 : decode cX8_copy 114 = .ok (.ifCond .le 10, 3) := by decide +kernel
theorem dX8_copy_117 : decode cX8_copy 117 = .ok (.aload_n 0, 1) := by decide +kernel
theorem dX8_copy_118 : decode cX8_copy 118 = .ok (.ldc 68, 2) := by decide +kernel
theorem dX8_copy_120 : decode cX8_copy 120 = .ok (.invokevirtual 69, 3) := by decide +kernel
theorem dX8_copy_123 : decode cX8_copy 123 = .ok (.ireturn, 1) := by decide +kernel
theorem dX8_copy_124 : decode cX8_copy 124 = .ok (.iconst 0, 1) := by decide +kernel
theorem dX8_copy_125 : decode cX8_copy 125 = .ok (.istore 6, 2) := by decide +kernel
theorem dX8_copy_127 : decode cX8_copy 127 = .ok (.iload 6, 2) := by decide +kernel
theorem dX8_copy_129 : decode cX8_copy 129 = .ok (.iload 5, 2) := by decide +kernel
theorem dX8_copy_131 : decode cX8_copy 131 = .ok (.if_icmp .ge 30, 3) := by decide +kernel
theorem dX8_copy_134 : decode cX8_copy 134 = .ok (.aload_n 0, 1) := by decide +kernel
theorem dX8_copy_135 : decode cX8_copy 135 = .ok (.getfield 54, 3) := by decide +kernel
theorem dX8_copy_138 : decode cX8_copy 138 = .ok (.iload 6, 2) := by decide +kernel
theorem dX8_copy_140 : decode cX8_copy 140 = .ok (.aload_n 0, 1) := by decide +kernel
theorem dX8_copy_141 : decode cX8_copy 141 = .ok (.getfield 32, 3) := by decide +kernel
theorem dX8_copy_144 : decode cX8_copy 144 = .ok (.bipush 16, 2) := by decide +kernel
theorem dX8_copy_146 : decode cX8_copy 146 = .ok (.iload_n 1, 1) := by decide +kernel
theorem dX8_copy_147 : decode cX8_copy 147 = .ok (.imul, 1) := by decide +kernel
theorem dX8_copy_148 : decode cX8_copy 148 = .ok (.iload_n 2, 1) := by decide +kernel
theorem dX8_copy_149 : decode cX8_copy 149 = .ok (.iadd, 1) := by decide +kernel
theorem dX8_copy_150 : decode cX8_copy 150 = .ok (.iload 6, 2) := by decide +kernel
theorem dX8_copy_152 : decode cX8_copy 152 = .ok (.iadd, 1) := by decide +kernel
theorem dX8_copy_153 : decode cX8_copy 153 = .ok (.iaload, 1) := by decide +kernel
theorem dX8_copy_154 : decode cX8_copy 154 = .ok (.iastore, 1) := by decide +kernel
theorem dX8_copy_155 : decode cX8_copy 155 = .ok (.iinc 6 1, 3) := by decide +kernel
theorem dX8_copy_158 : decode cX8_copy 158 = .ok (.goto (-31), 3) := by decide +kernel
theorem dX8_copy_161 : decode cX8_copy 161 = .ok (.iconst 0, 1) := by decide +kernel
theorem dX8_copy_162 : decode cX8_copy 162 = .ok (.istore 6, 2) := by decide +kernel
theorem dX8_copy_164 : decode cX8_copy 164 = .ok (.iload 6, 2) := by decide +kernel
theorem dX8_copy_166 : decode cX8_copy 166 = .ok (.iload 5, 2) := by decide +kernel
theorem dX8_copy_168 : decode cX8_copy 168 = .ok (.if_icmp .ge 31, 3) := by decide +kernel
theorem dX8_copy_171 : decode cX8_copy 171 = .ok (.aload_n 0, 1) := by decide +kernel
theorem dX8_copy_172 : decode cX8_copy 172 = .ok (.getfield 32, 3) := by decide +kernel
theorem dX8_copy_175 : decode cX8_copy 175 = .ok (.bipush 16, 2) := by decide +kernel
theorem dX8_copy_177 : decode cX8_copy 177 = .ok (.iload_n 3, 1) := by decide +kernel
theorem dX8_copy_178 : decode cX8_copy 178 = .ok (.imul, 1) := by decide +kernel
theorem dX8_copy_179 : decode cX8_copy 179 = .ok (.iload 4, 2) := by decide +kernel
theorem dX8_copy_181 : decode cX8_copy 181 = .ok (.iadd, 1) := by decide +kernel
theorem dX8_copy_182 : decode cX8_copy 182 = .ok (.iload 6, 2) := by decide +kernel
theorem dX8_copy_184 : decode cX8_copy 184 = .ok (.iadd, 1) := by decide +kernel
theorem dX8_copy_185 : decode cX8_copy 185 = .ok (.aload_n 0, 1) := by decide +kernel
theorem dX8_copy_186 : decode cX8_copy 186 = .ok (.getfield 54, 3) := by decide +kernel
theorem dX8_copy_189 : decode cX8_copy 189 = .ok (.iload 6, 2) := by decide +kernel
theorem dX8_copy_191 : decode cX8_copy 191 = .ok (.iaload, 1) := by decide +kernel
theorem dX8_copy_192 : decode cX8_copy 192 = .ok (.iastore, 1) := by decide +kernel
theorem dX8_copy_193 : decode cX8_copy 193 = .ok (.iinc 6 1, 3) := by decide +kernel
theorem dX8_copy_196 : decode cX8_copy 196 = .ok (.goto (-32), 3) := by decide +kernel
theorem dX8_copy_199 : decode cX8_copy 199 = .ok (.iload 5, 2) := by decide +kernel
theorem dX8_copy_201 : decode cX8_copy 201 = .ok (.ireturn, 1) := by decide +kernel
set_option maxRecDepth 20000 in
theorem ggX8_lay_X8_isSlot : GoodIn wsX8_lay wsX8_isSlot := goodIn_r _ [10, 11, 12, 9, 13] (by decide +kernel) (by decide +kernel)
set_option maxRecDepth 20000 in
theorem gX8_lay_X8_isSlot : GoodIn wsX8_lay (va_wsS RX8 239 yX8_isSlot wsX8_isSlot) := goodIn_app (goodIn_of _ (by decide +kernel)) ggX8_lay_X8_isSlot
set_option maxRecDepth 20000 in
theorem ggX8_lay_X8_found : GoodIn wsX8_lay wsX8_found := goodIn_r _ [17, 18, 34, 35, 36, 37, 38, 39, 40, 41, 42, 43, 44, 45, 46, 47, 48, 49, 50, 51, 52, 53, 54, 55, 56] (by decide +kernel) (by decide +kernel)
set_option maxRecDepth 20000 in
theorem gX8_lay_X8_found : GoodIn wsX8_lay (wsV RX8 69 RX8 yX8_found wsX8_found) := goodIn_app (goodIn_of _ (by decide +kernel)) ggX8_lay_X8_found
set_option maxRecDepth 20000 in
theorem ggX8_lay_X8_isSmall : GoodIn wsX8_lay wsX8_isSmall := goodIn_r _ [22, 5, 11, 12, 9, 13, 34, 35, 36, 37, 38, 39, 40, 41, 42, 43, 44, 45, 46, 47, 48, 49, 50, 51, 52, 53, 54, 55, 56] (by decide +kernel) (by decide +kernel)
set_option maxRecDepth 20000 in
theorem gX8_lay_X8_isSmall : GoodIn wsX8_lay (wsV RX8 95 RX8 yX8_isSmall wsX8_isSmall) := goodIn_app (goodIn_of _ (by decide +kernel)) ggX8_lay_X8_isSmall
set_option maxRecDepth 20000 in
theorem ggX8_lay_X8_remember : GoodIn wsX8_lay wsX8_remember := goodIn_r _ [26, 27, 28, 29, 34, 35, 36, 37, 38, 39, 40, 41, 42, 43, 44, 45, 46, 47, 48, 49, 50, 51, 52, 53, 54, 55, 56] (by decide +kernel) (by decide +kernel)
set_option maxRecDepth 20000 in
theorem gX8_lay_X8_remember : GoodIn wsX8_lay (wsV RX8 73 RX8 yX8_remember wsX8_remember) := goodIn_app (goodIn_of _ (by decide +kernel)) ggX8_lay_X8_remember
set_option maxRecDepth 20000 in
theorem ggX8_lay_X8_take : GoodIn wsX8_lay wsX8_take := goodIn_r _ [33, 29, 5, 34, 35, 36, 37, 38, 39, 40, 41, 42, 43, 44, 45, 46, 47, 48, 49, 50, 51, 52, 53, 54, 55, 56] (by decide +kernel) (by decide +kernel)
set_option maxRecDepth 20000 in
theorem gX8_lay_X8_take : GoodIn wsX8_lay (wsV RX8 92 RX8 yX8_take wsX8_take) := goodIn_app (goodIn_of _ (by decide +kernel)) ggX8_lay_X8_take

theorem dX8_lay_0 : decode cX8_lay 0 = .ok (.iload_n 1, 1) := by decide +kernel
theorem dX8_lay_1 : decode cX8_lay 1 = .ok (.invokestatic 239, 3) := by decide +kernel
theorem dX8_lay_4 : decode cX8_lay 4 = .ok (.ifCond .ne 10, 3) := by decide +kernel
theorem dX8_lay_7 : decode cX8_lay 7 = .ok (.aload_n 0, 1) := by decide +kernel
theorem dX8_lay_8 : decode cX8_lay 8 = .ok (.ldc 68, 2) := by decide +kernel
theorem dX8_lay_10 : decode cX8_lay 10 = .ok (.invokevirtual 69, 3) := by decide +kernel
theorem dX8_lay_13 : decode cX8_lay 13 = .ok (.ireturn, 1) := by decide +kernel
theorem dX8_lay_14 : decode cX8_lay 14 = .ok (.aload_n 0, 1) := by decide +kernel
theorem dX8_lay_15 : decode cX8_lay 15 = .ok (.getfield 26, 3) := by decide +kernel
theorem dX8_lay_18 : decode cX8_lay 18 = .ok (.iload_n 1, 1) := by decide +kernel
theorem dX8_lay_19 : decode cX8_lay 19 = .ok (.iaload, 1) := by decide +kernel
theorem dX8_lay_20 : decode cX8_lay 20 = .ok (.ifCond .ne 10, 3) := by decide +kernel
theorem dX8_lay_23 : decode cX8_lay 23 = .ok (.aload_n 0, 1) := by decide +kernel
theorem dX8_lay_24 : decode cX8_lay 24 = .ok (.ldc 245, 2) := by decide +kernel
theorem dX8_lay_26 : decode cX8_lay 26 = .ok (.invokevirtual 69, 3) := by decide +kernel
theorem dX8_lay_29 : decode cX8_lay 29 = .ok (.ireturn, 1) := by decide +kernel
theorem dX8_lay_30 : decode cX8_lay 30 = .ok (.aload_n 0, 1) := by decide +kernel
theorem dX8_lay_31 : decode cX8_lay 31 = .ok (.getfield 29, 3) := by decide +kernel
theorem dX8_lay_34 : decode cX8_lay 34 = .ok (.iload_n 1, 1) := by decide +kernel
theorem dX8_lay_35 : decode cX8_lay 35 = .ok (.iaload, 1) := by decide +kernel
theorem dX8_lay_36 : decode cX8_lay 36 = .ok (.bipush 12, 2) := by decide +kernel
theorem dX8_lay_38 : decode cX8_lay 38 = .ok (.if_icmp .ge 12, 3) := by decide +kernel
theorem dX8_lay_41 : decode cX8_lay 41 = .ok (.aload_n 0, 1) := by decide +kernel
theorem dX8_lay_42 : decode cX8_lay 42 = .ok (.getfield 29, 3) := by decide +kernel
theorem dX8_lay_45 : decode cX8_lay 45 = .ok (.iload_n 1, 1) := by decide +kernel
theorem dX8_lay_46 : decode cX8_lay 46 = .ok (.iaload, 1) := by decide +kernel
theorem dX8_lay_47 : decode cX8_lay 47 = .ok (.goto 5, 3) := by decide +kernel
theorem dX8_lay_50 : decode cX8_lay 50 = .ok (.bipush 12, 2) := by decide +kernel
theorem dX8_lay_52 : decode cX8_lay 52 = .ok (.istore_n 2, 1) := by decide +kernel
theorem dX8_lay_53 : decode cX8_lay 53 = .ok (.iconst 0, 1) := by decide +kernel
theorem dX8_lay_54 : decode cX8_lay 54 = .ok (.istore_n 3, 1) := by decide +kernel
theorem dX8_lay_55 : decode cX8_lay 55 = .ok (.iload_n 3, 1) := by decide +kernel
theorem dX8_lay_56 : decode cX8_lay 56 = .ok (.bipush 12, 2) := by decide +kernel
theorem dX8_lay_58 : decode cX8_lay 58 = .ok (.if_icmp .ge 35, 3) := by decide +kernel
theorem dX8_lay_61 : decode cX8_lay 61 = .ok (.aload_n 0, 1) := by decide +kernel
theorem dX8_lay_62 : decode cX8_lay 62 = .ok (.getfield 35, 3) := by decide +kernel
theorem dX8_lay_65 : decode cX8_lay 65 = .ok (.iload_n 3, 1) := by decide +kernel
theorem dX8_lay_66 : decode cX8_lay 66 = .ok (.iload_n 3, 1) := by decide +kernel
theorem dX8_lay_67 : decode cX8_lay 67 = .ok (.iload_n 2, 1) := by decide +kernel
theorem dX8_lay_68 : decode cX8_lay 68 = .ok (.if_icmp .ge 17, 3) := by decide +kernel
theorem dX8_lay_71 : decode cX8_lay 71 = .ok (.aload_n 0, 1) := by decide +kernel
theorem dX8_lay_72 : decode cX8_lay 72 = .ok (.getfield 32, 3) := by decide +kernel
theorem dX8_lay_75 : decode cX8_lay 75 = .ok (.bipush 16, 2) := by decide +kernel
theorem dX8_lay_77 : decode cX8_lay 77 = .ok (.iload_n 1, 1) := by decide +kernel
theorem dX8_lay_78 : decode cX8_lay 78 = .ok (.imul, 1) := by decide +kernel
theorem dX8_lay_79 : decode cX8_lay 79 = .ok (.iload_n 3, 1) := by decide +kernel
theorem dX8_lay_80 : decode cX8_lay 80 = .ok (.iadd, 1) := by decide +kernel
theorem dX8_lay_81 : decode cX8_lay 81 = .ok (.iaload, 1) := by decide +kernel
theorem dX8_lay_82 : decode cX8_lay 82 = .ok (.goto 4, 3) := by decide +kernel
theorem dX8_lay_85 : decode cX8_lay 85 = .ok (.iconst 0, 1) := by decide +kernel
theorem dX8_lay_86 : decode cX8_lay 86 = .ok (.iastore, 1) := by decide +kernel
theorem dX8_lay_87 : decode cX8_lay 87 = .ok (.iinc 3 1, 3) := by decide +kernel
theorem dX8_lay_90 : decode cX8_lay 90 = .ok (.goto (-35), 3) := by decide +kernel
theorem dX8_lay_93 : decode cX8_lay 93 = .ok (.aload_n 0, 1) := by decide +kernel
theorem dX8_lay_94 : decode cX8_lay 94 = .ok (.invokevirtual 95, 3) := by decide +kernel
theorem dX8_lay_97 : decode cX8_lay 97 = .ok (.ifCond .ne 10, 3) := by decide +kernel
theorem dX8_lay_100 : decode cX8_lay 100 = .ok (.aload_n 0, 1) := by decide +kernel
theorem dX8_lay_101 : decode cX8_lay 101 = .ok (.ldc 68, 2) := by decide +kernel
theorem dX8_lay_103 : decode cX8_lay 103 = .ok (.invokevirtual 69, 3) := by decide +kernel
theorem dX8_lay_106 : decode cX8_lay 106 = .ok (.ireturn, 1) := by decide +kernel
theorem dX8_lay_107 : decode cX8_lay 107 = .ok (.aload_n 0, 1) := by decide +kernel
theorem dX8_lay_108 : decode cX8_lay 108 = .ok (.invokevirtual 73, 3) := by decide +kernel
theorem dX8_lay_111 : decode cX8_lay 111 = .ok (.aload_n 0, 1) := by decide +kernel
theorem dX8_lay_112 : decode cX8_lay 112 = .ok (.invokevirtual 92, 3) := by decide +kernel
theorem dX8_lay_115 : decode cX8_lay 115 = .ok (.iload_n 2, 1) := by decide +kernel
theorem dX8_lay_116 : decode cX8_lay 116 = .ok (.ireturn, 1) := by decide +kernel
set_option maxRecDepth 20000 in
theorem ggX8_undo_X8_found : GoodIn wsX8_undo wsX8_found := goodIn_r _ [9, 10, 11, 12, 13, 14, 15, 16, 17, 18, 19, 20, 21, 22, 23, 24, 25, 26, 27, 28, 29, 30, 31, 32, 33] (by decide +kernel) (by decide +kernel)
set_option maxRecDepth 20000 in
theorem gX8_undo_X8_found : GoodIn wsX8_undo (wsV RX8 69 RX8 yX8_found wsX8_found) := goodIn_app (goodIn_of _ (by decide +kernel)) ggX8_undo_X8_found
theorem dX8_undo_0 : decode cX8_undo 0 = .ok (.aload_n 0, 1) := by decide +kernel
theorem dX8_undo_1 : decode cX8_undo 1 = .ok (.getfield 65, 3) := by decide +kernel
theorem dX8_undo_4 : decode cX8_undo 4 = .ok (.ifCond .ne 10, 3) := by decide +kernel
theorem dX8_undo_7 : decode cX8_undo 7 = .ok (.aload_n 0, 1) := by decide +kernel
theorem dX8_undo_8 : decode cX8_undo 8 = .ok (.ldc 100, 2) := by decide +kernel
theorem dX8_undo_10 : decode cX8_undo 10 = .ok (.invokevirtual 69, 3) := by decide +kernel
theorem dX8_undo_13 : decode cX8_undo 13 = .ok (.ireturn, 1) := by decide +kernel
theorem dX8_undo_14 : decode cX8_undo 14 = .ok (.aload_n 0, 1) := by decide +kernel
theorem dX8_undo_15 : decode cX8_undo 15 = .ok (.dup, 1) := by decide +kernel
theorem dX8_undo_16 : decode cX8_undo 16 = .ok (.getfield 65, 3) := by decide +kernel
theorem dX8_undo_19 : decode cX8_undo 19 = .ok (.iconst 1, 1) := by decide +kernel
theorem dX8_undo_20 : decode cX8_undo 20 = .ok (.isub, 1) := by decide +kernel
theorem dX8_undo_21 : decode cX8_undo 21 = .ok (.putfield 65, 3) := by decide +kernel
theorem dX8_undo_24 : decode cX8_undo 24 = .ok (.iconst 0, 1) := by decide +kernel
theorem dX8_undo_25 : decode cX8_undo 25 = .ok (.istore_n 1, 1) := by decide +kernel
theorem dX8_undo_26 : decode cX8_undo 26 = .ok (.iload_n 1, 1) := by decide +kernel
theorem dX8_undo_27 : decode cX8_undo 27 = .ok (.bipush 29, 2) := by decide +kernel
theorem dX8_undo_29 : decode cX8_undo 29 = .ok (.if_icmp .ge 29, 3) := by decide +kernel
theorem dX8_undo_32 : decode cX8_undo 32 = .ok (.aload_n 0, 1) := by decide +kernel
theorem dX8_undo_33 : decode cX8_undo 33 = .ok (.getfield 7, 3) := by decide +kernel
theorem dX8_undo_36 : decode cX8_undo 36 = .ok (.iload_n 1, 1) := by decide +kernel
theorem dX8_undo_37 : decode cX8_undo 37 = .ok (.aload_n 0, 1) := by decide +kernel
theorem dX8_undo_38 : decode cX8_undo 38 = .ok (.getfield 13, 3) := by decide +kernel
theorem dX8_undo_41 : decode cX8_undo 41 = .ok (.bipush 29, 2) := by decide +kernel
theorem dX8_undo_43 : decode cX8_undo 43 = .ok (.aload_n 0, 1) := by decide +kernel
theorem dX8_undo_44 : decode cX8_undo 44 = .ok (.getfield 65, 3) := by decide +kernel
theorem dX8_undo_47 : decode cX8_undo 47 = .ok (.imul, 1) := by decide +kernel
theorem dX8_undo_48 : decode cX8_undo 48 = .ok (.iload_n 1, 1) := by decide +kernel
theorem dX8_undo_49 : decode cX8_undo 49 = .ok (.iadd, 1) := by decide +kernel
theorem dX8_undo_50 : decode cX8_undo 50 = .ok (.iaload, 1) := by decide +kernel
theorem dX8_undo_51 : decode cX8_undo 51 = .ok (.iastore, 1) := by decide +kernel
theorem dX8_undo_52 : decode cX8_undo 52 = .ok (.iinc 1 1, 3) := by decide +kernel
theorem dX8_undo_55 : decode cX8_undo 55 = .ok (.goto (-29), 3) := by decide +kernel
theorem dX8_undo_58 : decode cX8_undo 58 = .ok (.aload_n 0, 1) := by decide +kernel
theorem dX8_undo_59 : decode cX8_undo 59 = .ok (.getfield 65, 3) := by decide +kernel
theorem dX8_undo_62 : decode cX8_undo 62 = .ok (.ireturn, 1) := by decide +kernel
set_option maxRecDepth 20000 in
theorem ggX8_told_X8_corners : GoodIn wsX8_told wsX8_corners := goodIn_r _ [9, 1, 14, 15, 16, 17, 18, 19, 20, 21, 22, 23, 24, 25, 26, 27, 28, 29, 30, 31, 32, 33, 34, 35, 36] (by decide +kernel) (by decide +kernel)
set_option maxRecDepth 20000 in
theorem gX8_told_X8_corners : GoodIn wsX8_told (wsV RX8 108 RX8 yX8_corners wsX8_corners) := goodIn_app (goodIn_of _ (by decide +kernel)) ggX8_told_X8_corners
set_option maxRecDepth 20000 in
theorem ggX8_told_X8_found : GoodIn wsX8_told wsX8_found := goodIn_r _ [13, 3, 14, 15, 16, 17, 18, 19, 20, 21, 22, 23, 24, 25, 26, 27, 28, 29, 30, 31, 32, 33, 34, 35, 36] (by decide +kernel) (by decide +kernel)
set_option maxRecDepth 20000 in
theorem gX8_told_X8_found : GoodIn wsX8_told (wsV RX8 69 RX8 yX8_found wsX8_found) := goodIn_app (goodIn_of _ (by decide +kernel)) ggX8_told_X8_found
theorem dX8_told_0 : decode cX8_told 0 = .ok (.iconst 0, 1) := by decide +kernel
theorem dX8_told_1 : decode cX8_told 1 = .ok (.istore_n 2, 1) := by decide +kernel
theorem dX8_told_2 : decode cX8_told 2 = .ok (.iload_n 1, 1) := by decide +kernel
theorem dX8_told_3 : decode cX8_told 3 = .ok (.tableswitch 104 0 3 #[29, 34, 67, 99], 29) := by decide +kernel
theorem dX8_told_32 : decode cX8_told 32 = .ok (.aload_n 0, 1) := by decide +kernel
theorem dX8_told_33 : decode cX8_told 33 = .ok (.invokevirtual 108, 3) := by decide +kernel
theorem dX8_told_36 : decode cX8_told 36 = .ok (.ireturn, 1) := by decide +kernel
theorem dX8_told_37 : decode cX8_told 37 = .ok (.iconst 0, 1) := by decide +kernel
theorem dX8_told_38 : decode cX8_told 38 = .ok (.istore_n 3, 1) := by decide +kernel
theorem dX8_told_39 : decode cX8_told 39 = .ok (.iload_n 3, 1) := by decide +kernel
theorem dX8_told_40 : decode cX8_told 40 = .ok (.bipush 12, 2) := by decide +kernel
theorem dX8_told_42 : decode cX8_told 42 = .ok (.if_icmp .ge 26, 3) := by decide +kernel
theorem dX8_told_45 : decode cX8_told 45 = .ok (.iload_n 2, 1) := by decide +kernel
theorem dX8_told_46 : decode cX8_told 46 = .ok (.aload_n 0, 1) := by decide +kernel
theorem dX8_told_47 : decode cX8_told 47 = .ok (.getfield 7, 3) := by decide +kernel
theorem dX8_told_50 : decode cX8_told 50 = .ok (.iload_n 3, 1) := by decide +kernel
theorem dX8_told_51 : decode cX8_told 51 = .ok (.iaload, 1) := by decide +kernel
theorem dX8_told_52 : decode cX8_told 52 = .ok (.ifCond .eq 7, 3) := by decide +kernel
theorem dX8_told_55 : decode cX8_told 55 = .ok (.iconst 1, 1) := by decide +kernel
theorem dX8_told_56 : decode cX8_told 56 = .ok (.goto 4, 3) := by decide +kernel
theorem dX8_told_59 : decode cX8_told 59 = .ok (.iconst 0, 1) := by decide +kernel
theorem dX8_told_60 : decode cX8_told 60 = .ok (.iadd, 1) := by decide +kernel
theorem dX8_told_61 : decode cX8_told 61 = .ok (.istore_n 2, 1) := by decide +kernel
theorem dX8_told_62 : decode cX8_told 62 = .ok (.iinc 3 1, 3) := by decide +kernel
theorem dX8_told_65 : decode cX8_told 65 = .ok (.goto (-26), 3) := by decide +kernel
theorem dX8_told_68 : decode cX8_told 68 = .ok (.iload_n 2, 1) := by decide +kernel
theorem dX8_told_69 : decode cX8_told 69 = .ok (.ireturn, 1) := by decide +kernel
theorem dX8_told_70 : decode cX8_told 70 = .ok (.iconst 0, 1) := by decide +kernel
theorem dX8_told_71 : decode cX8_told 71 = .ok (.istore_n 3, 1) := by decide +kernel
theorem dX8_told_72 : decode cX8_told 72 = .ok (.iload_n 3, 1) := by decide +kernel
theorem dX8_told_73 : decode cX8_told 73 = .ok (.iconst 4, 1) := by decide +kernel
theorem dX8_told_74 : decode cX8_told 74 = .ok (.if_icmp .ge 26, 3) := by decide +kernel
theorem dX8_told_77 : decode cX8_told 77 = .ok (.iload_n 2, 1) := by decide +kernel
theorem dX8_told_78 : decode cX8_told 78 = .ok (.aload_n 0, 1) := by decide +kernel
theorem dX8_told_79 : decode cX8_told 79 = .ok (.getfield 22, 3) := by decide +kernel
theorem dX8_told_82 : decode cX8_told 82 = .ok (.iload_n 3, 1) := by decide +kernel
theorem dX8_told_83 : decode cX8_told 83 = .ok (.baload, 1) := by decide +kernel
theorem dX8_told_84 : decode cX8_told 84 = .ok (.ifCond .eq 7, 3) := by decide +kernel
theorem dX8_told_87 : decode cX8_told 87 = .ok (.iconst 1, 1) := by decide +kernel
theorem dX8_told_88 : decode cX8_told 88 = .ok (.goto 4, 3) := by decide +kernel
theorem dX8_told_91 : decode cX8_told 91 = .ok (.iconst 0, 1) := by decide +kernel
theorem dX8_told_92 : decode cX8_told 92 = .ok (.iadd, 1) := by decide +kernel
theorem dX8_told_93 : decode cX8_told 93 = .ok (.istore_n 2, 1) := by decide +kernel
theorem dX8_told_94 : decode cX8_told 94 = .ok (.iinc 3 1, 3) := by decide +kernel
theorem dX8_told_97 : decode cX8_told 97 = .ok (.goto (-25), 3) := by decide +kernel
theorem dX8_told_100 : decode cX8_told 100 = .ok (.iload_n 2, 1) := by decide +kernel
theorem dX8_told_101 : decode cX8_told 101 = .ok (.ireturn, 1) := by decide +kernel
theorem dX8_told_102 : decode cX8_told 102 = .ok (.aload_n 0, 1) := by decide +kernel
theorem dX8_told_103 : decode cX8_told 103 = .ok (.getfield 57, 3) := by decide +kernel
theorem dX8_told_106 : decode cX8_told 106 = .ok (.ireturn, 1) := by decide +kernel
theorem dX8_told_107 : decode cX8_told 107 = .ok (.aload_n 0, 1) := by decide +kernel
theorem dX8_told_108 : decode cX8_told 108 = .ok (.ldc 68, 2) := by decide +kernel
theorem dX8_told_110 : decode cX8_told 110 = .ok (.invokevirtual 69, 3) := by decide +kernel
theorem dX8_told_113 : decode cX8_told 113 = .ok (.ireturn, 1) := by decide +kernel
theorem dJ13_signum_95d88_0 : decode cJ13_signum_95d88 0 = .ok (.lload_n 0, 1) := by decide +kernel
theorem dJ13_signum_95d88_1 : decode cJ13_signum_95d88 1 = .ok (.bipush 63, 2) := by decide +kernel
theorem dJ13_signum_95d88_3 : decode cJ13_signum_95d88 3 = .ok (.lshr, 1) := by decide +kernel
theorem dJ13_signum_95d88_4 : decode cJ13_signum_95d88 4 = .ok (.lload_n 0, 1) := by decide +kernel
theorem dJ13_signum_95d88_5 : decode cJ13_signum_95d88 5 = .ok (.lneg, 1) := by decide +kernel
theorem dJ13_signum_95d88_6 : decode cJ13_signum_95d88 6 = .ok (.bipush 63, 2) := by decide +kernel
theorem dJ13_signum_95d88_8 : decode cJ13_signum_95d88 8 = .ok (.lushr, 1) := by decide +kernel
theorem dJ13_signum_95d88_9 : decode cJ13_signum_95d88 9 = .ok (.lor, 1) := by decide +kernel
theorem dJ13_signum_95d88_10 : decode cJ13_signum_95d88 10 = .ok (.l2i, 1) := by decide +kernel
theorem dJ13_signum_95d88_11 : decode cJ13_signum_95d88 11 = .ok (.ireturn, 1) := by decide +kernel
theorem dJ9_max_7cf53_0 : decode cJ9_max_7cf53 0 = .ok (.iload_n 0, 1) := by decide +kernel
theorem dJ9_max_7cf53_1 : decode cJ9_max_7cf53 1 = .ok (.iload_n 1, 1) := by decide +kernel
theorem dJ9_max_7cf53_2 : decode cJ9_max_7cf53 2 = .ok (.if_icmp .lt 7, 3) := by decide +kernel
theorem dJ9_max_7cf53_5 : decode cJ9_max_7cf53 5 = .ok (.iload_n 0, 1) := by decide +kernel
theorem dJ9_max_7cf53_6 : decode cJ9_max_7cf53 6 = .ok (.goto 4, 3) := by decide +kernel
theorem dJ9_max_7cf53_9 : decode cJ9_max_7cf53 9 = .ok (.iload_n 1, 1) := by decide +kernel
theorem dJ9_max_7cf53_10 : decode cJ9_max_7cf53 10 = .ok (.ireturn, 1) := by decide +kernel
theorem dJ9_min_7cf53_0 : decode cJ9_min_7cf53 0 = .ok (.iload_n 0, 1) := by decide +kernel
theorem dJ9_min_7cf53_1 : decode cJ9_min_7cf53 1 = .ok (.iload_n 1, 1) := by decide +kernel
theorem dJ9_min_7cf53_2 : decode cJ9_min_7cf53 2 = .ok (.if_icmp .gt 7, 3) := by decide +kernel
theorem dJ9_min_7cf53_5 : decode cJ9_min_7cf53 5 = .ok (.iload_n 0, 1) := by decide +kernel
theorem dJ9_min_7cf53_6 : decode cJ9_min_7cf53 6 = .ok (.goto 4, 3) := by decide +kernel
theorem dJ9_min_7cf53_9 : decode cJ9_min_7cf53 9 = .ok (.iload_n 1, 1) := by decide +kernel
theorem dJ9_min_7cf53_10 : decode cJ9_min_7cf53 10 = .ok (.ireturn, 1) := by decide +kernel

theorem dX8_indexes_0 : decode cX8_indexes 0 = .ok (.aload_n 0, 1) := by decide +kernel
theorem dX8_indexes_1 : decode cX8_indexes 1 = .ok (.invokevirtual 129, 3) := by decide +kernel
theorem dX8_indexes_4 : decode cX8_indexes 4 = .ok (.ifCond .ne 10, 3) := by decide +kernel
theorem dX8_indexes_7 : decode cX8_indexes 7 = .ok (.aload_n 0, 1) := by decide +kernel
theorem dX8_indexes_8 : decode cX8_indexes 8 = .ok (.ldc 138, 2) := by decide +kernel
theorem dX8_indexes_10 : decode cX8_indexes 10 = .ok (.invokevirtual 69, 3) := by decide +kernel
theorem dX8_indexes_13 : decode cX8_indexes 13 = .ok (.ireturn, 1) := by decide +kernel
theorem dX8_indexes_14 : decode cX8_indexes 14 = .ok (.iconst 0, 1) := by decide +kernel
theorem dX8_indexes_15 : decode cX8_indexes 15 = .ok (.istore_n 1, 1) := by decide +kernel
theorem dX8_indexes_16 : decode cX8_indexes 16 = .ok (.bipush (-6), 2) := by decide +kernel
theorem dX8_indexes_18 : decode cX8_indexes 18 = .ok (.istore_n 2, 1) := by decide +kernel
theorem dX8_indexes_19 : decode cX8_indexes 19 = .ok (.iload_n 2, 1) := by decide +kernel
theorem dX8_indexes_20 : decode cX8_indexes 20 = .ok (.bipush 6, 2) := by decide +kernel
theorem dX8_indexes_22 : decode cX8_indexes 22 = .ok (.if_icmp .gt 81, 3) := by decide +kernel
theorem dX8_indexes_25 : decode cX8_indexes 25 = .ok (.bipush (-6), 2) := by decide +kernel
theorem dX8_indexes_27 : decode cX8_indexes 27 = .ok (.istore_n 3, 1) := by decide +kernel
theorem dX8_indexes_28 : decode cX8_indexes 28 = .ok (.iload_n 3, 1) := by decide +kernel
theorem dX8_indexes_29 : decode cX8_indexes 29 = .ok (.bipush 6, 2) := by decide +kernel
theorem dX8_indexes_31 : decode cX8_indexes 31 = .ok (.if_icmp .gt 66, 3) := by decide +kernel
theorem dX8_indexes_34 : decode cX8_indexes 34 = .ok (.aload_n 0, 1) := by decide +kernel
theorem dX8_indexes_35 : decode cX8_indexes 35 = .ok (.iload_n 2, 1) := by decide +kernel
theorem dX8_indexes_36 : decode cX8_indexes 36 = .ok (.iload_n 3, 1) := by decide +kernel
theorem dX8_indexes_37 : decode cX8_indexes 37 = .ok (.invokevirtual 101, 3) := by decide +kernel
theorem dX8_indexes_40 : decode cX8_indexes 40 = .ok (.ifCond .eq 51, 3) := by decide +kernel
theorem dX8_indexes_43 : decode cX8_indexes 43 = .ok (.aload_n 0, 1) := by decide +kernel
theorem dX8_indexes_44 : decode cX8_indexes 44 = .ok (.iload_n 2, 1) := by decide +kernel
theorem dX8_indexes_45 : decode cX8_indexes 45 = .ok (.iload_n 3, 1) := by decide +kernel
theorem dX8_indexes_46 : decode cX8_indexes 46 = .ok (.invokevirtual 135, 3) := by decide +kernel
theorem dX8_indexes_49 : decode cX8_indexes 49 = .ok (.iconst 2, 1) := by decide +kernel
theorem dX8_indexes_50 : decode cX8_indexes 50 = .ok (.if_icmp .eq 6, 3) := by decide +kernel
theorem dX8_indexes_53 : decode cX8_indexes 53 = .ok (.goto 38, 3) := by decide +kernel
theorem dX8_indexes_56 : decode cX8_indexes 56 = .ok (.aload_n 0, 1) := by decide +kernel
theorem dX8_indexes_57 : decode cX8_indexes 57 = .ok (.iload_n 2, 1) := by decide +kernel
theorem dX8_indexes_58 : decode cX8_indexes 58 = .ok (.iload_n 3, 1) := by decide +kernel
theorem dX8_indexes_59 : decode cX8_indexes 59 = .ok (.invokevirtual 104, 3) := by decide +kernel
theorem dX8_indexes_62 : decode cX8_indexes 62 = .ok (.istore 4, 2) := by decide +kernel
theorem dX8_indexes_64 : decode cX8_indexes 64 = .ok (.iload 4, 2) := by decide +kernel
theorem dX8_indexes_66 : decode cX8_indexes 66 = .ok (.iconst 5, 1) := by decide +kernel
theorem dX8_indexes_67 : decode cX8_indexes 67 = .ok (.if_icmp .ne 10, 3) := by decide +kernel
theorem dX8_indexes_70 : decode cX8_indexes 70 = .ok (.aload_n 0, 1) := by decide +kernel
theorem dX8_indexes_71 : decode cX8_indexes 71 = .ok (.ldc 100, 2) := by decide +kernel
theorem dX8_indexes_73 : decode cX8_indexes 73 = .ok (.invokevirtual 69, 3) := by decide +kernel
theorem dX8_indexes_76 : decode cX8_indexes 76 = .ok (.ireturn, 1) := by decide +kernel
theorem dX8_indexes_77 : decode cX8_indexes 77 = .ok (.iload_n 1, 1) := by decide +kernel
theorem dX8_indexes_78 : decode cX8_indexes 78 = .ok (.iload 4, 2) := by decide +kernel
theorem dX8_indexes_80 : decode cX8_indexes 80 = .ok (.iconst 1, 1) := by decide +kernel
theorem dX8_indexes_81 : decode cX8_indexes 81 = .ok (.if_icmp .ne 7, 3) := by decide +kernel
theorem dX8_indexes_84 : decode cX8_indexes 84 = .ok (.iconst (-1), 1) := by decide +kernel
theorem dX8_indexes_85 : decode cX8_indexes 85 = .ok (.goto 4, 3) := by decide +kernel
theorem dX8_indexes_88 : decode cX8_indexes 88 = .ok (.iconst 1, 1) := by decide +kernel
theorem dX8_indexes_89 : decode cX8_indexes 89 = .ok (.iadd, 1) := by decide +kernel
theorem dX8_indexes_90 : decode cX8_indexes 90 = .ok (.istore_n 1, 1) := by decide +kernel
theorem dX8_indexes_91 : decode cX8_indexes 91 = .ok (.iinc 3 1, 3) := by decide +kernel
theorem dX8_indexes_94 : decode cX8_indexes 94 = .ok (.goto (-66), 3) := by decide +kernel
theorem dX8_indexes_97 : decode cX8_indexes 97 = .ok (.iinc 2 1, 3) := by decide +kernel
theorem dX8_indexes_100 : decode cX8_indexes 100 = .ok (.goto (-81), 3) := by decide +kernel
theorem dX8_indexes_103 : decode cX8_indexes 103 = .ok (.iload_n 1, 1) := by decide +kernel
theorem dX8_indexes_104 : decode cX8_indexes 104 = .ok (.ireturn, 1) := by decide +kernel
theorem dX8_place_0 : decode cX8_place 0 = .ok (.iload_n 0, 1) := by decide +kernel
theorem dX8_place_1 : decode cX8_place 1 = .ok (.iload_n 1, 1) := by decide +kernel
theorem dX8_place_2 : decode cX8_place 2 = .ok (.iadd, 1) := by decide +kernel
theorem dX8_place_3 : decode cX8_place 3 = .ok (.istore_n 2, 1) := by decide +kernel
theorem dX8_place_4 : decode cX8_place 4 = .ok (.iload_n 2, 1) := by decide +kernel
theorem dX8_place_5 : decode cX8_place 5 = .ok (.ifCond .ne 7, 3) := by decide +kernel
theorem dX8_place_8 : decode cX8_place 8 = .ok (.iconst 0, 1) := by decide +kernel
theorem dX8_place_9 : decode cX8_place 9 = .ok (.goto 29, 3) := by decide +kernel
theorem dX8_place_12 : decode cX8_place 12 = .ok (.iload_n 2, 1) := by decide +kernel
theorem dX8_place_13 : decode cX8_place 13 = .ok (.iconst 1, 1) := by decide +kernel
theorem dX8_place_14 : decode cX8_place 14 = .ok (.if_icmp .ne 9, 3) := by decide +kernel
theorem dX8_place_17 : decode cX8_place 17 = .ok (.iconst 1, 1) := by decide +kernel
theorem dX8_place_18 : decode cX8_place 18 = .ok (.iload_n 1, 1) := by decide +kernel
theorem dX8_place_19 : decode cX8_place 19 = .ok (.iadd, 1) := by decide +kernel
theorem dX8_place_20 : decode cX8_place 20 = .ok (.goto 18, 3) := by decide +kernel
theorem dX8_place_23 : decode cX8_place 23 = .ok (.iload_n 2, 1) := by decide +kernel
theorem dX8_place_24 : decode cX8_place 24 = .ok (.iconst 2, 1) := by decide +kernel
theorem dX8_place_25 : decode cX8_place 25 = .ok (.if_icmp .ne 9, 3) := by decide +kernel
theorem dX8_place_28 : decode cX8_place 28 = .ok (.iconst 3, 1) := by decide +kernel
theorem dX8_place_29 : decode cX8_place 29 = .ok (.iload_n 1, 1) := by decide +kernel
theorem dX8_place_30 : decode cX8_place 30 = .ok (.iadd, 1) := by decide +kernel
theorem dX8_place_31 : decode cX8_place 31 = .ok (.goto 7, 3) := by decide +kernel
theorem dX8_place_34 : decode cX8_place 34 = .ok (.bipush 6, 2) := by decide +kernel
theorem dX8_place_36 : decode cX8_place 36 = .ok (.iload_n 1, 1) := by decide +kernel
theorem dX8_place_37 : decode cX8_place 37 = .ok (.iadd, 1) := by decide +kernel
theorem dX8_place_38 : decode cX8_place 38 = .ok (.ireturn, 1) := by decide +kernel
theorem dX8_xIn_0 : decode cX8_xIn 0 = .ok (.iload_n 0, 1) := by decide +kernel
theorem dX8_xIn_1 : decode cX8_xIn 1 = .ok (.iconst 1, 1) := by decide +kernel
theorem dX8_xIn_2 : decode cX8_xIn 2 = .ok (.if_icmp .eq 8, 3) := by decide +kernel
theorem dX8_xIn_5 : decode cX8_xIn 5 = .ok (.iload_n 0, 1) := by decide +kernel
theorem dX8_xIn_6 : decode cX8_xIn 6 = .ok (.iconst 4, 1) := by decide +kernel
theorem dX8_xIn_7 : decode cX8_xIn 7 = .ok (.if_icmp .ne 7, 3) := by decide +kernel
theorem dX8_xIn_10 : decode cX8_xIn 10 = .ok (.iconst 1, 1) := by decide +kernel
theorem dX8_xIn_11 : decode cX8_xIn 11 = .ok (.goto 13, 3) := by decide +kernel
theorem dX8_xIn_14 : decode cX8_xIn 14 = .ok (.iload_n 0, 1) := by decide +kernel
theorem dX8_xIn_15 : decode cX8_xIn 15 = .ok (.iconst 3, 1) := by decide +kernel
theorem dX8_xIn_16 : decode cX8_xIn 16 = .ok (.if_icmp .ne 7, 3) := by decide +kernel
theorem dX8_xIn_19 : decode cX8_xIn 19 = .ok (.iconst 2, 1) := by decide +kernel
theorem dX8_xIn_20 : decode cX8_xIn 20 = .ok (.goto 4, 3) := by decide +kernel
theorem dX8_xIn_23 : decode cX8_xIn 23 = .ok (.iconst 0, 1) := by decide +kernel
theorem dX8_xIn_24 : decode cX8_xIn 24 = .ok (.ireturn, 1) := by decide +kernel
theorem dX8_yIn_0 : decode cX8_yIn 0 = .ok (.iload_n 0, 1) := by decide +kernel
theorem dX8_yIn_1 : decode cX8_yIn 1 = .ok (.iconst 2, 1) := by decide +kernel
theorem dX8_yIn_2 : decode cX8_yIn 2 = .ok (.if_icmp .eq 8, 3) := by decide +kernel
theorem dX8_yIn_5 : decode cX8_yIn 5 = .ok (.iload_n 0, 1) := by decide +kernel
theorem dX8_yIn_6 : decode cX8_yIn 6 = .ok (.iconst 4, 1) := by decide +kernel
theorem dX8_yIn_7 : decode cX8_yIn 7 = .ok (.if_icmp .ne 7, 3) := by decide +kernel
theorem dX8_yIn_10 : decode cX8_yIn 10 = .ok (.iconst 1, 1) := by decide +kernel
theorem dX8_yIn_11 : decode cX8_yIn 11 = .ok (.goto 13, 3) := by decide +kernel
theorem dX8_yIn_14 : decode cX8_yIn 14 = .ok (.iload_n 0, 1) := by decide +kernel
theorem dX8_yIn_15 : decode cX8_yIn 15 = .ok (.iconst 5, 1) := by decide +kernel
theorem dX8_yIn_16 : decode cX8_yIn 16 = .ok (.if_icmp .ne 7, 3) := by decide +kernel
theorem dX8_yIn_19 : decode cX8_yIn 19 = .ok (.iconst 2, 1) := by decide +kernel
theorem dX8_yIn_20 : decode cX8_yIn 20 = .ok (.goto 4, 3) := by decide +kernel
theorem dX8_yIn_23 : decode cX8_yIn 23 = .ok (.iconst 0, 1) := by decide +kernel
theorem dX8_yIn_24 : decode cX8_yIn 24 = .ok (.ireturn, 1) := by decide +kernel
set_option maxRecDepth 20000 in
theorem ggX8_changes_X8_xIn : GoodIn wsX8_changes wsX8_xIn := goodIn_r _ [5] (by decide +kernel) (by decide +kernel)
set_option maxRecDepth 20000 in
theorem gX8_changes_X8_xIn : GoodIn wsX8_changes (va_wsS RX8 207 yX8_xIn wsX8_xIn) := goodIn_app (goodIn_of _ (by decide +kernel)) ggX8_changes_X8_xIn
set_option maxRecDepth 20000 in
theorem ggX8_changes_X8_yIn : GoodIn wsX8_changes wsX8_yIn := goodIn_r _ [8] (by decide +kernel) (by decide +kernel)
set_option maxRecDepth 20000 in
theorem gX8_changes_X8_yIn : GoodIn wsX8_changes (va_wsS RX8 210 yX8_yIn wsX8_yIn) := goodIn_app (goodIn_of _ (by decide +kernel)) ggX8_changes_X8_yIn
set_option maxRecDepth 20000 in
theorem ggX8_changes_X8_place : GoodIn wsX8_changes wsX8_place := goodIn_r _ [11] (by decide +kernel) (by decide +kernel)
set_option maxRecDepth 20000 in
theorem gX8_changes_X8_place : GoodIn wsX8_changes (va_wsS RX8 213 yX8_place wsX8_place) := goodIn_app (goodIn_of _ (by decide +kernel)) ggX8_changes_X8_place
set_option maxRecDepth 20000 in
theorem ggX8_changes_X8_get : GoodIn wsX8_changes wsX8_get := goodIn_r _ [15, 16, 17, 18, 19, 20, 21, 22, 23, 24, 25, 26, 27, 28, 29, 30, 31, 32, 33, 34, 35, 36, 37, 38, 39] (by decide +kernel) (by decide +kernel)
set_option maxRecDepth 20000 in
theorem gX8_changes_X8_get : GoodIn wsX8_changes (wsV RX8 76 RX8 yX8_get wsX8_get) := goodIn_app (goodIn_of _ (by decide +kernel)) ggX8_changes_X8_get
theorem dX8_changes_0 : decode cX8_changes 0 = .ok (.iconst 0, 1) := by decide +kernel
theorem dX8_changes_1 : decode cX8_changes 1 = .ok (.istore 6, 2) := by decide +kernel
theorem dX8_changes_3 : decode cX8_changes 3 = .ok (.iload 6, 2) := by decide +kernel
theorem dX8_changes_5 : decode cX8_changes 5 = .ok (.bipush 10, 2) := by decide +kernel
theorem dX8_changes_7 : decode cX8_changes 7 = .ok (.if_icmp .ge 17, 3) := by decide +kernel
theorem dX8_changes_10 : decode cX8_changes 10 = .ok (.aload_n 0, 1) := by decide +kernel
theorem dX8_changes_11 : decode cX8_changes 11 = .ok (.getfield 47, 3) := by decide +kernel
theorem dX8_changes_14 : decode cX8_changes 14 = .ok (.iload 6, 2) := by decide +kernel
theorem dX8_changes_16 : decode cX8_changes 16 = .ok (.lconst 0, 1) := by decide +kernel
theorem dX8_changes_17 : decode cX8_changes 17 = .ok (.lastore, 1) := by decide +kernel
theorem dX8_changes_18 : decode cX8_changes 18 = .ok (.iinc 6 1, 3) := by decide +kernel
theorem dX8_changes_21 : decode cX8_changes 21 = .ok (.goto (-18), 3) := by decide +kernel
theorem dX8_changes_24 : decode cX8_changes 24 = .ok (.iconst 0, 1) := by decide +kernel
theorem dX8_changes_25 : decode cX8_changes 25 = .ok (.istore 6, 2) := by decide +kernel
theorem dX8_changes_27 : decode cX8_changes 27 = .ok (.iload 6, 2) := by decide +kernel
theorem dX8_changes_29 : decode cX8_changes 29 = .ok (.bipush 6, 2) := by decide +kernel
theorem dX8_changes_31 : decode cX8_changes 31 = .ok (.if_icmp .ge 139, 3) := by decide +kernel
theorem dX8_changes_34 : decode cX8_changes 34 = .ok (.iload 6, 2) := by decide +kernel
theorem dX8_changes_36 : decode cX8_changes 36 = .ok (.invokestatic 207, 3) := by decide +kernel
theorem dX8_changes_39 : decode cX8_changes 39 = .ok (.istore 7, 2) := by decide +kernel
theorem dX8_changes_41 : decode cX8_changes 41 = .ok (.iload 6, 2) := by decide +kernel
theorem dX8_changes_43 : decode cX8_changes 43 = .ok (.invokestatic 210, 3) := by decide +kernel
theorem dX8_changes_46 : decode cX8_changes 46 = .ok (.istore 8, 2) := by decide +kernel
theorem dX8_changes_48 : decode cX8_changes 48 = .ok (.aload_n 0, 1) := by decide +kernel
theorem dX8_changes_49 : decode cX8_changes 49 = .ok (.getfield 47, 3) := by decide +kernel
theorem dX8_changes_52 : decode cX8_changes 52 = .ok (.iload 7, 2) := by decide +kernel
theorem dX8_changes_54 : decode cX8_changes 54 = .ok (.iload 8, 2) := by decide +kernel
theorem dX8_changes_56 : decode cX8_changes 56 = .ok (.invokestatic 213, 3) := by decide +kernel
theorem dX8_changes_59 : decode cX8_changes 59 = .ok (.dup2, 1) := by decide +kernel
theorem dX8_changes_60 : decode cX8_changes 60 = .ok (.laload, 1) := by decide +kernel
theorem dX8_changes_61 : decode cX8_changes 61 = .ok (.iload_n 1, 1) := by decide +kernel
theorem dX8_changes_62 : decode cX8_changes 62 = .ok (.aload_n 0, 1) := by decide +kernel
theorem dX8_changes_63 : decode cX8_changes 63 = .ok (.iconst 0, 1) := by decide +kernel
theorem dX8_changes_64 : decode cX8_changes 64 = .ok (.iload 6, 2) := by decide +kernel
theorem dX8_changes_66 : decode cX8_changes 66 = .ok (.invokevirtual 76, 3) := by decide +kernel
theorem dX8_changes_69 : decode cX8_changes 69 = .ok (.imul, 1) := by decide +kernel
theorem dX8_changes_70 : decode cX8_changes 70 = .ok (.iload_n 2, 1) := by decide +kernel
theorem dX8_changes_71 : decode cX8_changes 71 = .ok (.aload_n 0, 1) := by decide +kernel
theorem dX8_changes_72 : decode cX8_changes 72 = .ok (.iconst 1, 1) := by decide +kernel
theorem dX8_changes_73 : decode cX8_changes 73 = .ok (.iload 6, 2) := by decide +kernel
theorem dX8_changes_75 : decode cX8_changes 75 = .ok (.invokevirtual 76, 3) := by decide +kernel
theorem dX8_changes_78 : decode cX8_changes 78 = .ok (.imul, 1) := by decide +kernel
theorem dX8_changes_79 : decode cX8_changes 79 = .ok (.iadd, 1) := by decide +kernel
theorem dX8_changes_80 : decode cX8_changes 80 = .ok (.i2l, 1) := by decide +kernel
theorem dX8_changes_81 : decode cX8_changes 81 = .ok (.ladd, 1) := by decide +kernel
theorem dX8_changes_82 : decode cX8_changes 82 = .ok (.lastore, 1) := by decide +kernel
theorem dX8_changes_83 : decode cX8_changes 83 = .ok (.aload_n 0, 1) := by decide +kernel
theorem dX8_changes_84 : decode cX8_changes 84 = .ok (.getfield 47, 3) := by decide +kernel
theorem dX8_changes_87 : decode cX8_changes 87 = .ok (.iload 7, 2) := by decide +kernel
theorem dX8_changes_89 : decode cX8_changes 89 = .ok (.iconst 1, 1) := by decide +kernel
theorem dX8_changes_90 : decode cX8_changes 90 = .ok (.iadd, 1) := by decide +kernel
theorem dX8_changes_91 : decode cX8_changes 91 = .ok (.iload 8, 2) := by decide +kernel
theorem dX8_changes_93 : decode cX8_changes 93 = .ok (.invokestatic 213, 3) := by decide +kernel
theorem dX8_changes_96 : decode cX8_changes 96 = .ok (.dup2, 1) := by decide +kernel
theorem dX8_changes_97 : decode cX8_changes 97 = .ok (.laload, 1) := by decide +kernel
theorem dX8_changes_98 : decode cX8_changes 98 = .ok (.iconst 2, 1) := by decide +kernel
theorem dX8_changes_99 : decode cX8_changes 99 = .ok (.iload_n 3, 1) := by decide +kernel
theorem dX8_changes_100 : decode cX8_changes 100 = .ok (.imul, 1) := by decide +kernel
theorem dX8_changes_101 : decode cX8_changes 101 = .ok (.aload_n 0, 1) := by decide +kernel
theorem dX8_changes_102 : decode cX8_changes 102 = .ok (.iconst 0, 1) := by decide +kernel
theorem dX8_changes_103 : decode cX8_changes 103 = .ok (.iload 6, 2) := by decide +kernel
theorem dX8_changes_105 : decode cX8_changes 105 = .ok (.invokevirtual 76, 3) := by decide +kernel
theorem dX8_changes_108 : decode cX8_changes 108 = .ok (.imul, 1) := by decide +kernel
theorem dX8_changes_109 : decode cX8_changes 109 = .ok (.iload 4, 2) := by decide +kernel
theorem dX8_changes_111 : decode cX8_changes 111 = .ok (.aload_n 0, 1) := by decide +kernel
theorem dX8_changes_112 : decode cX8_changes 112 = .ok (.iconst 1, 1) := by decide +kernel
theorem dX8_changes_113 : decode cX8_changes 113 = .ok (.iload 6, 2) := by decide +kernel
theorem dX8_changes_115 : decode cX8_changes 115 = .ok (.invokevirtual 76, 3) := by decide +kernel
theorem dX8_changes_118 : decode cX8_changes 118 = .ok (.imul, 1) := by decide +kernel
theorem dX8_changes_119 : decode cX8_changes 119 = .ok (.iadd, 1) := by decide +kernel
theorem dX8_changes_120 : decode cX8_changes 120 = .ok (.i2l, 1) := by decide +kernel
theorem dX8_changes_121 : decode cX8_changes 121 = .ok (.ladd, 1) := by decide +kernel
theorem dX8_changes_122 : decode cX8_changes 122 = .ok (.lastore, 1) := by decide +kernel
theorem dX8_changes_123 : decode cX8_changes 123 = .ok (.aload_n 0, 1) := by decide +kernel
theorem dX8_changes_124 : decode cX8_changes 124 = .ok (.getfield 47, 3) := by decide +kernel
theorem dX8_changes_127 : decode cX8_changes 127 = .ok (.iload 7, 2) := by decide +kernel
theorem dX8_changes_129 : decode cX8_changes 129 = .ok (.iload 8, 2) := by decide +kernel
theorem dX8_changes_131 : decode cX8_changes 131 = .ok (.iconst 1, 1) := by decide +kernel
theorem dX8_changes_132 : decode cX8_changes 132 = .ok (.iadd, 1) := by decide +kernel
theorem dX8_changes_133 : decode cX8_changes 133 = .ok (.invokestatic 213, 3) := by decide +kernel
theorem dX8_changes_136 : decode cX8_changes 136 = .ok (.dup2, 1) := by decide +kernel
theorem dX8_changes_137 : decode cX8_changes 137 = .ok (.laload, 1) := by decide +kernel
theorem dX8_changes_138 : decode cX8_changes 138 = .ok (.iload 4, 2) := by decide +kernel
theorem dX8_changes_140 : decode cX8_changes 140 = .ok (.aload_n 0, 1) := by decide +kernel
theorem dX8_changes_141 : decode cX8_changes 141 = .ok (.iconst 0, 1) := by decide +kernel
theorem dX8_changes_142 : decode cX8_changes 142 = .ok (.iload 6, 2) := by decide +kernel
theorem dX8_changes_144 : decode cX8_changes 144 = .ok (.invokevirtual 76, 3) := by decide +kernel
theorem dX8_changes_147 : decode cX8_changes 147 = .ok (.imul, 1) := by decide +kernel
theorem dX8_changes_148 : decode cX8_changes 148 = .ok (.iconst 2, 1) := by decide +kernel
theorem dX8_changes_149 : decode cX8_changes 149 = .ok (.iload 5, 2) := by decide +kernel
theorem dX8_changes_151 : decode cX8_changes 151 = .ok (.imul, 1) := by decide +kernel
theorem dX8_changes_152 : decode cX8_changes 152 = .ok (.aload_n 0, 1) := by decide +kernel
theorem dX8_changes_153 : decode cX8_changes 153 = .ok (.iconst 1, 1) := by decide +kernel
theorem dX8_changes_154 : decode cX8_changes 154 = .ok (.iload 6, 2) := by decide +kernel
theorem dX8_changes_156 : decode cX8_changes 156 = .ok (.invokevirtual 76, 3) := by decide +kernel
theorem dX8_changes_159 : decode cX8_changes 159 = .ok (.imul, 1) := by decide +kernel
theorem dX8_changes_160 : decode cX8_changes 160 = .ok (.iadd, 1) := by decide +kernel
theorem dX8_changes_161 : decode cX8_changes 161 = .ok (.i2l, 1) := by decide +kernel
theorem dX8_changes_162 : decode cX8_changes 162 = .ok (.ladd, 1) := by decide +kernel
theorem dX8_changes_163 : decode cX8_changes 163 = .ok (.lastore, 1) := by decide +kernel
theorem dX8_changes_164 : decode cX8_changes 164 = .ok (.iinc 6 1, 3) := by decide +kernel
theorem dX8_changes_167 : decode cX8_changes 167 = .ok (.goto (-140), 3) := by decide +kernel
theorem dX8_changes_170 : decode cX8_changes 170 = .ok (.return_, 1) := by decide +kernel
set_option maxRecDepth 20000 in
theorem ggX8_areSmall_X8_in : GoodIn wsX8_areSmall wsX8_in := goodIn_r _ [4] (by decide +kernel) (by decide +kernel)
set_option maxRecDepth 20000 in
theorem gX8_areSmall_X8_in : GoodIn wsX8_areSmall (va_wsS RX8 61 yX8_in wsX8_in) := goodIn_app (goodIn_of _ (by decide +kernel)) ggX8_areSmall_X8_in
theorem dX8_areSmall_0 : decode cX8_areSmall 0 = .ok (.iload_n 0, 1) := by decide +kernel
theorem dX8_areSmall_1 : decode cX8_areSmall 1 = .ok (.bipush (-9), 2) := by decide +kernel
theorem dX8_areSmall_3 : decode cX8_areSmall 3 = .ok (.bipush 9, 2) := by decide +kernel
theorem dX8_areSmall_5 : decode cX8_areSmall 5 = .ok (.invokestatic 61, 3) := by decide +kernel
theorem dX8_areSmall_8 : decode cX8_areSmall 8 = .ok (.ifCond .eq 52, 3) := by decide +kernel
theorem dX8_areSmall_11 : decode cX8_areSmall 11 = .ok (.iload_n 1, 1) := by decide +kernel
theorem dX8_areSmall_12 : decode cX8_areSmall 12 = .ok (.bipush (-9), 2) := by decide +kernel
theorem dX8_areSmall_14 : decode cX8_areSmall 14 = .ok (.bipush 9, 2) := by decide +kernel
theorem dX8_areSmall_16 : decode cX8_areSmall 16 = .ok (.invokestatic 61, 3) := by decide +kernel
theorem dX8_areSmall_19 : decode cX8_areSmall 19 = .ok (.ifCond .eq 41, 3) := by decide +kernel
theorem dX8_areSmall_22 : decode cX8_areSmall 22 = .ok (.iload_n 2, 1) := by decide +kernel
theorem dX8_areSmall_23 : decode cX8_areSmall 23 = .ok (.bipush (-9), 2) := by decide +kernel
theorem dX8_areSmall_25 : decode cX8_areSmall 25 = .ok (.bipush 9, 2) := by decide +kernel
theorem dX8_areSmall_27 : decode cX8_areSmall 27 = .ok (.invokestatic 61, 3) := by decide +kernel
theorem dX8_areSmall_30 : decode cX8_areSmall 30 = .ok (.ifCond .eq 30, 3) := by decide +kernel
theorem dX8_areSmall_33 : decode cX8_areSmall 33 = .ok (.iload_n 3, 1) := by decide +kernel
theorem dX8_areSmall_34 : decode cX8_areSmall 34 = .ok (.bipush (-9), 2) := by decide +kernel
theorem dX8_areSmall_36 : decode cX8_areSmall 36 = .ok (.bipush 9, 2) := by decide +kernel
theorem dX8_areSmall_38 : decode cX8_areSmall 38 = .ok (.invokestatic 61, 3) := by decide +kernel
theorem dX8_areSmall_41 : decode cX8_areSmall 41 = .ok (.ifCond .eq 19, 3) := by decide +kernel
theorem dX8_areSmall_44 : decode cX8_areSmall 44 = .ok (.iload 4, 2) := by decide +kernel
theorem dX8_areSmall_46 : decode cX8_areSmall 46 = .ok (.bipush (-9), 2) := by decide +kernel
theorem dX8_areSmall_48 : decode cX8_areSmall 48 = .ok (.bipush 9, 2) := by decide +kernel
theorem dX8_areSmall_50 : decode cX8_areSmall 50 = .ok (.invokestatic 61, 3) := by decide +kernel
theorem dX8_areSmall_53 : decode cX8_areSmall 53 = .ok (.ifCond .eq 7, 3) := by decide +kernel
theorem dX8_areSmall_56 : decode cX8_areSmall 56 = .ok (.iconst 1, 1) := by decide +kernel
theorem dX8_areSmall_57 : decode cX8_areSmall 57 = .ok (.goto 4, 3) := by decide +kernel
theorem dX8_areSmall_60 : decode cX8_areSmall 60 = .ok (.iconst 0, 1) := by decide +kernel
theorem dX8_areSmall_61 : decode cX8_areSmall 61 = .ok (.ireturn, 1) := by decide +kernel
set_option maxRecDepth 20000 in
theorem ggX8_along_X8_areSmall : GoodIn wsX8_along wsX8_areSmall := goodIn_r _ [6, 7, 8, 5, 9] (by decide +kernel) (by decide +kernel)
set_option maxRecDepth 20000 in
theorem gX8_along_X8_areSmall : GoodIn wsX8_along (va_wsS RX8 216 yX8_areSmall wsX8_areSmall) := goodIn_app (goodIn_of _ (by decide +kernel)) ggX8_along_X8_areSmall
set_option maxRecDepth 20000 in
theorem ggX8_along_X8_in : GoodIn wsX8_along wsX8_in := goodIn_r _ [9] (by decide +kernel) (by decide +kernel)
set_option maxRecDepth 20000 in
theorem gX8_along_X8_in : GoodIn wsX8_along (va_wsS RX8 61 yX8_in wsX8_in) := goodIn_app (goodIn_of _ (by decide +kernel)) ggX8_along_X8_in
set_option maxRecDepth 20000 in
theorem ggX8_along_X8_found : GoodIn wsX8_along wsX8_found := goodIn_r _ [13, 14, 33, 34, 35, 36, 37, 38, 39, 40, 41, 42, 43, 44, 45, 46, 47, 48, 49, 50, 51, 52, 53, 54, 55] (by decide +kernel) (by decide +kernel)
set_option maxRecDepth 20000 in
theorem gX8_along_X8_found : GoodIn wsX8_along (wsV RX8 69 RX8 yX8_found wsX8_found) := goodIn_app (goodIn_of _ (by decide +kernel)) ggX8_along_X8_found
set_option maxRecDepth 20000 in
theorem ggX8_along_X8_changes : GoodIn wsX8_along wsX8_changes := goodIn_r _ [18, 2, 19, 20, 5, 21, 22, 23, 24, 25, 26, 27, 28, 29, 30, 31, 32, 33, 34, 35, 36, 37, 38, 39, 40, 41, 42, 43, 44, 45, 46, 47, 48, 49, 50, 51, 52, 53, 54, 55] (by decide +kernel) (by decide +kernel)
set_option maxRecDepth 20000 in
theorem gX8_along_X8_changes : GoodIn wsX8_along (wsV RX8 220 RX8 yX8_changes wsX8_changes) := goodIn_app (goodIn_of _ (by decide +kernel)) ggX8_along_X8_changes
theorem dX8_along_0 : decode cX8_along 0 = .ok (.iload_n 1, 1) := by decide +kernel
theorem dX8_along_1 : decode cX8_along 1 = .ok (.iload_n 2, 1) := by decide +kernel
theorem dX8_along_2 : decode cX8_along 2 = .ok (.iload_n 3, 1) := by decide +kernel
theorem dX8_along_3 : decode cX8_along 3 = .ok (.iload 4, 2) := by decide +kernel
theorem dX8_along_5 : decode cX8_along 5 = .ok (.iload 5, 2) := by decide +kernel
theorem dX8_along_7 : decode cX8_along 7 = .ok (.invokestatic 216, 3) := by decide +kernel
theorem dX8_along_10 : decode cX8_along 10 = .ok (.ifCond .eq 14, 3) := by decide +kernel
theorem dX8_along_13 : decode cX8_along 13 = .ok (.iload 6, 2) := by decide +kernel
theorem dX8_along_15 : decode cX8_along 15 = .ok (.iconst 0, 1) := by decide +kernel
theorem dX8_along_16 : decode cX8_along 16 = .ok (.bipush 9, 2) := by decide +kernel
theorem dX8_along_18 : decode cX8_along 18 = .ok (.invokestatic 61, 3) := by decide +kernel
theorem dX8_along_21 : decode cX8_along 21 = .ok (.ifCond .ne 10, 3) := by decide +kernel
theorem dX8_along_24 : decode cX8_along 24 = .ok (.aload_n 0, 1) := by decide +kernel
theorem dX8_along_25 : decode cX8_along 25 = .ok (.ldc 68, 2) := by decide +kernel
theorem dX8_along_27 : decode cX8_along 27 = .ok (.invokevirtual 69, 3) := by decide +kernel
theorem dX8_along_30 : decode cX8_along 30 = .ok (.ireturn, 1) := by decide +kernel
theorem dX8_along_31 : decode cX8_along 31 = .ok (.aload_n 0, 1) := by decide +kernel
theorem dX8_along_32 : decode cX8_along 32 = .ok (.iload_n 1, 1) := by decide +kernel
theorem dX8_along_33 : decode cX8_along 33 = .ok (.iload_n 2, 1) := by decide +kernel
theorem dX8_along_34 : decode cX8_along 34 = .ok (.iload_n 3, 1) := by decide +kernel
theorem dX8_along_35 : decode cX8_along 35 = .ok (.iload 4, 2) := by decide +kernel
theorem dX8_along_37 : decode cX8_along 37 = .ok (.iload 5, 2) := by decide +kernel
theorem dX8_along_39 : decode cX8_along 39 = .ok (.invokevirtual 220, 3) := by decide +kernel
theorem dX8_along_42 : decode cX8_along 42 = .ok (.aload_n 0, 1) := by decide +kernel
theorem dX8_along_43 : decode cX8_along 43 = .ok (.getfield 47, 3) := by decide +kernel
theorem dX8_along_46 : decode cX8_along 46 = .ok (.iload 6, 2) := by decide +kernel
theorem dX8_along_48 : decode cX8_along 48 = .ok (.laload, 1) := by decide +kernel
theorem dX8_along_49 : decode cX8_along 49 = .ok (.l2i, 1) := by decide +kernel
theorem dX8_along_50 : decode cX8_along 50 = .ok (.ireturn, 1) := by decide +kernel
set_option maxRecDepth 20000 in
theorem ggX8_falls_X8_areSmall : GoodIn wsX8_falls wsX8_areSmall := goodIn_r _ [5, 6, 7, 4, 8] (by decide +kernel) (by decide +kernel)
set_option maxRecDepth 20000 in
theorem gX8_falls_X8_areSmall : GoodIn wsX8_falls (va_wsS RX8 216 yX8_areSmall wsX8_areSmall) := goodIn_app (goodIn_of _ (by decide +kernel)) ggX8_falls_X8_areSmall
set_option maxRecDepth 20000 in
theorem ggX8_falls_X8_isPlace : GoodIn wsX8_falls wsX8_isPlace := goodIn_r _ [11, 6, 7, 4, 8] (by decide +kernel) (by decide +kernel)
set_option maxRecDepth 20000 in
theorem gX8_falls_X8_isPlace : GoodIn wsX8_falls (va_wsS RX8 80 yX8_isPlace wsX8_isPlace) := goodIn_app (goodIn_of _ (by decide +kernel)) ggX8_falls_X8_isPlace
set_option maxRecDepth 20000 in
theorem ggX8_falls_X8_found : GoodIn wsX8_falls wsX8_found := goodIn_r _ [15, 16, 26, 27, 28, 29, 30, 31, 32, 33, 34, 35, 36, 37, 38, 39, 40, 41, 42, 43, 44, 45, 46, 47, 48] (by decide +kernel) (by decide +kernel)
set_option maxRecDepth 20000 in
theorem gX8_falls_X8_found : GoodIn wsX8_falls (wsV RX8 69 RX8 yX8_found wsX8_found) := goodIn_app (goodIn_of _ (by decide +kernel)) ggX8_falls_X8_found
set_option maxRecDepth 20000 in
theorem ggX8_falls_X8_speedAt : GoodIn wsX8_falls wsX8_speedAt := goodIn_r _ [20, 21, 22, 23, 4, 24, 25, 26, 27, 28, 29, 30, 31, 32, 33, 34, 35, 36, 37, 38, 39, 40, 41, 42, 43, 44, 45, 46, 47, 48] (by decide +kernel) (by decide +kernel)
set_option maxRecDepth 20000 in
theorem gX8_falls_X8_speedAt : GoodIn wsX8_falls (wsV RX8 84 RX8 yX8_speedAt wsX8_speedAt) := goodIn_app (goodIn_of _ (by decide +kernel)) ggX8_falls_X8_speedAt
theorem dX8_falls_0 : decode cX8_falls 0 = .ok (.iload_n 1, 1) := by decide +kernel
theorem dX8_falls_1 : decode cX8_falls 1 = .ok (.iload_n 2, 1) := by decide +kernel
theorem dX8_falls_2 : decode cX8_falls 2 = .ok (.iload_n 3, 1) := by decide +kernel
theorem dX8_falls_3 : decode cX8_falls 3 = .ok (.iload 4, 2) := by decide +kernel
theorem dX8_falls_5 : decode cX8_falls 5 = .ok (.iload 5, 2) := by decide +kernel
theorem dX8_falls_7 : decode cX8_falls 7 = .ok (.invokestatic 216, 3) := by decide +kernel
theorem dX8_falls_10 : decode cX8_falls 10 = .ok (.ifCond .eq 13, 3) := by decide +kernel
theorem dX8_falls_13 : decode cX8_falls 13 = .ok (.iload 6, 2) := by decide +kernel
theorem dX8_falls_15 : decode cX8_falls 15 = .ok (.iload 7, 2) := by decide +kernel
theorem dX8_falls_17 : decode cX8_falls 17 = .ok (.invokestatic 80, 3) := by decide +kernel
theorem dX8_falls_20 : decode cX8_falls 20 = .ok (.ifCond .ne 10, 3) := by decide +kernel
theorem dX8_falls_23 : decode cX8_falls 23 = .ok (.aload_n 0, 1) := by decide +kernel
theorem dX8_falls_24 : decode cX8_falls 24 = .ok (.ldc 68, 2) := by decide +kernel
theorem dX8_falls_26 : decode cX8_falls 26 = .ok (.invokevirtual 69, 3) := by decide +kernel
theorem dX8_falls_29 : decode cX8_falls 29 = .ok (.ireturn, 1) := by decide +kernel
theorem dX8_falls_30 : decode cX8_falls 30 = .ok (.iload_n 1, 1) := by decide +kernel
theorem dX8_falls_31 : decode cX8_falls 31 = .ok (.iconst 2, 1) := by decide +kernel
theorem dX8_falls_32 : decode cX8_falls 32 = .ok (.iload_n 3, 1) := by decide +kernel
theorem dX8_falls_33 : decode cX8_falls 33 = .ok (.imul, 1) := by decide +kernel
theorem dX8_falls_34 : decode cX8_falls 34 = .ok (.iload 6, 2) := by decide +kernel
theorem dX8_falls_36 : decode cX8_falls 36 = .ok (.imul, 1) := by decide +kernel
theorem dX8_falls_37 : decode cX8_falls 37 = .ok (.iadd, 1) := by decide +kernel
theorem dX8_falls_38 : decode cX8_falls 38 = .ok (.iload 4, 2) := by decide +kernel
theorem dX8_falls_40 : decode cX8_falls 40 = .ok (.iload 7, 2) := by decide +kernel
theorem dX8_falls_42 : decode cX8_falls 42 = .ok (.imul, 1) := by decide +kernel
theorem dX8_falls_43 : decode cX8_falls 43 = .ok (.iadd, 1) := by decide +kernel
theorem dX8_falls_44 : decode cX8_falls 44 = .ok (.aload_n 0, 1) := by decide +kernel
theorem dX8_falls_45 : decode cX8_falls 45 = .ok (.iload 6, 2) := by decide +kernel
theorem dX8_falls_47 : decode cX8_falls 47 = .ok (.iload 7, 2) := by decide +kernel
theorem dX8_falls_49 : decode cX8_falls 49 = .ok (.iconst 0, 1) := by decide +kernel
theorem dX8_falls_50 : decode cX8_falls 50 = .ok (.invokevirtual 84, 3) := by decide +kernel
theorem dX8_falls_53 : decode cX8_falls 53 = .ok (.imul, 1) := by decide +kernel
theorem dX8_falls_54 : decode cX8_falls 54 = .ok (.iload_n 2, 1) := by decide +kernel
theorem dX8_falls_55 : decode cX8_falls 55 = .ok (.iload 4, 2) := by decide +kernel
theorem dX8_falls_57 : decode cX8_falls 57 = .ok (.iload 6, 2) := by decide +kernel
theorem dX8_falls_59 : decode cX8_falls 59 = .ok (.imul, 1) := by decide +kernel
theorem dX8_falls_60 : decode cX8_falls 60 = .ok (.iadd, 1) := by decide +kernel
theorem dX8_falls_61 : decode cX8_falls 61 = .ok (.iconst 2, 1) := by decide +kernel
theorem dX8_falls_62 : decode cX8_falls 62 = .ok (.iload 5, 2) := by decide +kernel
theorem dX8_falls_64 : decode cX8_falls 64 = .ok (.imul, 1) := by decide +kernel
theorem dX8_falls_65 : decode cX8_falls 65 = .ok (.iload 7, 2) := by decide +kernel
theorem dX8_falls_67 : decode cX8_falls 67 = .ok (.imul, 1) := by decide +kernel
theorem dX8_falls_68 : decode cX8_falls 68 = .ok (.iadd, 1) := by decide +kernel
theorem dX8_falls_69 : decode cX8_falls 69 = .ok (.aload_n 0, 1) := by decide +kernel
theorem dX8_falls_70 : decode cX8_falls 70 = .ok (.iload 6, 2) := by decide +kernel
theorem dX8_falls_72 : decode cX8_falls 72 = .ok (.iload 7, 2) := by decide +kernel
theorem dX8_falls_74 : decode cX8_falls 74 = .ok (.iconst 1, 1) := by decide +kernel
theorem dX8_falls_75 : decode cX8_falls 75 = .ok (.invokevirtual 84, 3) := by decide +kernel
theorem dX8_falls_78 : decode cX8_falls 78 = .ok (.imul, 1) := by decide +kernel
theorem dX8_falls_79 : decode cX8_falls 79 = .ok (.iadd, 1) := by decide +kernel
theorem dX8_falls_80 : decode cX8_falls 80 = .ok (.ireturn, 1) := by decide +kernel
set_option maxRecDepth 20000 in
theorem ggX8_kept_X8_changes : GoodIn wsX8_kept wsX8_changes := goodIn_r _ [7, 2, 8, 9, 6, 10, 11, 12, 13, 14, 15, 16, 17, 18, 19, 20, 21, 22, 23, 24, 25, 26, 27, 28, 29, 30, 31, 32, 33, 34, 35, 36, 37, 38, 39, 40, 41, 42, 43, 44] (by decide +kernel) (by decide +kernel)
set_option maxRecDepth 20000 in
theorem gX8_kept_X8_changes : GoodIn wsX8_kept (wsV RX8 220 RX8 yX8_changes wsX8_changes) := goodIn_app (goodIn_of _ (by decide +kernel)) ggX8_kept_X8_changes
theorem dX8_kept_0 : decode cX8_kept 0 = .ok (.iconst 0, 1) := by decide +kernel
theorem dX8_kept_1 : decode cX8_kept 1 = .ok (.istore_n 1, 1) := by decide +kernel
theorem dX8_kept_2 : decode cX8_kept 2 = .ok (.iload_n 1, 1) := by decide +kernel
theorem dX8_kept_3 : decode cX8_kept 3 = .ok (.iconst 5, 1) := by decide +kernel
theorem dX8_kept_4 : decode cX8_kept 4 = .ok (.if_icmp .ge 93, 3) := by decide +kernel
theorem dX8_kept_7 : decode cX8_kept 7 = .ok (.aload_n 0, 1) := by decide +kernel
theorem dX8_kept_8 : decode cX8_kept 8 = .ok (.iload_n 1, 1) := by decide +kernel
theorem dX8_kept_9 : decode cX8_kept 9 = .ok (.ifCond .ne 7, 3) := by decide +kernel
theorem dX8_kept_12 : decode cX8_kept 12 = .ok (.iconst 1, 1) := by decide +kernel
theorem dX8_kept_13 : decode cX8_kept 13 = .ok (.goto 4, 3) := by decide +kernel
theorem dX8_kept_16 : decode cX8_kept 16 = .ok (.iconst 0, 1) := by decide +kernel
theorem dX8_kept_17 : decode cX8_kept 17 = .ok (.iload_n 1, 1) := by decide +kernel
theorem dX8_kept_18 : decode cX8_kept 18 = .ok (.iconst 1, 1) := by decide +kernel
theorem dX8_kept_19 : decode cX8_kept 19 = .ok (.if_icmp .ne 7, 3) := by decide +kernel
theorem dX8_kept_22 : decode cX8_kept 22 = .ok (.iconst 1, 1) := by decide +kernel
theorem dX8_kept_23 : decode cX8_kept 23 = .ok (.goto 4, 3) := by decide +kernel
theorem dX8_kept_26 : decode cX8_kept 26 = .ok (.iconst 0, 1) := by decide +kernel
theorem dX8_kept_27 : decode cX8_kept 27 = .ok (.iload_n 1, 1) := by decide +kernel
theorem dX8_kept_28 : decode cX8_kept 28 = .ok (.iconst 2, 1) := by decide +kernel
theorem dX8_kept_29 : decode cX8_kept 29 = .ok (.if_icmp .ne 7, 3) := by decide +kernel
theorem dX8_kept_32 : decode cX8_kept 32 = .ok (.iconst 1, 1) := by decide +kernel
theorem dX8_kept_33 : decode cX8_kept 33 = .ok (.goto 4, 3) := by decide +kernel
theorem dX8_kept_36 : decode cX8_kept 36 = .ok (.iconst 0, 1) := by decide +kernel
theorem dX8_kept_37 : decode cX8_kept 37 = .ok (.iload_n 1, 1) := by decide +kernel
theorem dX8_kept_38 : decode cX8_kept 38 = .ok (.iconst 3, 1) := by decide +kernel
theorem dX8_kept_39 : decode cX8_kept 39 = .ok (.if_icmp .ne 7, 3) := by decide +kernel
theorem dX8_kept_42 : decode cX8_kept 42 = .ok (.iconst 1, 1) := by decide +kernel
theorem dX8_kept_43 : decode cX8_kept 43 = .ok (.goto 4, 3) := by decide +kernel
theorem dX8_kept_46 : decode cX8_kept 46 = .ok (.iconst 0, 1) := by decide +kernel
theorem dX8_kept_47 : decode cX8_kept 47 = .ok (.iload_n 1, 1) := by decide +kernel
theorem dX8_kept_48 : decode cX8_kept 48 = .ok (.iconst 4, 1) := by decide +kernel
theorem dX8_kept_49 : decode cX8_kept 49 = .ok (.if_icmp .ne 7, 3) := by decide +kernel
theorem dX8_kept_52 : decode cX8_kept 52 = .ok (.iconst 1, 1) := by decide +kernel
theorem dX8_kept_53 : decode cX8_kept 53 = .ok (.goto 4, 3) := by decide +kernel
theorem dX8_kept_56 : decode cX8_kept 56 = .ok (.iconst 0, 1) := by decide +kernel
theorem dX8_kept_57 : decode cX8_kept 57 = .ok (.invokevirtual 220, 3) := by decide +kernel
theorem dX8_kept_60 : decode cX8_kept 60 = .ok (.iconst 0, 1) := by decide +kernel
theorem dX8_kept_61 : decode cX8_kept 61 = .ok (.istore_n 2, 1) := by decide +kernel
theorem dX8_kept_62 : decode cX8_kept 62 = .ok (.iload_n 2, 1) := by decide +kernel
theorem dX8_kept_63 : decode cX8_kept 63 = .ok (.bipush 10, 2) := by decide +kernel
theorem dX8_kept_65 : decode cX8_kept 65 = .ok (.if_icmp .ge 26, 3) := by decide +kernel
theorem dX8_kept_68 : decode cX8_kept 68 = .ok (.aload_n 0, 1) := by decide +kernel
theorem dX8_kept_69 : decode cX8_kept 69 = .ok (.getfield 51, 3) := by decide +kernel
theorem dX8_kept_72 : decode cX8_kept 72 = .ok (.bipush 10, 2) := by decide +kernel
theorem dX8_kept_74 : decode cX8_kept 74 = .ok (.iload_n 1, 1) := by decide +kernel
theorem dX8_kept_75 : decode cX8_kept 75 = .ok (.imul, 1) := by decide +kernel
theorem dX8_kept_76 : decode cX8_kept 76 = .ok (.iload_n 2, 1) := by decide +kernel
theorem dX8_kept_77 : decode cX8_kept 77 = .ok (.iadd, 1) := by decide +kernel
theorem dX8_kept_78 : decode cX8_kept 78 = .ok (.aload_n 0, 1) := by decide +kernel
theorem dX8_kept_79 : decode cX8_kept 79 = .ok (.getfield 47, 3) := by decide +kernel
theorem dX8_kept_82 : decode cX8_kept 82 = .ok (.iload_n 2, 1) := by decide +kernel
theorem dX8_kept_83 : decode cX8_kept 83 = .ok (.laload, 1) := by decide +kernel
theorem dX8_kept_84 : decode cX8_kept 84 = .ok (.lastore, 1) := by decide +kernel
theorem dX8_kept_85 : decode cX8_kept 85 = .ok (.iinc 2 1, 3) := by decide +kernel
theorem dX8_kept_88 : decode cX8_kept 88 = .ok (.goto (-26), 3) := by decide +kernel
theorem dX8_kept_91 : decode cX8_kept 91 = .ok (.iinc 1 1, 3) := by decide +kernel
theorem dX8_kept_94 : decode cX8_kept 94 = .ok (.goto (-92), 3) := by decide +kernel
theorem dX8_kept_97 : decode cX8_kept 97 = .ok (.iconst 0, 1) := by decide +kernel
theorem dX8_kept_98 : decode cX8_kept 98 = .ok (.istore_n 1, 1) := by decide +kernel
theorem dX8_kept_99 : decode cX8_kept 99 = .ok (.lconst 1, 1) := by decide +kernel
theorem dX8_kept_100 : decode cX8_kept 100 = .ok (.lstore_n 2, 1) := by decide +kernel
theorem dX8_kept_101 : decode cX8_kept 101 = .ok (.iconst 0, 1) := by decide +kernel
theorem dX8_kept_102 : decode cX8_kept 102 = .ok (.istore 4, 2) := by decide +kernel
theorem dX8_kept_104 : decode cX8_kept 104 = .ok (.iload 4, 2) := by decide +kernel
theorem dX8_kept_106 : decode cX8_kept 106 = .ok (.bipush 10, 2) := by decide +kernel
theorem dX8_kept_108 : decode cX8_kept 108 = .ok (.if_icmp .ge 241, 3) := by decide +kernel
theorem dX8_kept_111 : decode cX8_kept 111 = .ok (.iload_n 1, 1) := by decide +kernel
theorem dX8_kept_112 : decode cX8_kept 112 = .ok (.iconst 5, 1) := by decide +kernel
theorem dX8_kept_113 : decode cX8_kept 113 = .ok (.if_icmp .ge 236, 3) := by decide +kernel
theorem dX8_kept_116 : decode cX8_kept 116 = .ok (.iload_n 1, 1) := by decide +kernel
theorem dX8_kept_117 : decode cX8_kept 117 = .ok (.istore 5, 2) := by decide +kernel
theorem dX8_kept_119 : decode cX8_kept 119 = .ok (.iload 5, 2) := by decide +kernel
theorem dX8_kept_121 : decode cX8_kept 121 = .ok (.iconst 5, 1) := by decide +kernel
theorem dX8_kept_122 : decode cX8_kept 122 = .ok (.if_icmp .ge 27, 3) := by decide +kernel
theorem dX8_kept_125 : decode cX8_kept 125 = .ok (.aload_n 0, 1) := by decide +kernel
theorem dX8_kept_126 : decode cX8_kept 126 = .ok (.getfield 51, 3) := by decide +kernel
theorem dX8_kept_129 : decode cX8_kept 129 = .ok (.bipush 10, 2) := by decide +kernel
theorem dX8_kept_131 : decode cX8_kept 131 = .ok (.iload 5, 2) := by decide +kernel
theorem dX8_kept_133 : decode cX8_kept 133 = .ok (.imul, 1) := by decide +kernel
theorem dX8_kept_134 : decode cX8_kept 134 = .ok (.iload 4, 2) := by decide +kernel
theorem dX8_kept_136 : decode cX8_kept 136 = .ok (.iadd, 1) := by decide +kernel
theorem dX8_kept_137 : decode cX8_kept 137 = .ok (.laload, 1) := by decide +kernel
theorem dX8_kept_138 : decode cX8_kept 138 = .ok (.lconst 0, 1) := by decide +kernel
theorem dX8_kept_139 : decode cX8_kept 139 = .ok (.lcmp, 1) := by decide +kernel
theorem dX8_kept_140 : decode cX8_kept 140 = .ok (.ifCond .ne 9, 3) := by decide +kernel
theorem dX8_kept_143 : decode cX8_kept 143 = .ok (.iinc 5 1, 3) := by decide +kernel
theorem dX8_kept_146 : decode cX8_kept 146 = .ok (.goto (-27), 3) := by decide +kernel
theorem dX8_kept_149 : decode cX8_kept 149 = .ok (.iload 5, 2) := by decide +kernel
theorem dX8_kept_151 : decode cX8_kept 151 = .ok (.iconst 5, 1) := by decide +kernel
theorem dX8_kept_152 : decode cX8_kept 152 = .ok (.if_icmp .ne 6, 3) := by decide +kernel
theorem dX8_kept_155 : decode cX8_kept 155 = .ok (.goto 188, 3) := by decide +kernel
theorem dX8_kept_158 : decode cX8_kept 158 = .ok (.iconst 0, 1) := by decide +kernel
theorem dX8_kept_159 : decode cX8_kept 159 = .ok (.istore 6, 2) := by decide +kernel
theorem dX8_kept_161 : decode cX8_kept 161 = .ok (.iload 6, 2) := by decide +kernel
theorem dX8_kept_163 : decode cX8_kept 163 = .ok (.bipush 10, 2) := by decide +kernel
theorem dX8_kept_165 : decode cX8_kept 165 = .ok (.if_icmp .ge 63, 3) := by decide +kernel
theorem dX8_kept_168 : decode cX8_kept 168 = .ok (.aload_n 0, 1) := by decide +kernel
theorem dX8_kept_169 : decode cX8_kept 169 = .ok (.getfield 51, 3) := by decide +kernel
theorem dX8_kept_172 : decode cX8_kept 172 = .ok (.bipush 10, 2) := by decide +kernel
theorem dX8_kept_174 : decode cX8_kept 174 = .ok (.iload 5, 2) := by decide +kernel
theorem dX8_kept_176 : decode cX8_kept 176 = .ok (.imul, 1) := by decide +kernel
theorem dX8_kept_177 : decode cX8_kept 177 = .ok (.iload 6, 2) := by decide +kernel
theorem dX8_kept_179 : decode cX8_kept 179 = .ok (.iadd, 1) := by decide +kernel
theorem dX8_kept_180 : decode cX8_kept 180 = .ok (.laload, 1) := by decide +kernel
theorem dX8_kept_181 : decode cX8_kept 181 = .ok (.lstore 7, 2) := by decide +kernel
theorem dX8_kept_183 : decode cX8_kept 183 = .ok (.aload_n 0, 1) := by decide +kernel
theorem dX8_kept_184 : decode cX8_kept 184 = .ok (.getfield 51, 3) := by decide +kernel
theorem dX8_kept_187 : decode cX8_kept 187 = .ok (.bipush 10, 2) := by decide +kernel
theorem dX8_kept_189 : decode cX8_kept 189 = .ok (.iload 5, 2) := by decide +kernel
theorem dX8_kept_191 : decode cX8_kept 191 = .ok (.imul, 1) := by decide +kernel
theorem dX8_kept_192 : decode cX8_kept 192 = .ok (.iload 6, 2) := by decide +kernel
theorem dX8_kept_194 : decode cX8_kept 194 = .ok (.iadd, 1) := by decide +kernel
theorem dX8_kept_195 : decode cX8_kept 195 = .ok (.aload_n 0, 1) := by decide +kernel
theorem dX8_kept_196 : decode cX8_kept 196 = .ok (.getfield 51, 3) := by decide +kernel
theorem dX8_kept_199 : decode cX8_kept 199 = .ok (.bipush 10, 2) := by decide +kernel
theorem dX8_kept_201 : decode cX8_kept 201 = .ok (.iload_n 1, 1) := by decide +kernel
theorem dX8_kept_202 : decode cX8_kept 202 = .ok (.imul, 1) := by decide +kernel
theorem dX8_kept_203 : decode cX8_kept 203 = .ok (.iload 6, 2) := by decide +kernel
theorem dX8_kept_205 : decode cX8_kept 205 = .ok (.iadd, 1) := by decide +kernel
theorem dX8_kept_206 : decode cX8_kept 206 = .ok (.laload, 1) := by decide +kernel
theorem dX8_kept_207 : decode cX8_kept 207 = .ok (.lastore, 1) := by decide +kernel
theorem dX8_kept_208 : decode cX8_kept 208 = .ok (.aload_n 0, 1) := by decide +kernel
theorem dX8_kept_209 : decode cX8_kept 209 = .ok (.getfield 51, 3) := by decide +kernel
theorem dX8_kept_212 : decode cX8_kept 212 = .ok (.bipush 10, 2) := by decide +kernel
theorem dX8_kept_214 : decode cX8_kept 214 = .ok (.iload_n 1, 1) := by decide +kernel
theorem dX8_kept_215 : decode cX8_kept 215 = .ok (.imul, 1) := by decide +kernel
theorem dX8_kept_216 : decode cX8_kept 216 = .ok (.iload 6, 2) := by decide +kernel
theorem dX8_kept_218 : decode cX8_kept 218 = .ok (.iadd, 1) := by decide +kernel
theorem dX8_kept_219 : decode cX8_kept 219 = .ok (.lload 7, 2) := by decide +kernel
theorem dX8_kept_221 : decode cX8_kept 221 = .ok (.lastore, 1) := by decide +kernel
theorem dX8_kept_222 : decode cX8_kept 222 = .ok (.iinc 6 1, 3) := by decide +kernel
theorem dX8_kept_225 : decode cX8_kept 225 = .ok (.goto (-64), 3) := by decide +kernel
theorem dX8_kept_228 : decode cX8_kept 228 = .ok (.aload_n 0, 1) := by decide +kernel
theorem dX8_kept_229 : decode cX8_kept 229 = .ok (.getfield 51, 3) := by decide +kernel
theorem dX8_kept_232 : decode cX8_kept 232 = .ok (.bipush 10, 2) := by decide +kernel
theorem dX8_kept_234 : decode cX8_kept 234 = .ok (.iload_n 1, 1) := by decide +kernel
theorem dX8_kept_235 : decode cX8_kept 235 = .ok (.imul, 1) := by decide +kernel
theorem dX8_kept_236 : decode cX8_kept 236 = .ok (.iload 4, 2) := by decide +kernel
theorem dX8_kept_238 : decode cX8_kept 238 = .ok (.iadd, 1) := by decide +kernel
theorem dX8_kept_239 : decode cX8_kept 239 = .ok (.laload, 1) := by decide +kernel
theorem dX8_kept_240 : decode cX8_kept 240 = .ok (.lstore 6, 2) := by decide +kernel
theorem dX8_kept_242 : decode cX8_kept 242 = .ok (.iload_n 1, 1) := by decide +kernel
theorem dX8_kept_243 : decode cX8_kept 243 = .ok (.iconst 1, 1) := by decide +kernel
theorem dX8_kept_244 : decode cX8_kept 244 = .ok (.iadd, 1) := by decide +kernel
theorem dX8_kept_245 : decode cX8_kept 245 = .ok (.istore 8, 2) := by decide +kernel
theorem dX8_kept_247 : decode cX8_kept 247 = .ok (.iload 8, 2) := by decide +kernel
theorem dX8_kept_249 : decode cX8_kept 249 = .ok (.iconst 5, 1) := by decide +kernel
theorem dX8_kept_250 : decode cX8_kept 250 = .ok (.if_icmp .ge 87, 3) := by decide +kernel
theorem dX8_kept_253 : decode cX8_kept 253 = .ok (.aload_n 0, 1) := by decide +kernel
theorem dX8_kept_254 : decode cX8_kept 254 = .ok (.getfield 51, 3) := by decide +kernel
theorem dX8_kept_257 : decode cX8_kept 257 = .ok (.bipush 10, 2) := by decide +kernel
theorem dX8_kept_259 : decode cX8_kept 259 = .ok (.iload 8, 2) := by decide +kernel
theorem dX8_kept_261 : decode cX8_kept 261 = .ok (.imul, 1) := by decide +kernel
theorem dX8_kept_262 : decode cX8_kept 262 = .ok (.iload 4, 2) := by decide +kernel
theorem dX8_kept_264 : decode cX8_kept 264 = .ok (.iadd, 1) := by decide +kernel
theorem dX8_kept_265 : decode cX8_kept 265 = .ok (.laload, 1) := by decide +kernel
theorem dX8_kept_266 : decode cX8_kept 266 = .ok (.lstore 9, 2) := by decide +kernel
theorem dX8_kept_268 : decode cX8_kept 268 = .ok (.iconst 0, 1) := by decide +kernel
theorem dX8_kept_269 : decode cX8_kept 269 = .ok (.istore 11, 2) := by decide +kernel
theorem dX8_kept_271 : decode cX8_kept 271 = .ok (.iload 11, 2) := by decide +kernel
theorem dX8_kept_273 : decode cX8_kept 273 = .ok (.bipush 10, 2) := by decide +kernel
theorem dX8_kept_275 : decode cX8_kept 275 = .ok (.if_icmp .ge 56, 3) := by decide +kernel
theorem dX8_kept_278 : decode cX8_kept 278 = .ok (.aload_n 0, 1) := by decide +kernel
theorem dX8_kept_279 : decode cX8_kept 279 = .ok (.getfield 51, 3) := by decide +kernel
theorem dX8_kept_282 : decode cX8_kept 282 = .ok (.bipush 10, 2) := by decide +kernel
theorem dX8_kept_284 : decode cX8_kept 284 = .ok (.iload 8, 2) := by decide +kernel
theorem dX8_kept_286 : decode cX8_kept 286 = .ok (.imul, 1) := by decide +kernel
theorem dX8_kept_287 : decode cX8_kept 287 = .ok (.iload 11, 2) := by decide +kernel
theorem dX8_kept_289 : decode cX8_kept 289 = .ok (.iadd, 1) := by decide +kernel
theorem dX8_kept_290 : decode cX8_kept 290 = .ok (.aload_n 0, 1) := by decide +kernel
theorem dX8_kept_291 : decode cX8_kept 291 = .ok (.getfield 51, 3) := by decide +kernel
theorem dX8_kept_294 : decode cX8_kept 294 = .ok (.bipush 10, 2) := by decide +kernel
theorem dX8_kept_296 : decode cX8_kept 296 = .ok (.iload 8, 2) := by decide +kernel
theorem dX8_kept_298 : decode cX8_kept 298 = .ok (.imul, 1) := by decide +kernel
theorem dX8_kept_299 : decode cX8_kept 299 = .ok (.iload 11, 2) := by decide +kernel
theorem dX8_kept_301 : decode cX8_kept 301 = .ok (.iadd, 1) := by decide +kernel
theorem dX8_kept_302 : decode cX8_kept 302 = .ok (.laload, 1) := by decide +kernel
theorem dX8_kept_303 : decode cX8_kept 303 = .ok (.lload 6, 2) := by decide +kernel
theorem dX8_kept_305 : decode cX8_kept 305 = .ok (.lmul, 1) := by decide +kernel
theorem dX8_kept_306 : decode cX8_kept 306 = .ok (.aload_n 0, 1) := by decide +kernel
theorem dX8_kept_307 : decode cX8_kept 307 = .ok (.getfield 51, 3) := by decide +kernel
theorem dX8_kept_310 : decode cX8_kept 310 = .ok (.bipush 10, 2) := by decide +kernel
theorem dX8_kept_312 : decode cX8_kept 312 = .ok (.iload_n 1, 1) := by decide +kernel
theorem dX8_kept_313 : decode cX8_kept 313 = .ok (.imul, 1) := by decide +kernel
theorem dX8_kept_314 : decode cX8_kept 314 = .ok (.iload 11, 2) := by decide +kernel
theorem dX8_kept_316 : decode cX8_kept 316 = .ok (.iadd, 1) := by decide +kernel
theorem dX8_kept_317 : decode cX8_kept 317 = .ok (.laload, 1) := by decide +kernel
theorem dX8_kept_318 : decode cX8_kept 318 = .ok (.lload 9, 2) := by decide +kernel
theorem dX8_kept_320 : decode cX8_kept 320 = .ok (.lmul, 1) := by decide +kernel
theorem dX8_kept_321 : decode cX8_kept 321 = .ok (.lsub, 1) := by decide +kernel
theorem dX8_kept_322 : decode cX8_kept 322 = .ok (.lload_n 2, 1) := by decide +kernel
theorem dX8_kept_323 : decode cX8_kept 323 = .ok (.ldiv, 1) := by decide +kernel
theorem dX8_kept_324 : decode cX8_kept 324 = .ok (.lastore, 1) := by decide +kernel
theorem dX8_kept_325 : decode cX8_kept 325 = .ok (.iinc 11 1, 3) := by decide +kernel
theorem dX8_kept_328 : decode cX8_kept 328 = .ok (.goto (-57), 3) := by decide +kernel
theorem dX8_kept_331 : decode cX8_kept 331 = .ok (.iinc 8 1, 3) := by decide +kernel
theorem dX8_kept_334 : decode cX8_kept 334 = .ok (.goto (-87), 3) := by decide +kernel
theorem dX8_kept_337 : decode cX8_kept 337 = .ok (.lload 6, 2) := by decide +kernel
theorem dX8_kept_339 : decode cX8_kept 339 = .ok (.lstore_n 2, 1) := by decide +kernel
theorem dX8_kept_340 : decode cX8_kept 340 = .ok (.iinc 1 1, 3) := by decide +kernel
theorem dX8_kept_343 : decode cX8_kept 343 = .ok (.iinc 4 1, 3) := by decide +kernel
theorem dX8_kept_346 : decode cX8_kept 346 = .ok (.goto (-242), 3) := by decide +kernel
theorem dX8_kept_349 : decode cX8_kept 349 = .ok (.iconst 5, 1) := by decide +kernel
theorem dX8_kept_350 : decode cX8_kept 350 = .ok (.iload_n 1, 1) := by decide +kernel
theorem dX8_kept_351 : decode cX8_kept 351 = .ok (.isub, 1) := by decide +kernel
theorem dX8_kept_352 : decode cX8_kept 352 = .ok (.ireturn, 1) := by decide +kernel
set_option maxRecDepth 20000 in
theorem ggX8_spreadAt_X8_slopeAt : GoodIn wsX8_spreadAt wsX8_slopeAt := goodIn_r _ [5, 6, 7, 8, 4, 9, 10, 11, 12, 13, 14, 15, 16, 17, 18, 19, 20, 21, 22, 23, 24, 25, 26, 27, 28, 29, 30, 31, 32, 33] (by decide +kernel) (by decide +kernel)
set_option maxRecDepth 20000 in
theorem gX8_spreadAt_X8_slopeAt : GoodIn wsX8_spreadAt (wsV RX8 88 RX8 yX8_slopeAt wsX8_slopeAt) := goodIn_app (goodIn_of _ (by decide +kernel)) ggX8_spreadAt_X8_slopeAt
theorem dX8_spreadAt_0 : decode cX8_spreadAt 0 = .ok (.aload_n 0, 1) := by decide +kernel
theorem dX8_spreadAt_1 : decode cX8_spreadAt 1 = .ok (.iload_n 1, 1) := by decide +kernel
theorem dX8_spreadAt_2 : decode cX8_spreadAt 2 = .ok (.iload_n 2, 1) := by decide +kernel
theorem dX8_spreadAt_3 : decode cX8_spreadAt 3 = .ok (.iconst 0, 1) := by decide +kernel
theorem dX8_spreadAt_4 : decode cX8_spreadAt 4 = .ok (.iconst 0, 1) := by decide +kernel
theorem dX8_spreadAt_5 : decode cX8_spreadAt 5 = .ok (.invokevirtual 88, 3) := by decide +kernel
theorem dX8_spreadAt_8 : decode cX8_spreadAt 8 = .ok (.aload_n 0, 1) := by decide +kernel
theorem dX8_spreadAt_9 : decode cX8_spreadAt 9 = .ok (.iload_n 1, 1) := by decide +kernel
theorem dX8_spreadAt_10 : decode cX8_spreadAt 10 = .ok (.iload_n 2, 1) := by decide +kernel
theorem dX8_spreadAt_11 : decode cX8_spreadAt 11 = .ok (.iconst 1, 1) := by decide +kernel
theorem dX8_spreadAt_12 : decode cX8_spreadAt 12 = .ok (.iconst 1, 1) := by decide +kernel
theorem dX8_spreadAt_13 : decode cX8_spreadAt 13 = .ok (.invokevirtual 88, 3) := by decide +kernel
theorem dX8_spreadAt_16 : decode cX8_spreadAt 16 = .ok (.iadd, 1) := by decide +kernel
theorem dX8_spreadAt_17 : decode cX8_spreadAt 17 = .ok (.ireturn, 1) := by decide +kernel
set_option maxRecDepth 20000 in
theorem ggX8_none_X8_isPlace : GoodIn wsX8_none wsX8_isPlace := goodIn_r _ [5, 6, 7, 4, 8] (by decide +kernel) (by decide +kernel)
set_option maxRecDepth 20000 in
theorem gX8_none_X8_isPlace : GoodIn wsX8_none (va_wsS RX8 80 yX8_isPlace wsX8_isPlace) := goodIn_app (goodIn_of _ (by decide +kernel)) ggX8_none_X8_isPlace
set_option maxRecDepth 20000 in
theorem ggX8_none_X8_found : GoodIn wsX8_none wsX8_found := goodIn_r _ [12, 13, 27, 28, 29, 30, 31, 32, 33, 34, 35, 36, 37, 38, 39, 40, 41, 42, 43, 44, 45, 46, 47, 48, 49] (by decide +kernel) (by decide +kernel)
set_option maxRecDepth 20000 in
theorem gX8_none_X8_found : GoodIn wsX8_none (wsV RX8 69 RX8 yX8_found wsX8_found) := goodIn_app (goodIn_of _ (by decide +kernel)) ggX8_none_X8_found
set_option maxRecDepth 20000 in
theorem ggX8_none_X8_spreadAt : GoodIn wsX8_none wsX8_spreadAt := goodIn_r _ [17, 18, 19, 20, 4, 21, 22, 23, 24, 25, 26, 27, 28, 29, 30, 31, 32, 33, 34, 35, 36, 37, 38, 39, 40, 41, 42, 43, 44, 45, 46, 47, 48, 49] (by decide +kernel) (by decide +kernel)
set_option maxRecDepth 20000 in
theorem gX8_none_X8_spreadAt : GoodIn wsX8_none (wsV RX8 224 RX8 yX8_spreadAt wsX8_spreadAt) := goodIn_app (goodIn_of _ (by decide +kernel)) ggX8_none_X8_spreadAt
theorem dX8_none_0 : decode cX8_none 0 = .ok (.iload_n 1, 1) := by decide +kernel
theorem dX8_none_1 : decode cX8_none 1 = .ok (.iload_n 2, 1) := by decide +kernel
theorem dX8_none_2 : decode cX8_none 2 = .ok (.invokestatic 80, 3) := by decide +kernel
theorem dX8_none_5 : decode cX8_none 5 = .ok (.ifCond .eq 23, 3) := by decide +kernel
theorem dX8_none_8 : decode cX8_none 8 = .ok (.iload_n 3, 1) := by decide +kernel
theorem dX8_none_9 : decode cX8_none 9 = .ok (.iload 4, 2) := by decide +kernel
theorem dX8_none_11 : decode cX8_none 11 = .ok (.invokestatic 80, 3) := by decide +kernel
theorem dX8_none_14 : decode cX8_none 14 = .ok (.ifCond .eq 14, 3) := by decide +kernel
theorem dX8_none_17 : decode cX8_none 17 = .ok (.iload_n 1, 1) := by decide +kernel
theorem dX8_none_18 : decode cX8_none 18 = .ok (.iload_n 3, 1) := by decide +kernel
theorem dX8_none_19 : decode cX8_none 19 = .ok (.if_icmp .ge 9, 3) := by decide +kernel
theorem dX8_none_22 : decode cX8_none 22 = .ok (.iload_n 2, 1) := by decide +kernel
theorem dX8_none_23 : decode cX8_none 23 = .ok (.iload 4, 2) := by decide +kernel
theorem dX8_none_25 : decode cX8_none 25 = .ok (.if_icmp .lt 10, 3) := by decide +kernel
theorem dX8_none_28 : decode cX8_none 28 = .ok (.aload_n 0, 1) := by decide +kernel
theorem dX8_none_29 : decode cX8_none 29 = .ok (.ldc 68, 2) := by decide +kernel
theorem dX8_none_31 : decode cX8_none 31 = .ok (.invokevirtual 69, 3) := by decide +kernel
theorem dX8_none_34 : decode cX8_none 34 = .ok (.ireturn, 1) := by decide +kernel
theorem dX8_none_35 : decode cX8_none 35 = .ok (.iconst 0, 1) := by decide +kernel
theorem dX8_none_36 : decode cX8_none 36 = .ok (.istore 5, 2) := by decide +kernel
theorem dX8_none_38 : decode cX8_none 38 = .ok (.iconst 0, 1) := by decide +kernel
theorem dX8_none_39 : decode cX8_none 39 = .ok (.istore 6, 2) := by decide +kernel
theorem dX8_none_41 : decode cX8_none 41 = .ok (.iconst 0, 1) := by decide +kernel
theorem dX8_none_42 : decode cX8_none 42 = .ok (.istore 7, 2) := by decide +kernel
theorem dX8_none_44 : decode cX8_none 44 = .ok (.iload 7, 2) := by decide +kernel
theorem dX8_none_46 : decode cX8_none 46 = .ok (.iconst 4, 1) := by decide +kernel
theorem dX8_none_47 : decode cX8_none 47 = .ok (.if_icmp .ge 69, 3) := by decide +kernel
theorem dX8_none_50 : decode cX8_none 50 = .ok (.aload_n 0, 1) := by decide +kernel
theorem dX8_none_51 : decode cX8_none 51 = .ok (.iload 7, 2) := by decide +kernel
theorem dX8_none_53 : decode cX8_none 53 = .ok (.iconst 2, 1) := by decide +kernel
theorem dX8_none_54 : decode cX8_none 54 = .ok (.irem, 1) := by decide +kernel
theorem dX8_none_55 : decode cX8_none 55 = .ok (.ifCond .ne 7, 3) := by decide +kernel
theorem dX8_none_58 : decode cX8_none 58 = .ok (.iload_n 1, 1) := by decide +kernel
theorem dX8_none_59 : decode cX8_none 59 = .ok (.goto 4, 3) := by decide +kernel
theorem dX8_none_62 : decode cX8_none 62 = .ok (.iload_n 3, 1) := by decide +kernel
theorem dX8_none_63 : decode cX8_none 63 = .ok (.iload 7, 2) := by decide +kernel
theorem dX8_none_65 : decode cX8_none 65 = .ok (.iconst 2, 1) := by decide +kernel
theorem dX8_none_66 : decode cX8_none 66 = .ok (.if_icmp .ge 7, 3) := by decide +kernel
theorem dX8_none_69 : decode cX8_none 69 = .ok (.iload_n 2, 1) := by decide +kernel
theorem dX8_none_70 : decode cX8_none 70 = .ok (.goto 5, 3) := by decide +kernel
theorem dX8_none_73 : decode cX8_none 73 = .ok (.iload 4, 2) := by decide +kernel
theorem dX8_none_75 : decode cX8_none 75 = .ok (.invokevirtual 224, 3) := by decide +kernel
theorem dX8_none_78 : decode cX8_none 78 = .ok (.istore 8, 2) := by decide +kernel
theorem dX8_none_80 : decode cX8_none 80 = .ok (.iload 5, 2) := by decide +kernel
theorem dX8_none_82 : decode cX8_none 82 = .ok (.iload 8, 2) := by decide +kernel
theorem dX8_none_84 : decode cX8_none 84 = .ok (.ifCond .le 7, 3) := by decide +kernel
theorem dX8_none_87 : decode cX8_none 87 = .ok (.iconst 1, 1) := by decide +kernel
theorem dX8_none_88 : decode cX8_none 88 = .ok (.goto 4, 3) := by decide +kernel
theorem dX8_none_91 : decode cX8_none 91 = .ok (.iconst 0, 1) := by decide +kernel
theorem dX8_none_92 : decode cX8_none 92 = .ok (.iadd, 1) := by decide +kernel
theorem dX8_none_93 : decode cX8_none 93 = .ok (.istore 5, 2) := by decide +kernel
theorem dX8_none_95 : decode cX8_none 95 = .ok (.iload 6, 2) := by decide +kernel
theorem dX8_none_97 : decode cX8_none 97 = .ok (.iload 8, 2) := by decide +kernel
theorem dX8_none_99 : decode cX8_none 99 = .ok (.ifCond .ge 7, 3) := by decide +kernel
theorem dX8_none_102 : decode cX8_none 102 = .ok (.iconst 1, 1) := by decide +kernel
theorem dX8_none_103 : decode cX8_none 103 = .ok (.goto 4, 3) := by decide +kernel
theorem dX8_none_106 : decode cX8_none 106 = .ok (.iconst 0, 1) := by decide +kernel
theorem dX8_none_107 : decode cX8_none 107 = .ok (.iadd, 1) := by decide +kernel
theorem dX8_none_108 : decode cX8_none 108 = .ok (.istore 6, 2) := by decide +kernel
theorem dX8_none_110 : decode cX8_none 110 = .ok (.iinc 7 1, 3) := by decide +kernel
theorem dX8_none_113 : decode cX8_none 113 = .ok (.goto (-69), 3) := by decide +kernel
theorem dX8_none_116 : decode cX8_none 116 = .ok (.iload 5, 2) := by decide +kernel
theorem dX8_none_118 : decode cX8_none 118 = .ok (.ifCond .le 12, 3) := by decide +kernel
theorem dX8_none_121 : decode cX8_none 121 = .ok (.iload 6, 2) := by decide +kernel
theorem dX8_none_123 : decode cX8_none 123 = .ok (.ifCond .ne 7, 3) := by decide +kernel
theorem dX8_none_126 : decode cX8_none 126 = .ok (.iconst 1, 1) := by decide +kernel
theorem dX8_none_127 : decode cX8_none 127 = .ok (.goto 18, 3) := by decide +kernel
theorem dX8_none_130 : decode cX8_none 130 = .ok (.iload 6, 2) := by decide +kernel
theorem dX8_none_132 : decode cX8_none 132 = .ok (.ifCond .le 12, 3) := by decide +kernel
theorem dX8_none_135 : decode cX8_none 135 = .ok (.iload 5, 2) := by decide +kernel
theorem dX8_none_137 : decode cX8_none 137 = .ok (.ifCond .ne 7, 3) := by decide +kernel
theorem dX8_none_140 : decode cX8_none 140 = .ok (.iconst (-1), 1) := by decide +kernel
theorem dX8_none_141 : decode cX8_none 141 = .ok (.goto 4, 3) := by decide +kernel
theorem dX8_none_144 : decode cX8_none 144 = .ok (.iconst 0, 1) := by decide +kernel
theorem dX8_none_145 : decode cX8_none 145 = .ok (.ireturn, 1) := by decide +kernel
set_option maxRecDepth 20000 in
theorem ggX8_form_X8_get : GoodIn wsX8_form wsX8_get := goodIn_r _ [5, 6, 7, 8, 9, 10, 11, 12, 13, 14, 15, 16, 17, 18, 19, 20, 21, 22, 23, 24, 25, 26, 27, 28, 29] (by decide +kernel) (by decide +kernel)
set_option maxRecDepth 20000 in
theorem gX8_form_X8_get : GoodIn wsX8_form (wsV RX8 76 RX8 yX8_get wsX8_get) := goodIn_app (goodIn_of _ (by decide +kernel)) ggX8_form_X8_get
theorem dX8_form_0 : decode cX8_form 0 = .ok (.iload_n 1, 1) := by decide +kernel
theorem dX8_form_1 : decode cX8_form 1 = .ok (.ifCond .ne 13, 3) := by decide +kernel
theorem dX8_form_4 : decode cX8_form 4 = .ok (.aload_n 0, 1) := by decide +kernel
theorem dX8_form_5 : decode cX8_form 5 = .ok (.iconst 1, 1) := by decide +kernel
theorem dX8_form_6 : decode cX8_form 6 = .ok (.iconst 3, 1) := by decide +kernel
theorem dX8_form_7 : decode cX8_form 7 = .ok (.invokevirtual 76, 3) := by decide +kernel
theorem dX8_form_10 : decode cX8_form 10 = .ok (.i2l, 1) := by decide +kernel
theorem dX8_form_11 : decode cX8_form 11 = .ok (.goto 55, 3) := by decide +kernel
theorem dX8_form_14 : decode cX8_form 14 = .ok (.iload_n 1, 1) := by decide +kernel
theorem dX8_form_15 : decode cX8_form 15 = .ok (.iconst 1, 1) := by decide +kernel
theorem dX8_form_16 : decode cX8_form 16 = .ok (.if_icmp .ne 20, 3) := by decide +kernel
theorem dX8_form_19 : decode cX8_form 19 = .ok (.aload_n 0, 1) := by decide +kernel
theorem dX8_form_20 : decode cX8_form 20 = .ok (.iconst 1, 1) := by decide +kernel
theorem dX8_form_21 : decode cX8_form 21 = .ok (.iconst 4, 1) := by decide +kernel
theorem dX8_form_22 : decode cX8_form 22 = .ok (.invokevirtual 76, 3) := by decide +kernel
theorem dX8_form_25 : decode cX8_form 25 = .ok (.aload_n 0, 1) := by decide +kernel
theorem dX8_form_26 : decode cX8_form 26 = .ok (.iconst 0, 1) := by decide +kernel
theorem dX8_form_27 : decode cX8_form 27 = .ok (.iconst 3, 1) := by decide +kernel
theorem dX8_form_28 : decode cX8_form 28 = .ok (.invokevirtual 76, 3) := by decide +kernel
theorem dX8_form_31 : decode cX8_form 31 = .ok (.isub, 1) := by decide +kernel
theorem dX8_form_32 : decode cX8_form 32 = .ok (.i2l, 1) := by decide +kernel
theorem dX8_form_33 : decode cX8_form 33 = .ok (.goto 33, 3) := by decide +kernel
theorem dX8_form_36 : decode cX8_form 36 = .ok (.iload_n 1, 1) := by decide +kernel
theorem dX8_form_37 : decode cX8_form 37 = .ok (.iconst 2, 1) := by decide +kernel
theorem dX8_form_38 : decode cX8_form 38 = .ok (.if_icmp .ne 20, 3) := by decide +kernel
theorem dX8_form_41 : decode cX8_form 41 = .ok (.aload_n 0, 1) := by decide +kernel
theorem dX8_form_42 : decode cX8_form 42 = .ok (.iconst 1, 1) := by decide +kernel
theorem dX8_form_43 : decode cX8_form 43 = .ok (.iconst 5, 1) := by decide +kernel
theorem dX8_form_44 : decode cX8_form 44 = .ok (.invokevirtual 76, 3) := by decide +kernel
theorem dX8_form_47 : decode cX8_form 47 = .ok (.aload_n 0, 1) := by decide +kernel
theorem dX8_form_48 : decode cX8_form 48 = .ok (.iconst 0, 1) := by decide +kernel
theorem dX8_form_49 : decode cX8_form 49 = .ok (.iconst 4, 1) := by decide +kernel
theorem dX8_form_50 : decode cX8_form 50 = .ok (.invokevirtual 76, 3) := by decide +kernel
theorem dX8_form_53 : decode cX8_form 53 = .ok (.isub, 1) := by decide +kernel
theorem dX8_form_54 : decode cX8_form 54 = .ok (.i2l, 1) := by decide +kernel
theorem dX8_form_55 : decode cX8_form 55 = .ok (.goto 11, 3) := by decide +kernel
theorem dX8_form_58 : decode cX8_form 58 = .ok (.aload_n 0, 1) := by decide +kernel
theorem dX8_form_59 : decode cX8_form 59 = .ok (.iconst 0, 1) := by decide +kernel
theorem dX8_form_60 : decode cX8_form 60 = .ok (.iconst 5, 1) := by decide +kernel
theorem dX8_form_61 : decode cX8_form 61 = .ok (.invokevirtual 76, 3) := by decide +kernel
theorem dX8_form_64 : decode cX8_form 64 = .ok (.ineg, 1) := by decide +kernel
theorem dX8_form_65 : decode cX8_form 65 = .ok (.i2l, 1) := by decide +kernel
theorem dX8_form_66 : decode cX8_form 66 = .ok (.lreturn, 1) := by decide +kernel
set_option maxRecDepth 20000 in
theorem ggX8_edge_X8_form : GoodIn wsX8_edge wsX8_form := goodIn_r _ [10, 11, 12, 13, 9, 14, 15, 16, 17, 18, 19, 20, 21, 22, 23, 24, 25, 26, 27, 28, 29, 30, 31, 32, 33, 34, 35, 36, 37, 38] (by decide +kernel) (by decide +kernel)
set_option maxRecDepth 20000 in
theorem gX8_edge_X8_form : GoodIn wsX8_edge (wsV RX8 227 RX8 yX8_form wsX8_form) := goodIn_app (goodIn_of _ (by decide +kernel)) ggX8_edge_X8_form
theorem dX8_edge_0 : decode cX8_edge 0 = .ok (.aload_n 0, 1) := by decide +kernel
theorem dX8_edge_1 : decode cX8_edge 1 = .ok (.iconst 0, 1) := by decide +kernel
theorem dX8_edge_2 : decode cX8_edge 2 = .ok (.invokevirtual 227, 3) := by decide +kernel
theorem dX8_edge_5 : decode cX8_edge 5 = .ok (.lstore_n 1, 1) := by decide +kernel
theorem dX8_edge_6 : decode cX8_edge 6 = .ok (.aload_n 0, 1) := by decide +kernel
theorem dX8_edge_7 : decode cX8_edge 7 = .ok (.iconst 1, 1) := by decide +kernel
theorem dX8_edge_8 : decode cX8_edge 8 = .ok (.invokevirtual 227, 3) := by decide +kernel
theorem dX8_edge_11 : decode cX8_edge 11 = .ok (.lstore_n 3, 1) := by decide +kernel
theorem dX8_edge_12 : decode cX8_edge 12 = .ok (.aload_n 0, 1) := by decide +kernel
theorem dX8_edge_13 : decode cX8_edge 13 = .ok (.iconst 2, 1) := by decide +kernel
theorem dX8_edge_14 : decode cX8_edge 14 = .ok (.invokevirtual 227, 3) := by decide +kernel
theorem dX8_edge_17 : decode cX8_edge 17 = .ok (.lstore 5, 2) := by decide +kernel
theorem dX8_edge_19 : decode cX8_edge 19 = .ok (.aload_n 0, 1) := by decide +kernel
theorem dX8_edge_20 : decode cX8_edge 20 = .ok (.iconst 3, 1) := by decide +kernel
theorem dX8_edge_21 : decode cX8_edge 21 = .ok (.invokevirtual 227, 3) := by decide +kernel
theorem dX8_edge_24 : decode cX8_edge 24 = .ok (.lstore 7, 2) := by decide +kernel
theorem dX8_edge_26 : decode cX8_edge 26 = .ok (.lload_n 1, 1) := by decide +kernel
theorem dX8_edge_27 : decode cX8_edge 27 = .ok (.lconst 0, 1) := by decide +kernel
theorem dX8_edge_28 : decode cX8_edge 28 = .ok (.lcmp, 1) := by decide +kernel
theorem dX8_edge_29 : decode cX8_edge 29 = .ok (.ifCond .ne 25, 3) := by decide +kernel
theorem dX8_edge_32 : decode cX8_edge 32 = .ok (.lload_n 3, 1) := by decide +kernel
theorem dX8_edge_33 : decode cX8_edge 33 = .ok (.lconst 0, 1) := by decide +kernel
theorem dX8_edge_34 : decode cX8_edge 34 = .ok (.lcmp, 1) := by decide +kernel
theorem dX8_edge_35 : decode cX8_edge 35 = .ok (.ifCond .ne 19, 3) := by decide +kernel
theorem dX8_edge_38 : decode cX8_edge 38 = .ok (.lload 5, 2) := by decide +kernel
theorem dX8_edge_40 : decode cX8_edge 40 = .ok (.lconst 0, 1) := by decide +kernel
theorem dX8_edge_41 : decode cX8_edge 41 = .ok (.lcmp, 1) := by decide +kernel
theorem dX8_edge_42 : decode cX8_edge 42 = .ok (.ifCond .ne 12, 3) := by decide +kernel
theorem dX8_edge_45 : decode cX8_edge 45 = .ok (.lload 7, 2) := by decide +kernel
theorem dX8_edge_47 : decode cX8_edge 47 = .ok (.lconst 0, 1) := by decide +kernel
theorem dX8_edge_48 : decode cX8_edge 48 = .ok (.lcmp, 1) := by decide +kernel
theorem dX8_edge_49 : decode cX8_edge 49 = .ok (.ifCond .ne 5, 3) := by decide +kernel
theorem dX8_edge_52 : decode cX8_edge 52 = .ok (.iconst 4, 1) := by decide +kernel
theorem dX8_edge_53 : decode cX8_edge 53 = .ok (.ireturn, 1) := by decide +kernel
theorem dX8_edge_54 : decode cX8_edge 54 = .ok (.ldc2_w 231, 3) := by decide +kernel
theorem dX8_edge_57 : decode cX8_edge 57 = .ok (.lload_n 1, 1) := by decide +kernel
theorem dX8_edge_58 : decode cX8_edge 58 = .ok (.lmul, 1) := by decide +kernel
theorem dX8_edge_59 : decode cX8_edge 59 = .ok (.lload_n 3, 1) := by decide +kernel
theorem dX8_edge_60 : decode cX8_edge 60 = .ok (.lmul, 1) := by decide +kernel
theorem dX8_edge_61 : decode cX8_edge 61 = .ok (.lload 5, 2) := by decide +kernel
theorem dX8_edge_63 : decode cX8_edge 63 = .ok (.lmul, 1) := by decide +kernel
theorem dX8_edge_64 : decode cX8_edge 64 = .ok (.lload 7, 2) := by decide +kernel
theorem dX8_edge_66 : decode cX8_edge 66 = .ok (.lmul, 1) := by decide +kernel
theorem dX8_edge_67 : decode cX8_edge 67 = .ok (.ldc2_w 168, 3) := by decide +kernel
theorem dX8_edge_70 : decode cX8_edge 70 = .ok (.lload_n 3, 1) := by decide +kernel
theorem dX8_edge_71 : decode cX8_edge 71 = .ok (.lmul, 1) := by decide +kernel
theorem dX8_edge_72 : decode cX8_edge 72 = .ok (.lload_n 3, 1) := by decide +kernel
theorem dX8_edge_73 : decode cX8_edge 73 = .ok (.lmul, 1) := by decide +kernel
theorem dX8_edge_74 : decode cX8_edge 74 = .ok (.lload_n 3, 1) := by decide +kernel
theorem dX8_edge_75 : decode cX8_edge 75 = .ok (.lmul, 1) := by decide +kernel
theorem dX8_edge_76 : decode cX8_edge 76 = .ok (.lload 7, 2) := by decide +kernel
theorem dX8_edge_78 : decode cX8_edge 78 = .ok (.lmul, 1) := by decide +kernel
theorem dX8_edge_79 : decode cX8_edge 79 = .ok (.lsub, 1) := by decide +kernel
theorem dX8_edge_80 : decode cX8_edge 80 = .ok (.lload_n 3, 1) := by decide +kernel
theorem dX8_edge_81 : decode cX8_edge 81 = .ok (.lload_n 3, 1) := by decide +kernel
theorem dX8_edge_82 : decode cX8_edge 82 = .ok (.lmul, 1) := by decide +kernel
theorem dX8_edge_83 : decode cX8_edge 83 = .ok (.lload 5, 2) := by decide +kernel
theorem dX8_edge_85 : decode cX8_edge 85 = .ok (.lmul, 1) := by decide +kernel
theorem dX8_edge_86 : decode cX8_edge 86 = .ok (.lload 5, 2) := by decide +kernel
theorem dX8_edge_88 : decode cX8_edge 88 = .ok (.lmul, 1) := by decide +kernel
theorem dX8_edge_89 : decode cX8_edge 89 = .ok (.ladd, 1) := by decide +kernel
theorem dX8_edge_90 : decode cX8_edge 90 = .ok (.ldc2_w 168, 3) := by decide +kernel
theorem dX8_edge_93 : decode cX8_edge 93 = .ok (.lload_n 1, 1) := by decide +kernel
theorem dX8_edge_94 : decode cX8_edge 94 = .ok (.lmul, 1) := by decide +kernel
theorem dX8_edge_95 : decode cX8_edge 95 = .ok (.lload 5, 2) := by decide +kernel
theorem dX8_edge_97 : decode cX8_edge 97 = .ok (.lmul, 1) := by decide +kernel
theorem dX8_edge_98 : decode cX8_edge 98 = .ok (.lload 5, 2) := by decide +kernel
theorem dX8_edge_100 : decode cX8_edge 100 = .ok (.lmul, 1) := by decide +kernel
theorem dX8_edge_101 : decode cX8_edge 101 = .ok (.lload 5, 2) := by decide +kernel
theorem dX8_edge_103 : decode cX8_edge 103 = .ok (.lmul, 1) := by decide +kernel
theorem dX8_edge_104 : decode cX8_edge 104 = .ok (.lsub, 1) := by decide +kernel
theorem dX8_edge_105 : decode cX8_edge 105 = .ok (.ldc2_w 233, 3) := by decide +kernel
theorem dX8_edge_108 : decode cX8_edge 108 = .ok (.lload_n 1, 1) := by decide +kernel
theorem dX8_edge_109 : decode cX8_edge 109 = .ok (.lmul, 1) := by decide +kernel
theorem dX8_edge_110 : decode cX8_edge 110 = .ok (.lload_n 1, 1) := by decide +kernel
theorem dX8_edge_111 : decode cX8_edge 111 = .ok (.lmul, 1) := by decide +kernel
theorem dX8_edge_112 : decode cX8_edge 112 = .ok (.lload 7, 2) := by decide +kernel
theorem dX8_edge_114 : decode cX8_edge 114 = .ok (.lmul, 1) := by decide +kernel
theorem dX8_edge_115 : decode cX8_edge 115 = .ok (.lload 7, 2) := by decide +kernel
theorem dX8_edge_117 : decode cX8_edge 117 = .ok (.lmul, 1) := by decide +kernel
theorem dX8_edge_118 : decode cX8_edge 118 = .ok (.lsub, 1) := by decide +kernel
theorem dX8_edge_119 : decode cX8_edge 119 = .ok (.lstore 9, 2) := by decide +kernel
theorem dX8_edge_121 : decode cX8_edge 121 = .ok (.lload 9, 2) := by decide +kernel
theorem dX8_edge_123 : decode cX8_edge 123 = .ok (.lconst 0, 1) := by decide +kernel
theorem dX8_edge_124 : decode cX8_edge 124 = .ok (.lcmp, 1) := by decide +kernel
theorem dX8_edge_125 : decode cX8_edge 125 = .ok (.ifCond .eq 16, 3) := by decide +kernel
theorem dX8_edge_128 : decode cX8_edge 128 = .ok (.lload 9, 2) := by decide +kernel
theorem dX8_edge_130 : decode cX8_edge 130 = .ok (.lconst 0, 1) := by decide +kernel
theorem dX8_edge_131 : decode cX8_edge 131 = .ok (.lcmp, 1) := by decide +kernel
theorem dX8_edge_132 : decode cX8_edge 132 = .ok (.ifCond .le 7, 3) := by decide +kernel
theorem dX8_edge_135 : decode cX8_edge 135 = .ok (.iconst 3, 1) := by decide +kernel
theorem dX8_edge_136 : decode cX8_edge 136 = .ok (.goto 4, 3) := by decide +kernel
theorem dX8_edge_139 : decode cX8_edge 139 = .ok (.iconst 1, 1) := by decide +kernel
theorem dX8_edge_140 : decode cX8_edge 140 = .ok (.ireturn, 1) := by decide +kernel
theorem dX8_edge_141 : decode cX8_edge 141 = .ok (.lload_n 3, 1) := by decide +kernel
theorem dX8_edge_142 : decode cX8_edge 142 = .ok (.lload_n 3, 1) := by decide +kernel
theorem dX8_edge_143 : decode cX8_edge 143 = .ok (.lmul, 1) := by decide +kernel
theorem dX8_edge_144 : decode cX8_edge 144 = .ok (.ldc2_w 235, 3) := by decide +kernel
theorem dX8_edge_147 : decode cX8_edge 147 = .ok (.lload_n 1, 1) := by decide +kernel
theorem dX8_edge_148 : decode cX8_edge 148 = .ok (.lmul, 1) := by decide +kernel
theorem dX8_edge_149 : decode cX8_edge 149 = .ok (.lload 5, 2) := by decide +kernel
theorem dX8_edge_151 : decode cX8_edge 151 = .ok (.lmul, 1) := by decide +kernel
theorem dX8_edge_152 : decode cX8_edge 152 = .ok (.lcmp, 1) := by decide +kernel
theorem dX8_edge_153 : decode cX8_edge 153 = .ok (.ifCond .ne 40, 3) := by decide +kernel
theorem dX8_edge_156 : decode cX8_edge 156 = .ok (.lload_n 3, 1) := by decide +kernel
theorem dX8_edge_157 : decode cX8_edge 157 = .ok (.lload 5, 2) := by decide +kernel
theorem dX8_edge_159 : decode cX8_edge 159 = .ok (.lmul, 1) := by decide +kernel
theorem dX8_edge_160 : decode cX8_edge 160 = .ok (.ldc2_w 237, 3) := by decide +kernel
theorem dX8_edge_163 : decode cX8_edge 163 = .ok (.lload_n 1, 1) := by decide +kernel
theorem dX8_edge_164 : decode cX8_edge 164 = .ok (.lmul, 1) := by decide +kernel
theorem dX8_edge_165 : decode cX8_edge 165 = .ok (.lload 7, 2) := by decide +kernel
theorem dX8_edge_167 : decode cX8_edge 167 = .ok (.lmul, 1) := by decide +kernel
theorem dX8_edge_168 : decode cX8_edge 168 = .ok (.lcmp, 1) := by decide +kernel
theorem dX8_edge_169 : decode cX8_edge 169 = .ok (.ifCond .ne 24, 3) := by decide +kernel
theorem dX8_edge_172 : decode cX8_edge 172 = .ok (.lload 5, 2) := by decide +kernel
theorem dX8_edge_174 : decode cX8_edge 174 = .ok (.lload 5, 2) := by decide +kernel
theorem dX8_edge_176 : decode cX8_edge 176 = .ok (.lmul, 1) := by decide +kernel
theorem dX8_edge_177 : decode cX8_edge 177 = .ok (.ldc2_w 235, 3) := by decide +kernel
theorem dX8_edge_180 : decode cX8_edge 180 = .ok (.lload_n 3, 1) := by decide +kernel
theorem dX8_edge_181 : decode cX8_edge 181 = .ok (.lmul, 1) := by decide +kernel
theorem dX8_edge_182 : decode cX8_edge 182 = .ok (.lload 7, 2) := by decide +kernel
theorem dX8_edge_184 : decode cX8_edge 184 = .ok (.lmul, 1) := by decide +kernel
theorem dX8_edge_185 : decode cX8_edge 185 = .ok (.lcmp, 1) := by decide +kernel
theorem dX8_edge_186 : decode cX8_edge 186 = .ok (.ifCond .ne 7, 3) := by decide +kernel
theorem dX8_edge_189 : decode cX8_edge 189 = .ok (.iconst 1, 1) := by decide +kernel
theorem dX8_edge_190 : decode cX8_edge 190 = .ok (.goto 4, 3) := by decide +kernel
theorem dX8_edge_193 : decode cX8_edge 193 = .ok (.iconst 2, 1) := by decide +kernel
theorem dX8_edge_194 : decode cX8_edge 194 = .ok (.ireturn, 1) := by decide +kernel
set_option maxRecDepth 20000 in
theorem ggX8_far_X8_isPlace : GoodIn wsX8_far wsX8_isPlace := goodIn_r _ [5, 6, 7, 4, 8] (by decide +kernel) (by decide +kernel)
set_option maxRecDepth 20000 in
theorem gX8_far_X8_isPlace : GoodIn wsX8_far (va_wsS RX8 80 yX8_isPlace wsX8_isPlace) := goodIn_app (goodIn_of _ (by decide +kernel)) ggX8_far_X8_isPlace
set_option maxRecDepth 20000 in
theorem ggX8_far_X8_found : GoodIn wsX8_far wsX8_found := goodIn_r _ [12, 13, 23, 24, 25, 26, 27, 28, 29, 30, 31, 32, 33, 34, 35, 36, 37, 38, 39, 40, 41, 42, 43, 44, 45] (by decide +kernel) (by decide +kernel)
set_option maxRecDepth 20000 in
theorem gX8_far_X8_found : GoodIn wsX8_far (wsV RX8 69 RX8 yX8_found wsX8_found) := goodIn_app (goodIn_of _ (by decide +kernel)) ggX8_far_X8_found
set_option maxRecDepth 20000 in
theorem ggX8_far_X8_form : GoodIn wsX8_far wsX8_form := goodIn_r _ [17, 18, 19, 20, 4, 21, 22, 23, 24, 25, 26, 27, 28, 29, 30, 31, 32, 33, 34, 35, 36, 37, 38, 39, 40, 41, 42, 43, 44, 45] (by decide +kernel) (by decide +kernel)
set_option maxRecDepth 20000 in
theorem gX8_far_X8_form : GoodIn wsX8_far (wsV RX8 227 RX8 yX8_form wsX8_form) := goodIn_app (goodIn_of _ (by decide +kernel)) ggX8_far_X8_form
theorem dX8_far_0 : decode cX8_far 0 = .ok (.iload_n 1, 1) := by decide +kernel
theorem dX8_far_1 : decode cX8_far 1 = .ok (.iload_n 2, 1) := by decide +kernel
theorem dX8_far_2 : decode cX8_far 2 = .ok (.invokestatic 80, 3) := by decide +kernel
theorem dX8_far_5 : decode cX8_far 5 = .ok (.ifCond .eq 11, 3) := by decide +kernel
theorem dX8_far_8 : decode cX8_far 8 = .ok (.iload_n 1, 1) := by decide +kernel
theorem dX8_far_9 : decode cX8_far 9 = .ok (.ifCond .ne 14, 3) := by decide +kernel
theorem dX8_far_12 : decode cX8_far 12 = .ok (.iload_n 2, 1) := by decide +kernel
theorem dX8_far_13 : decode cX8_far 13 = .ok (.ifCond .ne 10, 3) := by decide +kernel
theorem dX8_far_16 : decode cX8_far 16 = .ok (.aload_n 0, 1) := by decide +kernel
theorem dX8_far_17 : decode cX8_far 17 = .ok (.ldc 68, 2) := by decide +kernel
theorem dX8_far_19 : decode cX8_far 19 = .ok (.invokevirtual 69, 3) := by decide +kernel
theorem dX8_far_22 : decode cX8_far 22 = .ok (.ireturn, 1) := by decide +kernel
theorem dX8_far_23 : decode cX8_far 23 = .ok (.aload_n 0, 1) := by decide +kernel
theorem dX8_far_24 : decode cX8_far 24 = .ok (.iconst 0, 1) := by decide +kernel
theorem dX8_far_25 : decode cX8_far 25 = .ok (.invokevirtual 227, 3) := by decide +kernel
theorem dX8_far_28 : decode cX8_far 28 = .ok (.iload_n 1, 1) := by decide +kernel
theorem dX8_far_29 : decode cX8_far 29 = .ok (.i2l, 1) := by decide +kernel
theorem dX8_far_30 : decode cX8_far 30 = .ok (.lmul, 1) := by decide +kernel
theorem dX8_far_31 : decode cX8_far 31 = .ok (.iload_n 1, 1) := by decide +kernel
theorem dX8_far_32 : decode cX8_far 32 = .ok (.i2l, 1) := by decide +kernel
theorem dX8_far_33 : decode cX8_far 33 = .ok (.lmul, 1) := by decide +kernel
theorem dX8_far_34 : decode cX8_far 34 = .ok (.iload_n 1, 1) := by decide +kernel
theorem dX8_far_35 : decode cX8_far 35 = .ok (.i2l, 1) := by decide +kernel
theorem dX8_far_36 : decode cX8_far 36 = .ok (.lmul, 1) := by decide +kernel
theorem dX8_far_37 : decode cX8_far 37 = .ok (.aload_n 0, 1) := by decide +kernel
theorem dX8_far_38 : decode cX8_far 38 = .ok (.iconst 1, 1) := by decide +kernel
theorem dX8_far_39 : decode cX8_far 39 = .ok (.invokevirtual 227, 3) := by decide +kernel
theorem dX8_far_42 : decode cX8_far 42 = .ok (.iload_n 1, 1) := by decide +kernel
theorem dX8_far_43 : decode cX8_far 43 = .ok (.i2l, 1) := by decide +kernel
theorem dX8_far_44 : decode cX8_far 44 = .ok (.lmul, 1) := by decide +kernel
theorem dX8_far_45 : decode cX8_far 45 = .ok (.iload_n 1, 1) := by decide +kernel
theorem dX8_far_46 : decode cX8_far 46 = .ok (.i2l, 1) := by decide +kernel
theorem dX8_far_47 : decode cX8_far 47 = .ok (.lmul, 1) := by decide +kernel
theorem dX8_far_48 : decode cX8_far 48 = .ok (.iload_n 2, 1) := by decide +kernel
theorem dX8_far_49 : decode cX8_far 49 = .ok (.i2l, 1) := by decide +kernel
theorem dX8_far_50 : decode cX8_far 50 = .ok (.lmul, 1) := by decide +kernel
theorem dX8_far_51 : decode cX8_far 51 = .ok (.ladd, 1) := by decide +kernel
theorem dX8_far_52 : decode cX8_far 52 = .ok (.aload_n 0, 1) := by decide +kernel
theorem dX8_far_53 : decode cX8_far 53 = .ok (.iconst 2, 1) := by decide +kernel
theorem dX8_far_54 : decode cX8_far 54 = .ok (.invokevirtual 227, 3) := by decide +kernel
theorem dX8_far_57 : decode cX8_far 57 = .ok (.iload_n 1, 1) := by decide +kernel
theorem dX8_far_58 : decode cX8_far 58 = .ok (.i2l, 1) := by decide +kernel
theorem dX8_far_59 : decode cX8_far 59 = .ok (.lmul, 1) := by decide +kernel
theorem dX8_far_60 : decode cX8_far 60 = .ok (.iload_n 2, 1) := by decide +kernel
theorem dX8_far_61 : decode cX8_far 61 = .ok (.i2l, 1) := by decide +kernel
theorem dX8_far_62 : decode cX8_far 62 = .ok (.lmul, 1) := by decide +kernel
theorem dX8_far_63 : decode cX8_far 63 = .ok (.iload_n 2, 1) := by decide +kernel
theorem dX8_far_64 : decode cX8_far 64 = .ok (.i2l, 1) := by decide +kernel
theorem dX8_far_65 : decode cX8_far 65 = .ok (.lmul, 1) := by decide +kernel
theorem dX8_far_66 : decode cX8_far 66 = .ok (.ladd, 1) := by decide +kernel
theorem dX8_far_67 : decode cX8_far 67 = .ok (.aload_n 0, 1) := by decide +kernel
theorem dX8_far_68 : decode cX8_far 68 = .ok (.iconst 3, 1) := by decide +kernel
theorem dX8_far_69 : decode cX8_far 69 = .ok (.invokevirtual 227, 3) := by decide +kernel
theorem dX8_far_72 : decode cX8_far 72 = .ok (.iload_n 2, 1) := by decide +kernel
theorem dX8_far_73 : decode cX8_far 73 = .ok (.i2l, 1) := by decide +kernel
theorem dX8_far_74 : decode cX8_far 74 = .ok (.lmul, 1) := by decide +kernel
theorem dX8_far_75 : decode cX8_far 75 = .ok (.iload_n 2, 1) := by decide +kernel
theorem dX8_far_76 : decode cX8_far 76 = .ok (.i2l, 1) := by decide +kernel
theorem dX8_far_77 : decode cX8_far 77 = .ok (.lmul, 1) := by decide +kernel
theorem dX8_far_78 : decode cX8_far 78 = .ok (.iload_n 2, 1) := by decide +kernel
theorem dX8_far_79 : decode cX8_far 79 = .ok (.i2l, 1) := by decide +kernel
theorem dX8_far_80 : decode cX8_far 80 = .ok (.lmul, 1) := by decide +kernel
theorem dX8_far_81 : decode cX8_far 81 = .ok (.ladd, 1) := by decide +kernel
theorem dX8_far_82 : decode cX8_far 82 = .ok (.lconst 0, 1) := by decide +kernel
theorem dX8_far_83 : decode cX8_far 83 = .ok (.lcmp, 1) := by decide +kernel
theorem dX8_far_84 : decode cX8_far 84 = .ok (.ifCond .ne 7, 3) := by decide +kernel
theorem dX8_far_87 : decode cX8_far 87 = .ok (.iconst 1, 1) := by decide +kernel
theorem dX8_far_88 : decode cX8_far 88 = .ok (.goto 4, 3) := by decide +kernel
theorem dX8_far_91 : decode cX8_far 91 = .ok (.iconst 0, 1) := by decide +kernel
theorem dX8_far_92 : decode cX8_far 92 = .ok (.ireturn, 1) := by decide +kernel
set_option maxRecDepth 20000 in
theorem ggX8_isSlot_X8_in : GoodIn wsX8_isSlot wsX8_in := goodIn_r _ [4] (by decide +kernel) (by decide +kernel)
set_option maxRecDepth 20000 in
theorem gX8_isSlot_X8_in : GoodIn wsX8_isSlot (va_wsS RX8 61 yX8_in wsX8_in) := goodIn_app (goodIn_of _ (by decide +kernel)) ggX8_isSlot_X8_in
theorem dX8_isSlot_0 : decode cX8_isSlot 0 = .ok (.iload_n 0, 1) := by decide +kernel
theorem dX8_isSlot_1 : decode cX8_isSlot 1 = .ok (.iconst 0, 1) := by decide +kernel
theorem dX8_isSlot_2 : decode cX8_isSlot 2 = .ok (.iconst 3, 1) := by decide +kernel
theorem dX8_isSlot_3 : decode cX8_isSlot 3 = .ok (.invokestatic 61, 3) := by decide +kernel
theorem dX8_isSlot_6 : decode cX8_isSlot 6 = .ok (.ireturn, 1) := by decide +kernel
set_option maxRecDepth 20000 in
theorem ggX8_kindOf_X8_spreadAt : GoodIn wsX8_kindOf wsX8_spreadAt := goodIn_r _ [5, 6, 7, 8, 4, 9, 10, 11, 12, 13, 14, 15, 16, 17, 18, 19, 20, 21, 22, 23, 24, 25, 26, 27, 28, 29, 30, 31, 32, 33, 34, 35, 36, 37] (by decide +kernel) (by decide +kernel)
set_option maxRecDepth 20000 in
theorem gX8_kindOf_X8_spreadAt : GoodIn wsX8_kindOf (wsV RX8 224 RX8 yX8_spreadAt wsX8_spreadAt) := goodIn_app (goodIn_of _ (by decide +kernel)) ggX8_kindOf_X8_spreadAt
set_option maxRecDepth 20000 in
theorem ggX8_kindOf_X8_get : GoodIn wsX8_kindOf wsX8_get := goodIn_r _ [13, 14, 15, 16, 17, 18, 19, 20, 21, 22, 23, 24, 25, 26, 27, 28, 29, 30, 31, 32, 33, 34, 35, 36, 37] (by decide +kernel) (by decide +kernel)
set_option maxRecDepth 20000 in
theorem gX8_kindOf_X8_get : GoodIn wsX8_kindOf (wsV RX8 76 RX8 yX8_get wsX8_get) := goodIn_app (goodIn_of _ (by decide +kernel)) ggX8_kindOf_X8_get
theorem dX8_kindOf_0 : decode cX8_kindOf 0 = .ok (.aload_n 0, 1) := by decide +kernel
theorem dX8_kindOf_1 : decode cX8_kindOf 1 = .ok (.iconst 0, 1) := by decide +kernel
theorem dX8_kindOf_2 : decode cX8_kindOf 2 = .ok (.iconst 0, 1) := by decide +kernel
theorem dX8_kindOf_3 : decode cX8_kindOf 3 = .ok (.invokevirtual 224, 3) := by decide +kernel
theorem dX8_kindOf_6 : decode cX8_kindOf 6 = .ok (.ifCond .ne 23, 3) := by decide +kernel
theorem dX8_kindOf_9 : decode cX8_kindOf 9 = .ok (.aload_n 0, 1) := by decide +kernel
theorem dX8_kindOf_10 : decode cX8_kindOf 10 = .ok (.iconst 1, 1) := by decide +kernel
theorem dX8_kindOf_11 : decode cX8_kindOf 11 = .ok (.iconst 0, 1) := by decide +kernel
theorem dX8_kindOf_12 : decode cX8_kindOf 12 = .ok (.invokevirtual 224, 3) := by decide +kernel
theorem dX8_kindOf_15 : decode cX8_kindOf 15 = .ok (.ifCond .ne 14, 3) := by decide +kernel
theorem dX8_kindOf_18 : decode cX8_kindOf 18 = .ok (.aload_n 0, 1) := by decide +kernel
theorem dX8_kindOf_19 : decode cX8_kindOf 19 = .ok (.iconst 0, 1) := by decide +kernel
theorem dX8_kindOf_20 : decode cX8_kindOf 20 = .ok (.iconst 1, 1) := by decide +kernel
theorem dX8_kindOf_21 : decode cX8_kindOf 21 = .ok (.invokevirtual 224, 3) := by decide +kernel
theorem dX8_kindOf_24 : decode cX8_kindOf 24 = .ok (.ifCond .ne 5, 3) := by decide +kernel
theorem dX8_kindOf_27 : decode cX8_kindOf 27 = .ok (.iconst 3, 1) := by decide +kernel
theorem dX8_kindOf_28 : decode cX8_kindOf 28 = .ok (.ireturn, 1) := by decide +kernel
theorem dX8_kindOf_29 : decode cX8_kindOf 29 = .ok (.iconst 1, 1) := by decide +kernel
theorem dX8_kindOf_30 : decode cX8_kindOf 30 = .ok (.istore_n 1, 1) := by decide +kernel
theorem dX8_kindOf_31 : decode cX8_kindOf 31 = .ok (.iconst 3, 1) := by decide +kernel
theorem dX8_kindOf_32 : decode cX8_kindOf 32 = .ok (.istore_n 2, 1) := by decide +kernel
theorem dX8_kindOf_33 : decode cX8_kindOf 33 = .ok (.iload_n 2, 1) := by decide +kernel
theorem dX8_kindOf_34 : decode cX8_kindOf 34 = .ok (.bipush 6, 2) := by decide +kernel
theorem dX8_kindOf_36 : decode cX8_kindOf 36 = .ok (.if_icmp .ge 37, 3) := by decide +kernel
theorem dX8_kindOf_39 : decode cX8_kindOf 39 = .ok (.iload_n 1, 1) := by decide +kernel
theorem dX8_kindOf_40 : decode cX8_kindOf 40 = .ok (.ifCond .eq 25, 3) := by decide +kernel
theorem dX8_kindOf_43 : decode cX8_kindOf 43 = .ok (.aload_n 0, 1) := by decide +kernel
theorem dX8_kindOf_44 : decode cX8_kindOf 44 = .ok (.iconst 0, 1) := by decide +kernel
theorem dX8_kindOf_45 : decode cX8_kindOf 45 = .ok (.iload_n 2, 1) := by decide +kernel
theorem dX8_kindOf_46 : decode cX8_kindOf 46 = .ok (.invokevirtual 76, 3) := by decide +kernel
theorem dX8_kindOf_49 : decode cX8_kindOf 49 = .ok (.ifCond .ne 16, 3) := by decide +kernel
theorem dX8_kindOf_52 : decode cX8_kindOf 52 = .ok (.aload_n 0, 1) := by decide +kernel
theorem dX8_kindOf_53 : decode cX8_kindOf 53 = .ok (.iconst 1, 1) := by decide +kernel
theorem dX8_kindOf_54 : decode cX8_kindOf 54 = .ok (.iload_n 2, 1) := by decide +kernel
theorem dX8_kindOf_55 : decode cX8_kindOf 55 = .ok (.invokevirtual 76, 3) := by decide +kernel
theorem dX8_kindOf_58 : decode cX8_kindOf 58 = .ok (.ifCond .ne 7, 3) := by decide +kernel
theorem dX8_kindOf_61 : decode cX8_kindOf 61 = .ok (.iconst 1, 1) := by decide +kernel
theorem dX8_kindOf_62 : decode cX8_kindOf 62 = .ok (.goto 4, 3) := by decide +kernel
theorem dX8_kindOf_65 : decode cX8_kindOf 65 = .ok (.iconst 0, 1) := by decide +kernel
theorem dX8_kindOf_66 : decode cX8_kindOf 66 = .ok (.istore_n 1, 1) := by decide +kernel
theorem dX8_kindOf_67 : decode cX8_kindOf 67 = .ok (.iinc 2 1, 3) := by decide +kernel
theorem dX8_kindOf_70 : decode cX8_kindOf 70 = .ok (.goto (-37), 3) := by decide +kernel
theorem dX8_kindOf_73 : decode cX8_kindOf 73 = .ok (.iload_n 1, 1) := by decide +kernel
theorem dX8_kindOf_74 : decode cX8_kindOf 74 = .ok (.ifCond .ne 7, 3) := by decide +kernel
theorem dX8_kindOf_77 : decode cX8_kindOf 77 = .ok (.iconst 0, 1) := by decide +kernel
theorem dX8_kindOf_78 : decode cX8_kindOf 78 = .ok (.goto 26, 3) := by decide +kernel
theorem dX8_kindOf_81 : decode cX8_kindOf 81 = .ok (.aload_n 0, 1) := by decide +kernel
theorem dX8_kindOf_82 : decode cX8_kindOf 82 = .ok (.iconst 0, 1) := by decide +kernel
theorem dX8_kindOf_83 : decode cX8_kindOf 83 = .ok (.iconst 0, 1) := by decide +kernel
theorem dX8_kindOf_84 : decode cX8_kindOf 84 = .ok (.invokevirtual 76, 3) := by decide +kernel
theorem dX8_kindOf_87 : decode cX8_kindOf 87 = .ok (.ifCond .ne 16, 3) := by decide +kernel
theorem dX8_kindOf_90 : decode cX8_kindOf 90 = .ok (.aload_n 0, 1) := by decide +kernel
theorem dX8_kindOf_91 : decode cX8_kindOf 91 = .ok (.iconst 1, 1) := by decide +kernel
theorem dX8_kindOf_92 : decode cX8_kindOf 92 = .ok (.iconst 0, 1) := by decide +kernel
theorem dX8_kindOf_93 : decode cX8_kindOf 93 = .ok (.invokevirtual 76, 3) := by decide +kernel
theorem dX8_kindOf_96 : decode cX8_kindOf 96 = .ok (.ifCond .ne 7, 3) := by decide +kernel
theorem dX8_kindOf_99 : decode cX8_kindOf 99 = .ok (.iconst 2, 1) := by decide +kernel
theorem dX8_kindOf_100 : decode cX8_kindOf 100 = .ok (.goto 4, 3) := by decide +kernel
theorem dX8_kindOf_103 : decode cX8_kindOf 103 = .ok (.iconst 1, 1) := by decide +kernel
theorem dX8_kindOf_104 : decode cX8_kindOf 104 = .ok (.ireturn, 1) := by decide +kernel
set_option maxRecDepth 20000 in
theorem ggX8_keep_X8_isSlot : GoodIn wsX8_keep wsX8_isSlot := goodIn_r _ [9, 10, 11, 8, 12] (by decide +kernel) (by decide +kernel)
set_option maxRecDepth 20000 in
theorem gX8_keep_X8_isSlot : GoodIn wsX8_keep (va_wsS RX8 239 yX8_isSlot wsX8_isSlot) := goodIn_app (goodIn_of _ (by decide +kernel)) ggX8_keep_X8_isSlot
set_option maxRecDepth 20000 in
theorem ggX8_keep_X8_found : GoodIn wsX8_keep wsX8_found := goodIn_r _ [16, 17, 34, 35, 36, 37, 38, 39, 40, 41, 42, 43, 44, 45, 46, 47, 48, 49, 50, 51, 52, 53, 54, 55, 56] (by decide +kernel) (by decide +kernel)
set_option maxRecDepth 20000 in
theorem gX8_keep_X8_found : GoodIn wsX8_keep (wsV RX8 69 RX8 yX8_found wsX8_found) := goodIn_app (goodIn_of _ (by decide +kernel)) ggX8_keep_X8_found
set_option maxRecDepth 20000 in
theorem ggX8_keep_X8_kindOf : GoodIn wsX8_keep wsX8_kindOf := goodIn_r _ [21, 22, 23, 24, 8, 25, 26, 27, 28, 29, 30, 31, 32, 33, 3, 34, 35, 36, 37, 38, 39, 40, 41, 42, 43, 44, 45, 46, 47, 48, 49, 50, 51, 52, 53, 54, 55, 56] (by decide +kernel) (by decide +kernel)
set_option maxRecDepth 20000 in
theorem gX8_keep_X8_kindOf : GoodIn wsX8_keep (wsV RX8 242 RX8 yX8_kindOf wsX8_kindOf) := goodIn_app (goodIn_of _ (by decide +kernel)) ggX8_keep_X8_kindOf
theorem dX8_keep_0 : decode cX8_keep 0 = .ok (.iload_n 1, 1) := by decide +kernel
theorem dX8_keep_1 : decode cX8_keep 1 = .ok (.invokestatic 239, 3) := by decide +kernel
theorem dX8_keep_4 : decode cX8_keep 4 = .ok (.ifCond .ne 10, 3) := by decide +kernel
theorem dX8_keep_7 : decode cX8_keep 7 = .ok (.aload_n 0, 1) := by decide +kernel
theorem dX8_keep_8 : decode cX8_keep 8 = .ok (.ldc 68, 2) := by decide +kernel
theorem dX8_keep_10 : decode cX8_keep 10 = .ok (.invokevirtual 69, 3) := by decide +kernel
theorem dX8_keep_13 : decode cX8_keep 13 = .ok (.ireturn, 1) := by decide +kernel
theorem dX8_keep_14 : decode cX8_keep 14 = .ok (.iconst 0, 1) := by decide +kernel
theorem dX8_keep_15 : decode cX8_keep 15 = .ok (.istore_n 2, 1) := by decide +kernel
theorem dX8_keep_16 : decode cX8_keep 16 = .ok (.iload_n 2, 1) := by decide +kernel
theorem dX8_keep_17 : decode cX8_keep 17 = .ok (.bipush 12, 2) := by decide +kernel
theorem dX8_keep_19 : decode cX8_keep 19 = .ok (.if_icmp .ge 26, 3) := by decide +kernel
theorem dX8_keep_22 : decode cX8_keep 22 = .ok (.aload_n 0, 1) := by decide +kernel
theorem dX8_keep_23 : decode cX8_keep 23 = .ok (.getfield 16, 3) := by decide +kernel
theorem dX8_keep_26 : decode cX8_keep 26 = .ok (.bipush 12, 2) := by decide +kernel
theorem dX8_keep_28 : decode cX8_keep 28 = .ok (.iload_n 1, 1) := by decide +kernel
theorem dX8_keep_29 : decode cX8_keep 29 = .ok (.imul, 1) := by decide +kernel
theorem dX8_keep_30 : decode cX8_keep 30 = .ok (.iload_n 2, 1) := by decide +kernel
theorem dX8_keep_31 : decode cX8_keep 31 = .ok (.iadd, 1) := by decide +kernel
theorem dX8_keep_32 : decode cX8_keep 32 = .ok (.aload_n 0, 1) := by decide +kernel
theorem dX8_keep_33 : decode cX8_keep 33 = .ok (.getfield 7, 3) := by decide +kernel
theorem dX8_keep_36 : decode cX8_keep 36 = .ok (.iload_n 2, 1) := by decide +kernel
theorem dX8_keep_37 : decode cX8_keep 37 = .ok (.iaload, 1) := by decide +kernel
theorem dX8_keep_38 : decode cX8_keep 38 = .ok (.iastore, 1) := by decide +kernel
theorem dX8_keep_39 : decode cX8_keep 39 = .ok (.iinc 2 1, 3) := by decide +kernel
theorem dX8_keep_42 : decode cX8_keep 42 = .ok (.goto (-26), 3) := by decide +kernel
theorem dX8_keep_45 : decode cX8_keep 45 = .ok (.aload_n 0, 1) := by decide +kernel
theorem dX8_keep_46 : decode cX8_keep 46 = .ok (.getfield 22, 3) := by decide +kernel
theorem dX8_keep_49 : decode cX8_keep 49 = .ok (.iload_n 1, 1) := by decide +kernel
theorem dX8_keep_50 : decode cX8_keep 50 = .ok (.iconst 1, 1) := by decide +kernel
theorem dX8_keep_51 : decode cX8_keep 51 = .ok (.bastore, 1) := by decide +kernel
theorem dX8_keep_52 : decode cX8_keep 52 = .ok (.aload_n 0, 1) := by decide +kernel
theorem dX8_keep_53 : decode cX8_keep 53 = .ok (.getfield 19, 3) := by decide +kernel
theorem dX8_keep_56 : decode cX8_keep 56 = .ok (.iload_n 1, 1) := by decide +kernel
theorem dX8_keep_57 : decode cX8_keep 57 = .ok (.aload_n 0, 1) := by decide +kernel
theorem dX8_keep_58 : decode cX8_keep 58 = .ok (.invokevirtual 242, 3) := by decide +kernel
theorem dX8_keep_61 : decode cX8_keep 61 = .ok (.iastore, 1) := by decide +kernel
theorem dX8_keep_62 : decode cX8_keep 62 = .ok (.aload_n 0, 1) := by decide +kernel
theorem dX8_keep_63 : decode cX8_keep 63 = .ok (.getfield 19, 3) := by decide +kernel
theorem dX8_keep_66 : decode cX8_keep 66 = .ok (.iload_n 1, 1) := by decide +kernel
theorem dX8_keep_67 : decode cX8_keep 67 = .ok (.iaload, 1) := by decide +kernel
theorem dX8_keep_68 : decode cX8_keep 68 = .ok (.ireturn, 1) := by decide +kernel
set_option maxRecDepth 20000 in
theorem ggX8_bring_X8_isSlot : GoodIn wsX8_bring wsX8_isSlot := goodIn_r _ [10, 11, 12, 9, 13] (by decide +kernel) (by decide +kernel)
set_option maxRecDepth 20000 in
theorem gX8_bring_X8_isSlot : GoodIn wsX8_bring (va_wsS RX8 239 yX8_isSlot wsX8_isSlot) := goodIn_app (goodIn_of _ (by decide +kernel)) ggX8_bring_X8_isSlot
set_option maxRecDepth 20000 in
theorem ggX8_bring_X8_found : GoodIn wsX8_bring wsX8_found := goodIn_r _ [17, 18, 25, 26, 27, 28, 29, 30, 31, 32, 33, 34, 35, 36, 37, 38, 39, 40, 41, 42, 43, 44, 45, 46, 47] (by decide +kernel) (by decide +kernel)
set_option maxRecDepth 20000 in
theorem gX8_bring_X8_found : GoodIn wsX8_bring (wsV RX8 69 RX8 yX8_found wsX8_found) := goodIn_app (goodIn_of _ (by decide +kernel)) ggX8_bring_X8_found
set_option maxRecDepth 20000 in
theorem ggX8_bring_X8_remember : GoodIn wsX8_bring wsX8_remember := goodIn_r _ [22, 23, 24, 4, 25, 26, 27, 28, 29, 30, 31, 32, 33, 34, 35, 36, 37, 38, 39, 40, 41, 42, 43, 44, 45, 46, 47] (by decide +kernel) (by decide +kernel)
set_option maxRecDepth 20000 in
theorem gX8_bring_X8_remember : GoodIn wsX8_bring (wsV RX8 73 RX8 yX8_remember wsX8_remember) := goodIn_app (goodIn_of _ (by decide +kernel)) ggX8_bring_X8_remember
theorem dX8_bring_0 : decode cX8_bring 0 = .ok (.iload_n 1, 1) := by decide +kernel
theorem dX8_bring_1 : decode cX8_bring 1 = .ok (.invokestatic 239, 3) := by decide +kernel
theorem dX8_bring_4 : decode cX8_bring 4 = .ok (.ifCond .ne 10, 3) := by decide +kernel
theorem dX8_bring_7 : decode cX8_bring 7 = .ok (.aload_n 0, 1) := by decide +kernel
theorem dX8_bring_8 : decode cX8_bring 8 = .ok (.ldc 68, 2) := by decide +kernel
theorem dX8_bring_10 : decode cX8_bring 10 = .ok (.invokevirtual 69, 3) := by decide +kernel
theorem dX8_bring_13 : decode cX8_bring 13 = .ok (.ireturn, 1) := by decide +kernel
theorem dX8_bring_14 : decode cX8_bring 14 = .ok (.aload_n 0, 1) := by decide +kernel
theorem dX8_bring_15 : decode cX8_bring 15 = .ok (.getfield 22, 3) := by decide +kernel
theorem dX8_bring_18 : decode cX8_bring 18 = .ok (.iload_n 1, 1) := by decide +kernel
theorem dX8_bring_19 : decode cX8_bring 19 = .ok (.baload, 1) := by decide +kernel
theorem dX8_bring_20 : decode cX8_bring 20 = .ok (.ifCond .ne 10, 3) := by decide +kernel
theorem dX8_bring_23 : decode cX8_bring 23 = .ok (.aload_n 0, 1) := by decide +kernel
theorem dX8_bring_24 : decode cX8_bring 24 = .ok (.ldc 100, 2) := by decide +kernel
theorem dX8_bring_26 : decode cX8_bring 26 = .ok (.invokevirtual 69, 3) := by decide +kernel
theorem dX8_bring_29 : decode cX8_bring 29 = .ok (.ireturn, 1) := by decide +kernel
theorem dX8_bring_30 : decode cX8_bring 30 = .ok (.aload_n 0, 1) := by decide +kernel
theorem dX8_bring_31 : decode cX8_bring 31 = .ok (.invokevirtual 73, 3) := by decide +kernel
theorem dX8_bring_34 : decode cX8_bring 34 = .ok (.iconst 0, 1) := by decide +kernel
theorem dX8_bring_35 : decode cX8_bring 35 = .ok (.istore_n 2, 1) := by decide +kernel
theorem dX8_bring_36 : decode cX8_bring 36 = .ok (.iload_n 2, 1) := by decide +kernel
theorem dX8_bring_37 : decode cX8_bring 37 = .ok (.bipush 12, 2) := by decide +kernel
theorem dX8_bring_39 : decode cX8_bring 39 = .ok (.if_icmp .ge 26, 3) := by decide +kernel
theorem dX8_bring_42 : decode cX8_bring 42 = .ok (.aload_n 0, 1) := by decide +kernel
theorem dX8_bring_43 : decode cX8_bring 43 = .ok (.getfield 7, 3) := by decide +kernel
theorem dX8_bring_46 : decode cX8_bring 46 = .ok (.iload_n 2, 1) := by decide +kernel
theorem dX8_bring_47 : decode cX8_bring 47 = .ok (.aload_n 0, 1) := by decide +kernel
theorem dX8_bring_48 : decode cX8_bring 48 = .ok (.getfield 16, 3) := by decide +kernel
theorem dX8_bring_51 : decode cX8_bring 51 = .ok (.bipush 12, 2) := by decide +kernel
theorem dX8_bring_53 : decode cX8_bring 53 = .ok (.iload_n 1, 1) := by decide +kernel
theorem dX8_bring_54 : decode cX8_bring 54 = .ok (.imul, 1) := by decide +kernel
theorem dX8_bring_55 : decode cX8_bring 55 = .ok (.iload_n 2, 1) := by decide +kernel
theorem dX8_bring_56 : decode cX8_bring 56 = .ok (.iadd, 1) := by decide +kernel
theorem dX8_bring_57 : decode cX8_bring 57 = .ok (.iaload, 1) := by decide +kernel
theorem dX8_bring_58 : decode cX8_bring 58 = .ok (.iastore, 1) := by decide +kernel
theorem dX8_bring_59 : decode cX8_bring 59 = .ok (.iinc 2 1, 3) := by decide +kernel
theorem dX8_bring_62 : decode cX8_bring 62 = .ok (.goto (-26), 3) := by decide +kernel
theorem dX8_bring_65 : decode cX8_bring 65 = .ok (.aload_n 0, 1) := by decide +kernel
theorem dX8_bring_66 : decode cX8_bring 66 = .ok (.getfield 19, 3) := by decide +kernel
theorem dX8_bring_69 : decode cX8_bring 69 = .ok (.iload_n 1, 1) := by decide +kernel
theorem dX8_bring_70 : decode cX8_bring 70 = .ok (.iaload, 1) := by decide +kernel
theorem dX8_bring_71 : decode cX8_bring 71 = .ok (.ireturn, 1) := by decide +kernel
set_option maxRecDepth 20000 in
theorem ggX8_as_X8_isSlot : GoodIn wsX8_as wsX8_isSlot := goodIn_r _ [10, 11, 12, 9, 13] (by decide +kernel) (by decide +kernel)
set_option maxRecDepth 20000 in
theorem gX8_as_X8_isSlot : GoodIn wsX8_as (va_wsS RX8 239 yX8_isSlot wsX8_isSlot) := goodIn_app (goodIn_of _ (by decide +kernel)) ggX8_as_X8_isSlot
set_option maxRecDepth 20000 in
theorem ggX8_as_X8_in : GoodIn wsX8_as wsX8_in := goodIn_r _ [13] (by decide +kernel) (by decide +kernel)
set_option maxRecDepth 20000 in
theorem gX8_as_X8_in : GoodIn wsX8_as (va_wsS RX8 61 yX8_in wsX8_in) := goodIn_app (goodIn_of _ (by decide +kernel)) ggX8_as_X8_in
set_option maxRecDepth 20000 in
theorem ggX8_as_X8_found : GoodIn wsX8_as wsX8_found := goodIn_r _ [17, 18, 19, 20, 21, 22, 23, 24, 25, 26, 27, 28, 29, 30, 31, 32, 33, 34, 35, 36, 37, 38, 39, 40, 41] (by decide +kernel) (by decide +kernel)
set_option maxRecDepth 20000 in
theorem gX8_as_X8_found : GoodIn wsX8_as (wsV RX8 69 RX8 yX8_found wsX8_found) := goodIn_app (goodIn_of _ (by decide +kernel)) ggX8_as_X8_found
theorem dX8_as_0 : decode cX8_as 0 = .ok (.iload_n 1, 1) := by decide +kernel
theorem dX8_as_1 : decode cX8_as 1 = .ok (.invokestatic 239, 3) := by decide +kernel
theorem dX8_as_4 : decode cX8_as 4 = .ok (.ifCond .eq 12, 3) := by decide +kernel
theorem dX8_as_7 : decode cX8_as 7 = .ok (.iload_n 2, 1) := by decide +kernel
theorem dX8_as_8 : decode cX8_as 8 = .ok (.iconst 0, 1) := by decide +kernel
theorem dX8_as_9 : decode cX8_as 9 = .ok (.iconst 3, 1) := by decide +kernel
theorem dX8_as_10 : decode cX8_as 10 = .ok (.invokestatic 61, 3) := by decide +kernel
theorem dX8_as_13 : decode cX8_as 13 = .ok (.ifCond .ne 10, 3) := by decide +kernel
theorem dX8_as_16 : decode cX8_as 16 = .ok (.aload_n 0, 1) := by decide +kernel
theorem dX8_as_17 : decode cX8_as 17 = .ok (.ldc 68, 2) := by decide +kernel
theorem dX8_as_19 : decode cX8_as 19 = .ok (.invokevirtual 69, 3) := by decide +kernel
theorem dX8_as_22 : decode cX8_as 22 = .ok (.ireturn, 1) := by decide +kernel
theorem dX8_as_23 : decode cX8_as 23 = .ok (.aload_n 0, 1) := by decide +kernel
theorem dX8_as_24 : decode cX8_as 24 = .ok (.getfield 22, 3) := by decide +kernel
theorem dX8_as_27 : decode cX8_as 27 = .ok (.iload_n 1, 1) := by decide +kernel
theorem dX8_as_28 : decode cX8_as 28 = .ok (.baload, 1) := by decide +kernel
theorem dX8_as_29 : decode cX8_as 29 = .ok (.ifCond .ne 10, 3) := by decide +kernel
theorem dX8_as_32 : decode cX8_as 32 = .ok (.aload_n 0, 1) := by decide +kernel
theorem dX8_as_33 : decode cX8_as 33 = .ok (.ldc 100, 2) := by decide +kernel
theorem dX8_as_35 : decode cX8_as 35 = .ok (.invokevirtual 69, 3) := by decide +kernel
theorem dX8_as_38 : decode cX8_as 38 = .ok (.ireturn, 1) := by decide +kernel
theorem dX8_as_39 : decode cX8_as 39 = .ok (.aload_n 0, 1) := by decide +kernel
theorem dX8_as_40 : decode cX8_as 40 = .ok (.getfield 19, 3) := by decide +kernel
theorem dX8_as_43 : decode cX8_as 43 = .ok (.iload_n 1, 1) := by decide +kernel
theorem dX8_as_44 : decode cX8_as 44 = .ok (.iaload, 1) := by decide +kernel
theorem dX8_as_45 : decode cX8_as 45 = .ok (.istore_n 3, 1) := by decide +kernel
theorem dX8_as_46 : decode cX8_as 46 = .ok (.iload_n 2, 1) := by decide +kernel
theorem dX8_as_47 : decode cX8_as 47 = .ok (.ifCond .eq 25, 3) := by decide +kernel
theorem dX8_as_50 : decode cX8_as 50 = .ok (.iload_n 2, 1) := by decide +kernel
theorem dX8_as_51 : decode cX8_as 51 = .ok (.iload_n 3, 1) := by decide +kernel
theorem dX8_as_52 : decode cX8_as 52 = .ok (.if_icmp .eq 20, 3) := by decide +kernel
theorem dX8_as_55 : decode cX8_as 55 = .ok (.iload_n 2, 1) := by decide +kernel
theorem dX8_as_56 : decode cX8_as 56 = .ok (.iconst 1, 1) := by decide +kernel
theorem dX8_as_57 : decode cX8_as 57 = .ok (.if_icmp .ne 8, 3) := by decide +kernel
theorem dX8_as_60 : decode cX8_as 60 = .ok (.iload_n 3, 1) := by decide +kernel
theorem dX8_as_61 : decode cX8_as 61 = .ok (.iconst 2, 1) := by decide +kernel
theorem dX8_as_62 : decode cX8_as 62 = .ok (.if_icmp .eq 10, 3) := by decide +kernel
theorem dX8_as_65 : decode cX8_as 65 = .ok (.aload_n 0, 1) := by decide +kernel
theorem dX8_as_66 : decode cX8_as 66 = .ok (.ldc 138, 2) := by decide +kernel
theorem dX8_as_68 : decode cX8_as 68 = .ok (.invokevirtual 69, 3) := by decide +kernel
theorem dX8_as_71 : decode cX8_as 71 = .ok (.ireturn, 1) := by decide +kernel
theorem dX8_as_72 : decode cX8_as 72 = .ok (.iconst 0, 1) := by decide +kernel
theorem dX8_as_73 : decode cX8_as 73 = .ok (.istore 4, 2) := by decide +kernel
theorem dX8_as_75 : decode cX8_as 75 = .ok (.iconst 0, 1) := by decide +kernel
theorem dX8_as_76 : decode cX8_as 76 = .ok (.istore 5, 2) := by decide +kernel
theorem dX8_as_78 : decode cX8_as 78 = .ok (.iload 5, 2) := by decide +kernel
theorem dX8_as_80 : decode cX8_as 80 = .ok (.bipush 12, 2) := by decide +kernel
theorem dX8_as_82 : decode cX8_as 82 = .ok (.if_icmp .ge 34, 3) := by decide +kernel
theorem dX8_as_85 : decode cX8_as 85 = .ok (.iload 4, 2) := by decide +kernel
theorem dX8_as_87 : decode cX8_as 87 = .ok (.aload_n 0, 1) := by decide +kernel
theorem dX8_as_88 : decode cX8_as 88 = .ok (.getfield 16, 3) := by decide +kernel
theorem dX8_as_91 : decode cX8_as 91 = .ok (.bipush 12, 2) := by decide +kernel
theorem dX8_as_93 : decode cX8_as 93 = .ok (.iload_n 1, 1) := by decide +kernel
theorem dX8_as_94 : decode cX8_as 94 = .ok (.imul, 1) := by decide +kernel
theorem dX8_as_95 : decode cX8_as 95 = .ok (.iload 5, 2) := by decide +kernel
theorem dX8_as_97 : decode cX8_as 97 = .ok (.iadd, 1) := by decide +kernel
theorem dX8_as_98 : decode cX8_as 98 = .ok (.iaload, 1) := by decide +kernel
theorem dX8_as_99 : decode cX8_as 99 = .ok (.ifCond .eq 7, 3) := by decide +kernel
theorem dX8_as_102 : decode cX8_as 102 = .ok (.iconst 1, 1) := by decide +kernel
theorem dX8_as_103 : decode cX8_as 103 = .ok (.goto 4, 3) := by decide +kernel
theorem dX8_as_106 : decode cX8_as 106 = .ok (.iconst 0, 1) := by decide +kernel
theorem dX8_as_107 : decode cX8_as 107 = .ok (.iadd, 1) := by decide +kernel
theorem dX8_as_108 : decode cX8_as 108 = .ok (.istore 4, 2) := by decide +kernel
theorem dX8_as_110 : decode cX8_as 110 = .ok (.iinc 5 1, 3) := by decide +kernel
theorem dX8_as_113 : decode cX8_as 113 = .ok (.goto (-35), 3) := by decide +kernel
theorem dX8_as_116 : decode cX8_as 116 = .ok (.iload 4, 2) := by decide +kernel
theorem dX8_as_118 : decode cX8_as 118 = .ok (.ireturn, 1) := by decide +kernel
set_option maxRecDepth 20000 in
theorem ggX8_sheet_X8_isSlot : GoodIn wsX8_sheet wsX8_isSlot := goodIn_r _ [9, 10, 11, 8, 12] (by decide +kernel) (by decide +kernel)
set_option maxRecDepth 20000 in
theorem gX8_sheet_X8_isSlot : GoodIn wsX8_sheet (va_wsS RX8 239 yX8_isSlot wsX8_isSlot) := goodIn_app (goodIn_of _ (by decide +kernel)) ggX8_sheet_X8_isSlot
set_option maxRecDepth 20000 in
theorem ggX8_sheet_X8_found : GoodIn wsX8_sheet wsX8_found := goodIn_r _ [16, 17, 18, 19, 20, 21, 22, 23, 24, 25, 26, 27, 28, 29, 30, 31, 32, 33, 34, 35, 36, 37, 38, 39, 40] (by decide +kernel) (by decide +kernel)
set_option maxRecDepth 20000 in
theorem gX8_sheet_X8_found : GoodIn wsX8_sheet (wsV RX8 69 RX8 yX8_found wsX8_found) := goodIn_app (goodIn_of _ (by decide +kernel)) ggX8_sheet_X8_found
theorem dX8_sheet_0 : decode cX8_sheet 0 = .ok (.iload_n 1, 1) := by decide +kernel
theorem dX8_sheet_1 : decode cX8_sheet 1 = .ok (.invokestatic 239, 3) := by decide +kernel
theorem dX8_sheet_4 : decode cX8_sheet 4 = .ok (.ifCond .eq 25, 3) := by decide +kernel
theorem dX8_sheet_7 : decode cX8_sheet 7 = .ok (.iload_n 2, 1) := by decide +kernel
theorem dX8_sheet_8 : decode cX8_sheet 8 = .ok (.ifCond .eq 28, 3) := by decide +kernel
theorem dX8_sheet_11 : decode cX8_sheet 11 = .ok (.iload_n 2, 1) := by decide +kernel
theorem dX8_sheet_12 : decode cX8_sheet 12 = .ok (.bipush 8, 2) := by decide +kernel
theorem dX8_sheet_14 : decode cX8_sheet 14 = .ok (.if_icmp .eq 22, 3) := by decide +kernel
theorem dX8_sheet_17 : decode cX8_sheet 17 = .ok (.iload_n 2, 1) := by decide +kernel
theorem dX8_sheet_18 : decode cX8_sheet 18 = .ok (.bipush 16, 2) := by decide +kernel
theorem dX8_sheet_20 : decode cX8_sheet 20 = .ok (.if_icmp .eq 16, 3) := by decide +kernel
theorem dX8_sheet_23 : decode cX8_sheet 23 = .ok (.iload_n 2, 1) := by decide +kernel
theorem dX8_sheet_24 : decode cX8_sheet 24 = .ok (.bipush 32, 2) := by decide +kernel
theorem dX8_sheet_26 : decode cX8_sheet 26 = .ok (.if_icmp .eq 10, 3) := by decide +kernel
theorem dX8_sheet_29 : decode cX8_sheet 29 = .ok (.aload_n 0, 1) := by decide +kernel
theorem dX8_sheet_30 : decode cX8_sheet 30 = .ok (.ldc 68, 2) := by decide +kernel
theorem dX8_sheet_32 : decode cX8_sheet 32 = .ok (.invokevirtual 69, 3) := by decide +kernel
theorem dX8_sheet_35 : decode cX8_sheet 35 = .ok (.ireturn, 1) := by decide +kernel
theorem dX8_sheet_36 : decode cX8_sheet 36 = .ok (.iload_n 3, 1) := by decide +kernel
theorem dX8_sheet_37 : decode cX8_sheet 37 = .ok (.ifCond .ge 10, 3) := by decide +kernel
theorem dX8_sheet_40 : decode cX8_sheet 40 = .ok (.aload_n 0, 1) := by decide +kernel
theorem dX8_sheet_41 : decode cX8_sheet 41 = .ok (.ldc 99, 2) := by decide +kernel
theorem dX8_sheet_43 : decode cX8_sheet 43 = .ok (.invokevirtual 69, 3) := by decide +kernel
theorem dX8_sheet_46 : decode cX8_sheet 46 = .ok (.ireturn, 1) := by decide +kernel
theorem dX8_sheet_47 : decode cX8_sheet 47 = .ok (.iload_n 3, 1) := by decide +kernel
theorem dX8_sheet_48 : decode cX8_sheet 48 = .ok (.bipush 16, 2) := by decide +kernel
theorem dX8_sheet_50 : decode cX8_sheet 50 = .ok (.if_icmp .le 10, 3) := by decide +kernel
theorem dX8_sheet_53 : decode cX8_sheet 53 = .ok (.aload_n 0, 1) := by decide +kernel
theorem dX8_sheet_54 : decode cX8_sheet 54 = .ok (.ldc 68, 2) := by decide +kernel
theorem dX8_sheet_56 : decode cX8_sheet 56 = .ok (.invokevirtual 69, 3) := by decide +kernel
theorem dX8_sheet_59 : decode cX8_sheet 59 = .ok (.ireturn, 1) := by decide +kernel
theorem dX8_sheet_60 : decode cX8_sheet 60 = .ok (.aload_n 0, 1) := by decide +kernel
theorem dX8_sheet_61 : decode cX8_sheet 61 = .ok (.getfield 26, 3) := by decide +kernel
theorem dX8_sheet_64 : decode cX8_sheet 64 = .ok (.iload_n 1, 1) := by decide +kernel
theorem dX8_sheet_65 : decode cX8_sheet 65 = .ok (.iload_n 2, 1) := by decide +kernel
theorem dX8_sheet_66 : decode cX8_sheet 66 = .ok (.iastore, 1) := by decide +kernel
theorem dX8_sheet_67 : decode cX8_sheet 67 = .ok (.aload_n 0, 1) := by decide +kernel
theorem dX8_sheet_68 : decode cX8_sheet 68 = .ok (.getfield 29, 3) := by decide +kernel
theorem dX8_sheet_71 : decode cX8_sheet 71 = .ok (.iload_n 1, 1) := by decide +kernel
theorem dX8_sheet_72 : decode cX8_sheet 72 = .ok (.iload_n 2, 1) := by decide +kernel
theorem dX8_sheet_73 : decode cX8_sheet 73 = .ok (.ifCond .ne 7, 3) := by decide +kernel
theorem dX8_sheet_76 : decode cX8_sheet 76 = .ok (.iconst 0, 1) := by decide +kernel
theorem dX8_sheet_77 : decode cX8_sheet 77 = .ok (.goto 4, 3) := by decide +kernel
theorem dX8_sheet_80 : decode cX8_sheet 80 = .ok (.iload_n 3, 1) := by decide +kernel
theorem dX8_sheet_81 : decode cX8_sheet 81 = .ok (.iastore, 1) := by decide +kernel
theorem dX8_sheet_82 : decode cX8_sheet 82 = .ok (.iconst 0, 1) := by decide +kernel
theorem dX8_sheet_83 : decode cX8_sheet 83 = .ok (.istore 4, 2) := by decide +kernel
theorem dX8_sheet_85 : decode cX8_sheet 85 = .ok (.iload 4, 2) := by decide +kernel
theorem dX8_sheet_87 : decode cX8_sheet 87 = .ok (.bipush 16, 2) := by decide +kernel
theorem dX8_sheet_89 : decode cX8_sheet 89 = .ok (.if_icmp .ge 22, 3) := by decide +kernel
theorem dX8_sheet_92 : decode cX8_sheet 92 = .ok (.aload_n 0, 1) := by decide +kernel
theorem dX8_sheet_93 : decode cX8_sheet 93 = .ok (.getfield 32, 3) := by decide +kernel
theorem dX8_sheet_96 : decode cX8_sheet 96 = .ok (.bipush 16, 2) := by decide +kernel
theorem dX8_sheet_98 : decode cX8_sheet 98 = .ok (.iload_n 1, 1) := by decide +kernel
theorem dX8_sheet_99 : decode cX8_sheet 99 = .ok (.imul, 1) := by decide +kernel
theorem dX8_sheet_100 : decode cX8_sheet 100 = .ok (.iload 4, 2) := by decide +kernel
theorem dX8_sheet_102 : decode cX8_sheet 102 = .ok (.iadd, 1) := by decide +kernel
theorem dX8_sheet_103 : decode cX8_sheet 103 = .ok (.iconst 0, 1) := by decide +kernel
theorem dX8_sheet_104 : decode cX8_sheet 104 = .ok (.iastore, 1) := by decide +kernel
theorem dX8_sheet_105 : decode cX8_sheet 105 = .ok (.iinc 4 1, 3) := by decide +kernel
theorem dX8_sheet_108 : decode cX8_sheet 108 = .ok (.goto (-23), 3) := by decide +kernel
theorem dX8_sheet_111 : decode cX8_sheet 111 = .ok (.aload_n 0, 1) := by decide +kernel
theorem dX8_sheet_112 : decode cX8_sheet 112 = .ok (.getfield 29, 3) := by decide +kernel
theorem dX8_sheet_115 : decode cX8_sheet 115 = .ok (.iload_n 1, 1) := by decide +kernel
theorem dX8_sheet_116 : decode cX8_sheet 116 = .ok (.iaload, 1) := by decide +kernel
theorem dX8_sheet_117 : decode cX8_sheet 117 = .ok (.ireturn, 1) := by decide +kernel
set_option maxRecDepth 20000 in
theorem ggX8_write_X8_isSlot : GoodIn wsX8_write wsX8_isSlot := goodIn_r _ [9, 10, 11, 8, 12] (by decide +kernel) (by decide +kernel)
set_option maxRecDepth 20000 in
theorem gX8_write_X8_isSlot : GoodIn wsX8_write (va_wsS RX8 239 yX8_isSlot wsX8_isSlot) := goodIn_app (goodIn_of _ (by decide +kernel)) ggX8_write_X8_isSlot
set_option maxRecDepth 20000 in
theorem ggX8_write_X8_found : GoodIn wsX8_write wsX8_found := goodIn_r _ [16, 17, 18, 19, 20, 21, 22, 23, 24, 25, 26, 27, 28, 29, 30, 31, 32, 33, 34, 35, 36, 37, 38, 39, 40] (by decide +kernel) (by decide +kernel)
set_option maxRecDepth 20000 in
theorem gX8_write_X8_found : GoodIn wsX8_write (wsV RX8 69 RX8 yX8_found wsX8_found) := goodIn_app (goodIn_of _ (by decide +kernel)) ggX8_write_X8_found
set_option maxRecDepth 20000 in
theorem ggX8_write_X8_in : GoodIn wsX8_write wsX8_in := goodIn_r _ [12] (by decide +kernel) (by decide +kernel)
set_option maxRecDepth 20000 in
theorem gX8_write_X8_in : GoodIn wsX8_write (va_wsS RX8 61 yX8_in wsX8_in) := goodIn_app (goodIn_of _ (by decide +kernel)) ggX8_write_X8_in
theorem dX8_write_0 : decode cX8_write 0 = .ok (.iload_n 1, 1) := by decide +kernel
theorem dX8_write_1 : decode cX8_write 1 = .ok (.invokestatic 239, 3) := by decide +kernel
theorem dX8_write_4 : decode cX8_write 4 = .ok (.ifCond .ne 10, 3) := by decide +kernel
theorem dX8_write_7 : decode cX8_write 7 = .ok (.aload_n 0, 1) := by decide +kernel
theorem dX8_write_8 : decode cX8_write 8 = .ok (.ldc 68, 2) := by decide +kernel
theorem dX8_write_10 : decode cX8_write 10 = .ok (.invokevirtual 69, 3) := by decide +kernel
theorem dX8_write_13 : decode cX8_write 13 = .ok (.ireturn, 1) := by decide +kernel
theorem dX8_write_14 : decode cX8_write 14 = .ok (.aload_n 0, 1) := by decide +kernel
theorem dX8_write_15 : decode cX8_write 15 = .ok (.getfield 26, 3) := by decide +kernel
theorem dX8_write_18 : decode cX8_write 18 = .ok (.iload_n 1, 1) := by decide +kernel
theorem dX8_write_19 : decode cX8_write 19 = .ok (.iaload, 1) := by decide +kernel
theorem dX8_write_20 : decode cX8_write 20 = .ok (.ifCond .ne 10, 3) := by decide +kernel
theorem dX8_write_23 : decode cX8_write 23 = .ok (.aload_n 0, 1) := by decide +kernel
theorem dX8_write_24 : decode cX8_write 24 = .ok (.ldc 245, 2) := by decide +kernel
theorem dX8_write_26 : decode cX8_write 26 = .ok (.invokevirtual 69, 3) := by decide +kernel
theorem dX8_write_29 : decode cX8_write 29 = .ok (.ireturn, 1) := by decide +kernel
theorem dX8_write_30 : decode cX8_write 30 = .ok (.iload_n 2, 1) := by decide +kernel
theorem dX8_write_31 : decode cX8_write 31 = .ok (.iconst 0, 1) := by decide +kernel
theorem dX8_write_32 : decode cX8_write 32 = .ok (.aload_n 0, 1) := by decide +kernel
theorem dX8_write_33 : decode cX8_write 33 = .ok (.getfield 29, 3) := by decide +kernel
theorem dX8_write_36 : decode cX8_write 36 = .ok (.iload_n 1, 1) := by decide +kernel
theorem dX8_write_37 : decode cX8_write 37 = .ok (.iaload, 1) := by decide +kernel
theorem dX8_write_38 : decode cX8_write 38 = .ok (.iconst 1, 1) := by decide +kernel
theorem dX8_write_39 : decode cX8_write 39 = .ok (.isub, 1) := by decide +kernel
theorem dX8_write_40 : decode cX8_write 40 = .ok (.invokestatic 61, 3) := by decide +kernel
theorem dX8_write_43 : decode cX8_write 43 = .ok (.ifCond .ne 10, 3) := by decide +kernel
theorem dX8_write_46 : decode cX8_write 46 = .ok (.aload_n 0, 1) := by decide +kernel
theorem dX8_write_47 : decode cX8_write 47 = .ok (.ldc 68, 2) := by decide +kernel
theorem dX8_write_49 : decode cX8_write 49 = .ok (.invokevirtual 69, 3) := by decide +kernel
theorem dX8_write_52 : decode cX8_write 52 = .ok (.ireturn, 1) := by decide +kernel
theorem dX8_write_53 : decode cX8_write 53 = .ok (.aload_n 0, 1) := by decide +kernel
theorem dX8_write_54 : decode cX8_write 54 = .ok (.getfield 32, 3) := by decide +kernel
theorem dX8_write_57 : decode cX8_write 57 = .ok (.bipush 16, 2) := by decide +kernel
theorem dX8_write_59 : decode cX8_write 59 = .ok (.iload_n 1, 1) := by decide +kernel
theorem dX8_write_60 : decode cX8_write 60 = .ok (.imul, 1) := by decide +kernel
theorem dX8_write_61 : decode cX8_write 61 = .ok (.iload_n 2, 1) := by decide +kernel
theorem dX8_write_62 : decode cX8_write 62 = .ok (.iadd, 1) := by decide +kernel
theorem dX8_write_63 : decode cX8_write 63 = .ok (.aload_n 0, 1) := by decide +kernel
theorem dX8_write_64 : decode cX8_write 64 = .ok (.getfield 26, 3) := by decide +kernel
theorem dX8_write_67 : decode cX8_write 67 = .ok (.iload_n 1, 1) := by decide +kernel
theorem dX8_write_68 : decode cX8_write 68 = .ok (.iaload, 1) := by decide +kernel
theorem dX8_write_69 : decode cX8_write 69 = .ok (.bipush 8, 2) := by decide +kernel
theorem dX8_write_71 : decode cX8_write 71 = .ok (.if_icmp .ne 8, 3) := by decide +kernel
theorem dX8_write_74 : decode cX8_write 74 = .ok (.iload_n 3, 1) := by decide +kernel
theorem dX8_write_75 : decode cX8_write 75 = .ok (.i2b, 1) := by decide +kernel
theorem dX8_write_76 : decode cX8_write 76 = .ok (.goto 20, 3) := by decide +kernel
theorem dX8_write_79 : decode cX8_write 79 = .ok (.aload_n 0, 1) := by decide +kernel
theorem dX8_write_80 : decode cX8_write 80 = .ok (.getfield 26, 3) := by decide +kernel
theorem dX8_write_83 : decode cX8_write 83 = .ok (.iload_n 1, 1) := by decide +kernel
theorem dX8_write_84 : decode cX8_write 84 = .ok (.iaload, 1) := by decide +kernel
theorem dX8_write_85 : decode cX8_write 85 = .ok (.bipush 16, 2) := by decide +kernel
theorem dX8_write_87 : decode cX8_write 87 = .ok (.if_icmp .ne 8, 3) := by decide +kernel
theorem dX8_write_90 : decode cX8_write 90 = .ok (.iload_n 3, 1) := by decide +kernel
theorem dX8_write_91 : decode cX8_write 91 = .ok (.i2s, 1) := by decide +kernel
theorem dX8_write_92 : decode cX8_write 92 = .ok (.goto 4, 3) := by decide +kernel
theorem dX8_write_95 : decode cX8_write 95 = .ok (.iload_n 3, 1) := by decide +kernel
theorem dX8_write_96 : decode cX8_write 96 = .ok (.iastore, 1) := by decide +kernel
theorem dX8_write_97 : decode cX8_write 97 = .ok (.iconst 0, 1) := by decide +kernel
theorem dX8_write_98 : decode cX8_write 98 = .ok (.ireturn, 1) := by decide +kernel
set_option maxRecDepth 20000 in
theorem ggX8_copy_X8_isSlot : GoodIn wsX8_copy wsX8_isSlot := goodIn_r _ [11, 12, 13, 10, 14] (by decide +kernel) (by decide +kernel)
set_option maxRecDepth 20000 in
theorem gX8_copy_X8_isSlot : GoodIn wsX8_copy (va_wsS RX8 239 yX8_isSlot wsX8_isSlot) := goodIn_app (goodIn_of _ (by decide +kernel)) ggX8_copy_X8_isSlot
set_option maxRecDepth 20000 in
theorem ggX8_copy_X8_found : GoodIn wsX8_copy wsX8_found := goodIn_r _ [18, 19, 20, 21, 22, 23, 24, 25, 26, 27, 28, 29, 30, 31, 32, 33, 34, 35, 36, 37, 38, 39, 40, 41, 42] (by decide +kernel) (by decide +kernel)
set_option maxRecDepth 20000 in
theorem gX8_copy_X8_found : GoodIn wsX8_copy (wsV RX8 69 RX8 yX8_found wsX8_found) := goodIn_app (goodIn_of _ (by decide +kernel)) ggX8_copy_X8_found
theorem dX8_copy_0 : decode cX8_copy 0 = .ok (.iload_n 1, 1) := by decide +kernel
theorem dX8_copy_1 : decode cX8_copy 1 = .ok (.invokestatic 239, 3) := by decide +kernel
theorem dX8_copy_4 : decode cX8_copy 4 = .ok (.ifCond .eq 10, 3) := by decide +kernel
theorem dX8_copy_7 : decode cX8_copy 7 = .ok (.iload_n 3, 1) := by decide +kernel
theorem dX8_copy_8 : decode cX8_copy 8 = .ok (.invokestatic 239, 3) := by decide +kernel
theorem dX8_copy_11 : decode cX8_copy 11 = .ok (.ifCond .ne 10, 3) := by decide +kernel
theorem dX8_copy_14 : decode cX8_copy 14 = .ok (.aload_n 0, 1) := by decide +kernel
theorem dX8_copy_15 : decode cX8_copy 15 = .ok (.ldc 68, 2) := by decide +kernel
theorem dX8_copy_17 : decode cX8_copy 17 = .ok (.invokevirtual 69, 3) := by decide +kernel
theorem dX8_copy_20 : decode cX8_copy 20 = .ok (.ireturn, 1) := by decide +kernel
theorem dX8_copy_21 : decode cX8_copy 21 = .ok (.aload_n 0, 1) := by decide +kernel
theorem dX8_copy_22 : decode cX8_copy 22 = .ok (.getfield 26, 3) := by decide +kernel
theorem dX8_copy_25 : decode cX8_copy 25 = .ok (.iload_n 1, 1) := by decide +kernel
theorem dX8_copy_26 : decode cX8_copy 26 = .ok (.iaload, 1) := by decide +kernel
theorem dX8_copy_27 : decode cX8_copy 27 = .ok (.ifCond .eq 12, 3) := by decide +kernel
theorem dX8_copy_30 : decode cX8_copy 30 = .ok (.aload_n 0, 1) := by decide +kernel
theorem dX8_copy_31 : decode cX8_copy 31 = .ok (.getfield 26, 3) := by decide +kernel
theorem dX8_copy_34 : decode cX8_copy 34 = .ok (.iload_n 3, 1) := by decide +kernel
theorem dX8_copy_35 : decode cX8_copy 35 = .ok (.iaload, 1) := by decide +kernel
theorem dX8_copy_36 : decode cX8_copy 36 = .ok (.ifCond .ne 10, 3) := by decide +kernel
theorem dX8_copy_39 : decode cX8_copy 39 = .ok (.aload_n 0, 1) := by decide +kernel
theorem dX8_copy_40 : decode cX8_copy 40 = .ok (.ldc 245, 2) := by decide +kernel
theorem dX8_copy_42 : decode cX8_copy 42 = .ok (.invokevirtual 69, 3) := by decide +kernel
theorem dX8_copy_45 : decode cX8_copy 45 = .ok (.ireturn, 1) := by decide +kernel
theorem dX8_copy_46 : decode cX8_copy 46 = .ok (.aload_n 0, 1) := by decide +kernel
theorem dX8_copy_47 : decode cX8_copy 47 = .ok (.getfield 26, 3) := by decide +kernel
theorem dX8_copy_50 : decode cX8_copy 50 = .ok (.iload_n 1, 1) := by decide +kernel
theorem dX8_copy_51 : decode cX8_copy 51 = .ok (.iaload, 1) := by decide +kernel
theorem dX8_copy_52 : decode cX8_copy 52 = .ok (.aload_n 0, 1) := by decide +kernel
theorem dX8_copy_53 : decode cX8_copy 53 = .ok (.getfield 26, 3) := by decide +kernel
theorem dX8_copy_56 : decode cX8_copy 56 = .ok (.iload_n 3, 1) := by decide +kernel
theorem dX8_copy_57 : decode cX8_copy 57 = .ok (.iaload, 1) := by decide +kernel
theorem dX8_copy_58 : decode cX8_copy 58 = .ok (.if_icmp .eq 10, 3) := by decide +kernel
theorem dX8_copy_61 : decode cX8_copy 61 = .ok (.aload_n 0, 1) := by decide +kernel
theorem dX8_copy_62 : decode cX8_copy 62 = .ok (.ldc 138, 2) := by decide +kernel
theorem dX8_copy_64 : decode cX8_copy 64 = .ok (.invokevirtual 69, 3) := by decide +kernel
theorem dX8_copy_67 : decode cX8_copy 67 = .ok (.ireturn, 1) := by decide +kernel
theorem dX8_copy_68 : decode cX8_copy 68 = .ok (.iload_n 2, 1) := by decide +kernel
theorem dX8_copy_69 : decode cX8_copy 69 = .ok (.ifCond .lt 48, 3) := by decide +kernel
theorem dX8_copy_72 : decode cX8_copy 72 = .ok (.iload 4, 2) := by decide +kernel
theorem dX8_copy_74 : decode cX8_copy 74 = .ok (.ifCond .lt 43, 3) := by decide +kernel
theorem dX8_copy_77 : decode cX8_copy 77 = .ok (.iload 5, 2) := by decide +kernel
theorem dX8_copy_79 : decode cX8_copy 79 = .ok (.ifCond .lt 38, 3) := by decide +kernel
theorem dX8_copy_82 : decode cX8_copy 82 = .ok (.iload_n 2, 1) := by decide +kernel
theorem dX8_copy_83 : decode cX8_copy 83 = .ok (.i2l, 1) := by decide +kernel
theorem dX8_copy_84 : decode cX8_copy 84 = .ok (.iload 5, 2) := by decide +kernel
theorem dX8_copy_86 : decode cX8_copy 86 = .ok (.i2l, 1) := by decide +kernel
theorem dX8_copy_87 : decode cX8_copy 87 = .ok (.ladd, 1) := by decide +kernel
theorem dX8_copy_88 : decode cX8_copy 88 = .ok (.aload_n 0, 1) := by decide +kernel
theorem dX8_copy_89 : decode cX8_copy 89 = .ok (.getfield 29, 3) := by decide +kernel
theorem dX8_copy_92 : decode cX8_copy 92 = .ok (.iload_n 1, 1) := by decide +kernel
theorem dX8_copy_93 : decode cX8_copy 93 = .ok (.iaload, 1) := by decide +kernel
theorem dX8_copy_94 : decode cX8_copy 94 = .ok (.i2l, 1) := by decide +kernel
theorem dX8_copy_95 : decode cX8_copy 95 = .ok (.lcmp, 1) := by decide +kernel
theorem dX8_copy_96 : decode cX8_copy 96 = .ok (.ifCond .gt 21, 3) := by decide +kernel
theorem dX8_copy_99 : decode cX8_copy 99 = .ok (.iload 4, 2) := by decide +kernel
theorem dX8_copy_101 : decode cX8_copy 101 = .ok (.i2l, 1) := by decide +kernel
theorem dX8_copy_102 : decode cX8_copy 102 = .ok (.iload 5, 2) := by decide +kernel
theorem dX8_copy_104 : decode cX8_copy 104 = .ok (.i2l, 1) := by decide +kernel
theorem dX8_copy_105 : decode cX8_copy 105 = .ok (.ladd, 1) := by decide +kernel
theorem dX8_copy_106 : decode cX8_copy 106 = .ok (.aload_n 0, 1) := by decide +kernel
theorem dX8_copy_107 : decode cX8_copy 107 = .ok (.getfield 29, 3) := by decide +kernel
theorem dX8_copy_110 : decode cX8_copy 110 = .ok (.iload_n 3, 1) := by decide +kernel
theorem dX8_copy_111 : decode cX8_copy 111 = .ok (.iaload, 1) := by decide +kernel
theorem dX8_copy_112 : decode cX8_copy 112 = .ok (.i2l, 1) := by decide +kernel
theorem dX8_copy_113 : decode cX8_copy 113 = .ok (.lcmp, 1) := by decide +kernel
theorem dX8_copy_114 : decode cX8_copy 114 = .ok (.ifCond .le 10, 3) := by decide +kernel
theorem dX8_copy_117 : decode cX8_copy 117 = .ok (.aload_n 0, 1) := by decide +kernel
theorem dX8_copy_118 : decode cX8_copy 118 = .ok (.ldc 68, 2) := by decide +kernel
theorem dX8_copy_120 : decode cX8_copy 120 = .ok (.invokevirtual 69, 3) := by decide +kernel
theorem dX8_copy_123 : decode cX8_copy 123 = .ok (.ireturn, 1) := by decide +kernel
theorem dX8_copy_124 : decode cX8_copy 124 = .ok (.iconst 0, 1) := by decide +kernel
theorem dX8_copy_125 : decode cX8_copy 125 = .ok (.istore 6, 2) := by decide +kernel
theorem dX8_copy_127 : decode cX8_copy 127 = .ok (.iload 6, 2) := by decide +kernel
theorem dX8_copy_129 : decode cX8_copy 129 = .ok (.iload 5, 2) := by decide +kernel
theorem dX8_copy_131 : decode cX8_copy 131 = .ok (.if_icmp .ge 30, 3) := by decide +kernel
theorem dX8_copy_134 : decode cX8_copy 134 = .ok (.aload_n 0, 1) := by decide +kernel
theorem dX8_copy_135 : decode cX8_copy 135 = .ok (.getfield 54, 3) := by decide +kernel
theorem dX8_copy_138 : decode cX8_copy 138 = .ok (.iload 6, 2) := by decide +kernel
theorem dX8_copy_140 : decode cX8_copy 140 = .ok (.aload_n 0, 1) := by decide +kernel
theorem dX8_copy_141 : decode cX8_copy 141 = .ok (.getfield 32, 3) := by decide +kernel
theorem dX8_copy_144 : decode cX8_copy 144 = .ok (.bipush 16, 2) := by decide +kernel
theorem dX8_copy_146 : decode cX8_copy 146 = .ok (.iload_n 1, 1) := by decide +kernel
theorem dX8_copy_147 : decode cX8_copy 147 = .ok (.imul, 1) := by decide +kernel
theorem dX8_copy_148 : decode cX8_copy 148 = .ok (.iload_n 2, 1) := by decide +kernel
theorem dX8_copy_149 : decode cX8_copy 149 = .ok (.iadd, 1) := by decide +kernel
theorem dX8_copy_150 : decode cX8_copy 150 = .ok (.iload 6, 2) := by decide +kernel
theorem dX8_copy_152 : decode cX8_copy 152 = .ok (.iadd, 1) := by decide +kernel
theorem dX8_copy_153 : decode cX8_copy 153 = .ok (.iaload, 1) := by decide +kernel
theorem dX8_copy_154 : decode cX8_copy 154 = .ok (.iastore, 1) := by decide +kernel
theorem dX8_copy_155 : decode cX8_copy 155 = .ok (.iinc 6 1, 3) := by decide +kernel
theorem dX8_copy_158 : decode cX8_copy 158 = .ok (.goto (-31), 3) := by decide +kernel
theorem dX8_copy_161 : decode cX8_copy 161 = .ok (.iconst 0, 1) := by decide +kernel
theorem dX8_copy_162 : decode cX8_copy 162 = .ok (.istore 6, 2) := by decide +kernel
theorem dX8_copy_164 : decode cX8_copy 164 = .ok (.iload 6, 2) := by decide +kernel
theorem dX8_copy_166 : decode cX8_copy 166 = .ok (.iload 5, 2) := by decide +kernel
theorem dX8_copy_168 : decode cX8_copy 168 = .ok (.if_icmp .ge 31, 3) := by decide +kernel
theorem dX8_copy_171 : decode cX8_copy 171 = .ok (.aload_n 0, 1) := by decide +kernel
theorem dX8_copy_172 : decode cX8_copy 172 = .ok (.getfield 32, 3) := by decide +kernel
theorem dX8_copy_175 : decode cX8_copy 175 = .ok (.bipush 16, 2) := by decide +kernel
theorem dX8_copy_177 : decode cX8_copy 177 = .ok (.iload_n 3, 1) := by decide +kernel
theorem dX8_copy_178 : decode cX8_copy 178 = .ok (.imul, 1) := by decide +kernel
theorem dX8_copy_179 : decode cX8_copy 179 = .ok (.iload 4, 2) := by decide +kernel
theorem dX8_copy_181 : decode cX8_copy 181 = .ok (.iadd, 1) := by decide +kernel
theorem dX8_copy_182 : decode cX8_copy 182 = .ok (.iload 6, 2) := by decide +kernel
theorem dX8_copy_184 : decode cX8_copy 184 = .ok (.iadd, 1) := by decide +kernel
theorem dX8_copy_185 : decode cX8_copy 185 = .ok (.aload_n 0, 1) := by decide +kernel
theorem dX8_copy_186 : decode cX8_copy 186 = .ok (.getfield 54, 3) := by decide +kernel
theorem dX8_copy_189 : decode cX8_copy 189 = .ok (.iload 6, 2) := by decide +kernel
theorem dX8_copy_191 : decode cX8_copy 191 = .ok (.iaload, 1) := by decide +kernel
theorem dX8_copy_192 : decode cX8_copy 192 = .ok (.iastore, 1) := by decide +kernel
theorem dX8_copy_193 : decode cX8_copy 193 = .ok (.iinc 6 1, 3) := by decide +kernel
theorem dX8_copy_196 : decode cX8_copy 196 = .ok (.goto (-32), 3) := by decide +kernel
theorem dX8_copy_199 : decode cX8_copy 199 = .ok (.iload 5, 2) := by decide +kernel
theorem dX8_copy_201 : decode cX8_copy 201 = .ok (.ireturn, 1) := by decide +kernel
set_option maxRecDepth 20000 in
theorem ggX8_lay_X8_isSlot : GoodIn wsX8_lay wsX8_isSlot := goodIn_r _ [10, 11, 12, 9, 13] (by decide +kernel) (by decide +kernel)
set_option maxRecDepth 20000 in
theorem gX8_lay_X8_isSlot : GoodIn wsX8_lay (va_wsS RX8 239 yX8_isSlot wsX8_isSlot) := goodIn_app (goodIn_of _ (by decide +kernel)) ggX8_lay_X8_isSlot
set_option maxRecDepth 20000 in
theorem ggX8_lay_X8_found : GoodIn wsX8_lay wsX8_found := goodIn_r _ [17, 18, 34, 35, 36, 37, 38, 39, 40, 41, 42, 43, 44, 45, 46, 47, 48, 49, 50, 51, 52, 53, 54, 55, 56] (by decide +kernel) (by decide +kernel)
set_option maxRecDepth 20000 in
theorem gX8_lay_X8_found : GoodIn wsX8_lay (wsV RX8 69 RX8 yX8_found wsX8_found) := goodIn_app (goodIn_of _ (by decide +kernel)) ggX8_lay_X8_found
set_option maxRecDepth 20000 in
theorem ggX8_lay_X8_isSmall : GoodIn wsX8_lay wsX8_isSmall := goodIn_r _ [22, 5, 11, 12, 9, 13, 34, 35, 36, 37, 38, 39, 40, 41, 42, 43, 44, 45, 46, 47, 48, 49, 50, 51, 52, 53, 54, 55, 56] (by decide +kernel) (by decide +kernel)
set_option maxRecDepth 20000 in
theorem gX8_lay_X8_isSmall : GoodIn wsX8_lay (wsV RX8 95 RX8 yX8_isSmall wsX8_isSmall) := goodIn_app (goodIn_of _ (by decide +kernel)) ggX8_lay_X8_isSmall
set_option maxRecDepth 20000 in
theorem ggX8_lay_X8_remember : GoodIn wsX8_lay wsX8_remember := goodIn_r _ [26, 27, 28, 29, 34, 35, 36, 37, 38, 39, 40, 41, 42, 43, 44, 45, 46, 47, 48, 49, 50, 51, 52, 53, 54, 55, 56] (by decide +kernel) (by decide +kernel)
set_option maxRecDepth 20000 in
theorem gX8_lay_X8_remember : GoodIn wsX8_lay (wsV RX8 73 RX8 yX8_remember wsX8_remember) := goodIn_app (goodIn_of _ (by decide +kernel)) ggX8_lay_X8_remember
set_option maxRecDepth 20000 in
theorem ggX8_lay_X8_take : GoodIn wsX8_lay wsX8_take := goodIn_r _ [33, 29, 5, 34, 35, 36, 37, 38, 39, 40, 41, 42, 43, 44, 45, 46, 47, 48, 49, 50, 51, 52, 53, 54, 55, 56] (by decide +kernel) (by decide +kernel)
set_option maxRecDepth 20000 in
theorem gX8_lay_X8_take : GoodIn wsX8_lay (wsV RX8 92 RX8 yX8_take wsX8_take) := goodIn_app (goodIn_of _ (by decide +kernel)) ggX8_lay_X8_take

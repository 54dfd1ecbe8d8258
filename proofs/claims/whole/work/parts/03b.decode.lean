theorem dX5_hasRange_0 : decode cX5_hasRange 0 = .ok (.iload_n 1, 1) := by decide +kernel
theorem dX5_hasRange_1 : decode cX5_hasRange 1 = .ok (.ifCond .lt 29, 3) := by decide +kernel
theorem dX5_hasRange_4 : decode cX5_hasRange 4 = .ok (.iload_n 2, 1) := by decide +kernel
theorem dX5_hasRange_5 : decode cX5_hasRange 5 = .ok (.ifCond .lt 25, 3) := by decide +kernel
theorem dX5_hasRange_8 : decode cX5_hasRange 8 = .ok (.iload_n 2, 1) := by decide +kernel
theorem dX5_hasRange_9 : decode cX5_hasRange 9 = .ok (.aload_n 0, 1) := by decide +kernel
theorem dX5_hasRange_10 : decode cX5_hasRange 10 = .ok (.getfield 19, 3) := by decide +kernel
theorem dX5_hasRange_13 : decode cX5_hasRange 13 = .ok (.if_icmp .gt 17, 3) := by decide +kernel
theorem dX5_hasRange_16 : decode cX5_hasRange 16 = .ok (.iload_n 1, 1) := by decide +kernel
theorem dX5_hasRange_17 : decode cX5_hasRange 17 = .ok (.aload_n 0, 1) := by decide +kernel
theorem dX5_hasRange_18 : decode cX5_hasRange 18 = .ok (.getfield 19, 3) := by decide +kernel
theorem dX5_hasRange_21 : decode cX5_hasRange 21 = .ok (.iload_n 2, 1) := by decide +kernel
theorem dX5_hasRange_22 : decode cX5_hasRange 22 = .ok (.isub, 1) := by decide +kernel
theorem dX5_hasRange_23 : decode cX5_hasRange 23 = .ok (.if_icmp .gt 7, 3) := by decide +kernel
theorem dX5_hasRange_26 : decode cX5_hasRange 26 = .ok (.iconst 1, 1) := by decide +kernel
theorem dX5_hasRange_27 : decode cX5_hasRange 27 = .ok (.goto 4, 3) := by decide +kernel
theorem dX5_hasRange_30 : decode cX5_hasRange 30 = .ok (.iconst 0, 1) := by decide +kernel
theorem dX5_hasRange_31 : decode cX5_hasRange 31 = .ok (.ireturn, 1) := by decide +kernel
theorem dX6_init_0 : decode cX6_init 0 = .ok (.aload_n 0, 1) := by decide +kernel
theorem dX6_init_1 : decode cX6_init 1 = .ok (.invokespecial 3, 3) := by decide +kernel
theorem dX6_init_4 : decode cX6_init 4 = .ok (.aload_n 0, 1) := by decide +kernel
theorem dX6_init_5 : decode cX6_init 5 = .ok (.iconst 5, 1) := by decide +kernel
theorem dX6_init_6 : decode cX6_init 6 = .ok (.bipush 10, 2) := by decide +kernel
theorem dX6_init_8 : decode cX6_init 8 = .ok (.multianewarray 9 2, 4) := by decide +kernel
theorem dX6_init_12 : decode cX6_init 12 = .ok (.putfield 11, 3) := by decide +kernel
theorem dX6_init_15 : decode cX6_init 15 = .ok (.return_, 1) := by decide +kernel
theorem dX6_fillRow_0 : decode cX6_fillRow 0 = .ok (.iconst 0, 1) := by decide +kernel
theorem dX6_fillRow_1 : decode cX6_fillRow 1 = .ok (.istore_n 3, 1) := by decide +kernel
theorem dX6_fillRow_2 : decode cX6_fillRow 2 = .ok (.iload_n 3, 1) := by decide +kernel
theorem dX6_fillRow_3 : decode cX6_fillRow 3 = .ok (.bipush 10, 2) := by decide +kernel
theorem dX6_fillRow_5 : decode cX6_fillRow 5 = .ok (.if_icmp .ge 21, 3) := by decide +kernel
theorem dX6_fillRow_8 : decode cX6_fillRow 8 = .ok (.aload_n 0, 1) := by decide +kernel
theorem dX6_fillRow_9 : decode cX6_fillRow 9 = .ok (.getfield 11, 3) := by decide +kernel
theorem dX6_fillRow_12 : decode cX6_fillRow 12 = .ok (.iload_n 1, 1) := by decide +kernel
theorem dX6_fillRow_13 : decode cX6_fillRow 13 = .ok (.aaload, 1) := by decide +kernel
theorem dX6_fillRow_14 : decode cX6_fillRow 14 = .ok (.iload_n 3, 1) := by decide +kernel
theorem dX6_fillRow_15 : decode cX6_fillRow 15 = .ok (.aload_n 2, 1) := by decide +kernel
theorem dX6_fillRow_16 : decode cX6_fillRow 16 = .ok (.iload_n 3, 1) := by decide +kernel
theorem dX6_fillRow_17 : decode cX6_fillRow 17 = .ok (.iaload, 1) := by decide +kernel
theorem dX6_fillRow_18 : decode cX6_fillRow 18 = .ok (.i2l, 1) := by decide +kernel
theorem dX6_fillRow_19 : decode cX6_fillRow 19 = .ok (.lastore, 1) := by decide +kernel
theorem dX6_fillRow_20 : decode cX6_fillRow 20 = .ok (.iinc 3 1, 3) := by decide +kernel
theorem dX6_fillRow_23 : decode cX6_fillRow 23 = .ok (.goto (-21), 3) := by decide +kernel
theorem dX6_fillRow_26 : decode cX6_fillRow 26 = .ok (.return_, 1) := by decide +kernel
set_option maxRecDepth 20000 in
theorem ggX6_rank_X6_raisePivot : GoodIn wsX6_rank wsX6_raisePivot := goodIn_r _ [6, 1, 7, 8, 9, 5, 10, 15] (by decide +kernel) (by decide +kernel)
set_option maxRecDepth 20000 in
theorem gX6_rank_X6_raisePivot : GoodIn wsX6_rank (wsV RX6 16 RX6 yX6_raisePivot wsX6_raisePivot) := goodIn_app (goodIn_of _ (by decide +kernel)) ggX6_rank_X6_raisePivot
set_option maxRecDepth 20000 in
theorem ggX6_rank_X6_clearBelow : GoodIn wsX6_rank wsX6_clearBelow := goodIn_r _ [14, 1, 15] (by decide +kernel) (by decide +kernel)
set_option maxRecDepth 20000 in
theorem gX6_rank_X6_clearBelow : GoodIn wsX6_rank (wsV RX6 20 RX6 yX6_clearBelow wsX6_clearBelow) := goodIn_app (goodIn_of _ (by decide +kernel)) ggX6_rank_X6_clearBelow
theorem dX6_rank_0 : decode cX6_rank 0 = .ok (.iconst 0, 1) := by decide +kernel
theorem dX6_rank_1 : decode cX6_rank 1 = .ok (.istore_n 1, 1) := by decide +kernel
theorem dX6_rank_2 : decode cX6_rank 2 = .ok (.lconst 1, 1) := by decide +kernel
theorem dX6_rank_3 : decode cX6_rank 3 = .ok (.lstore_n 2, 1) := by decide +kernel
theorem dX6_rank_4 : decode cX6_rank 4 = .ok (.iconst 0, 1) := by decide +kernel
theorem dX6_rank_5 : decode cX6_rank 5 = .ok (.istore 4, 2) := by decide +kernel
theorem dX6_rank_7 : decode cX6_rank 7 = .ok (.iload 4, 2) := by decide +kernel
theorem dX6_rank_9 : decode cX6_rank 9 = .ok (.bipush 10, 2) := by decide +kernel
theorem dX6_rank_11 : decode cX6_rank 11 = .ok (.if_icmp .ge 48, 3) := by decide +kernel
theorem dX6_rank_14 : decode cX6_rank 14 = .ok (.iload_n 1, 1) := by decide +kernel
theorem dX6_rank_15 : decode cX6_rank 15 = .ok (.iconst 5, 1) := by decide +kernel
theorem dX6_rank_16 : decode cX6_rank 16 = .ok (.if_icmp .ge 43, 3) := by decide +kernel
theorem dX6_rank_19 : decode cX6_rank 19 = .ok (.aload_n 0, 1) := by decide +kernel
theorem dX6_rank_20 : decode cX6_rank 20 = .ok (.iload_n 1, 1) := by decide +kernel
theorem dX6_rank_21 : decode cX6_rank 21 = .ok (.iload 4, 2) := by decide +kernel
theorem dX6_rank_23 : decode cX6_rank 23 = .ok (.invokevirtual 16, 3) := by decide +kernel
theorem dX6_rank_26 : decode cX6_rank 26 = .ok (.ifCond .ne 6, 3) := by decide +kernel
theorem dX6_rank_29 : decode cX6_rank 29 = .ok (.goto 24, 3) := by decide +kernel
theorem dX6_rank_32 : decode cX6_rank 32 = .ok (.aload_n 0, 1) := by decide +kernel
theorem dX6_rank_33 : decode cX6_rank 33 = .ok (.iload_n 1, 1) := by decide +kernel
theorem dX6_rank_34 : decode cX6_rank 34 = .ok (.iload 4, 2) := by decide +kernel
theorem dX6_rank_36 : decode cX6_rank 36 = .ok (.lload_n 2, 1) := by decide +kernel
theorem dX6_rank_37 : decode cX6_rank 37 = .ok (.invokevirtual 20, 3) := by decide +kernel
theorem dX6_rank_40 : decode cX6_rank 40 = .ok (.aload_n 0, 1) := by decide +kernel
theorem dX6_rank_41 : decode cX6_rank 41 = .ok (.getfield 11, 3) := by decide +kernel
theorem dX6_rank_44 : decode cX6_rank 44 = .ok (.iload_n 1, 1) := by decide +kernel
theorem dX6_rank_45 : decode cX6_rank 45 = .ok (.aaload, 1) := by decide +kernel
theorem dX6_rank_46 : decode cX6_rank 46 = .ok (.iload 4, 2) := by decide +kernel
theorem dX6_rank_48 : decode cX6_rank 48 = .ok (.laload, 1) := by decide +kernel
theorem dX6_rank_49 : decode cX6_rank 49 = .ok (.lstore_n 2, 1) := by decide +kernel
theorem dX6_rank_50 : decode cX6_rank 50 = .ok (.iinc 1 1, 3) := by decide +kernel
theorem dX6_rank_53 : decode cX6_rank 53 = .ok (.iinc 4 1, 3) := by decide +kernel
theorem dX6_rank_56 : decode cX6_rank 56 = .ok (.goto (-49), 3) := by decide +kernel
theorem dX6_rank_59 : decode cX6_rank 59 = .ok (.iload_n 1, 1) := by decide +kernel
theorem dX6_rank_60 : decode cX6_rank 60 = .ok (.ireturn, 1) := by decide +kernel
set_option maxRecDepth 20000 in
theorem ggX6_raisePivot_X6_swapRows : GoodIn wsX6_raisePivot wsX6_swapRows := goodIn_r _ [6, 1, 7] (by decide +kernel) (by decide +kernel)
set_option maxRecDepth 20000 in
theorem gX6_raisePivot_X6_swapRows : GoodIn wsX6_raisePivot (wsV RX6 24 RX6 yX6_swapRows wsX6_swapRows) := goodIn_app (goodIn_of _ (by decide +kernel)) ggX6_raisePivot_X6_swapRows
theorem dX6_raisePivot_0 : decode cX6_raisePivot 0 = .ok (.iload_n 1, 1) := by decide +kernel
theorem dX6_raisePivot_1 : decode cX6_raisePivot 1 = .ok (.istore_n 3, 1) := by decide +kernel
theorem dX6_raisePivot_2 : decode cX6_raisePivot 2 = .ok (.iload_n 3, 1) := by decide +kernel
theorem dX6_raisePivot_3 : decode cX6_raisePivot 3 = .ok (.iconst 5, 1) := by decide +kernel
theorem dX6_raisePivot_4 : decode cX6_raisePivot 4 = .ok (.if_icmp .ge 30, 3) := by decide +kernel
theorem dX6_raisePivot_7 : decode cX6_raisePivot 7 = .ok (.aload_n 0, 1) := by decide +kernel
theorem dX6_raisePivot_8 : decode cX6_raisePivot 8 = .ok (.getfield 11, 3) := by decide +kernel
theorem dX6_raisePivot_11 : decode cX6_raisePivot 11 = .ok (.iload_n 3, 1) := by decide +kernel
theorem dX6_raisePivot_12 : decode cX6_raisePivot 12 = .ok (.aaload, 1) := by decide +kernel
theorem dX6_raisePivot_13 : decode cX6_raisePivot 13 = .ok (.iload_n 2, 1) := by decide +kernel
theorem dX6_raisePivot_14 : decode cX6_raisePivot 14 = .ok (.laload, 1) := by decide +kernel
theorem dX6_raisePivot_15 : decode cX6_raisePivot 15 = .ok (.lconst 0, 1) := by decide +kernel
theorem dX6_raisePivot_16 : decode cX6_raisePivot 16 = .ok (.lcmp, 1) := by decide +kernel
theorem dX6_raisePivot_17 : decode cX6_raisePivot 17 = .ok (.ifCond .eq 11, 3) := by decide +kernel
theorem dX6_raisePivot_20 : decode cX6_raisePivot 20 = .ok (.aload_n 0, 1) := by decide +kernel
theorem dX6_raisePivot_21 : decode cX6_raisePivot 21 = .ok (.iload_n 3, 1) := by decide +kernel
theorem dX6_raisePivot_22 : decode cX6_raisePivot 22 = .ok (.iload_n 1, 1) := by decide +kernel
theorem dX6_raisePivot_23 : decode cX6_raisePivot 23 = .ok (.invokevirtual 24, 3) := by decide +kernel
theorem dX6_raisePivot_26 : decode cX6_raisePivot 26 = .ok (.iconst 1, 1) := by decide +kernel
theorem dX6_raisePivot_27 : decode cX6_raisePivot 27 = .ok (.ireturn, 1) := by decide +kernel
theorem dX6_raisePivot_28 : decode cX6_raisePivot 28 = .ok (.iinc 3 1, 3) := by decide +kernel
theorem dX6_raisePivot_31 : decode cX6_raisePivot 31 = .ok (.goto (-29), 3) := by decide +kernel
theorem dX6_raisePivot_34 : decode cX6_raisePivot 34 = .ok (.iconst 0, 1) := by decide +kernel
theorem dX6_raisePivot_35 : decode cX6_raisePivot 35 = .ok (.ireturn, 1) := by decide +kernel
theorem dX6_swapRows_0 : decode cX6_swapRows 0 = .ok (.iconst 0, 1) := by decide +kernel
theorem dX6_swapRows_1 : decode cX6_swapRows 1 = .ok (.istore_n 3, 1) := by decide +kernel
theorem dX6_swapRows_2 : decode cX6_swapRows 2 = .ok (.iload_n 3, 1) := by decide +kernel
theorem dX6_swapRows_3 : decode cX6_swapRows 3 = .ok (.bipush 10, 2) := by decide +kernel
theorem dX6_swapRows_5 : decode cX6_swapRows 5 = .ok (.if_icmp .ge 45, 3) := by decide +kernel
theorem dX6_swapRows_8 : decode cX6_swapRows 8 = .ok (.aload_n 0, 1) := by decide +kernel
theorem dX6_swapRows_9 : decode cX6_swapRows 9 = .ok (.getfield 11, 3) := by decide +kernel
theorem dX6_swapRows_12 : decode cX6_swapRows 12 = .ok (.iload_n 1, 1) := by decide +kernel
theorem dX6_swapRows_13 : decode cX6_swapRows 13 = .ok (.aaload, 1) := by decide +kernel
theorem dX6_swapRows_14 : decode cX6_swapRows 14 = .ok (.iload_n 3, 1) := by decide +kernel
theorem dX6_swapRows_15 : decode cX6_swapRows 15 = .ok (.laload, 1) := by decide +kernel
theorem dX6_swapRows_16 : decode cX6_swapRows 16 = .ok (.lstore 4, 2) := by decide +kernel
theorem dX6_swapRows_18 : decode cX6_swapRows 18 = .ok (.aload_n 0, 1) := by decide +kernel
theorem dX6_swapRows_19 : decode cX6_swapRows 19 = .ok (.getfield 11, 3) := by decide +kernel
theorem dX6_swapRows_22 : decode cX6_swapRows 22 = .ok (.iload_n 1, 1) := by decide +kernel
theorem dX6_swapRows_23 : decode cX6_swapRows 23 = .ok (.aaload, 1) := by decide +kernel
theorem dX6_swapRows_24 : decode cX6_swapRows 24 = .ok (.iload_n 3, 1) := by decide +kernel
theorem dX6_swapRows_25 : decode cX6_swapRows 25 = .ok (.aload_n 0, 1) := by decide +kernel
theorem dX6_swapRows_26 : decode cX6_swapRows 26 = .ok (.getfield 11, 3) := by decide +kernel
theorem dX6_swapRows_29 : decode cX6_swapRows 29 = .ok (.iload_n 2, 1) := by decide +kernel
theorem dX6_swapRows_30 : decode cX6_swapRows 30 = .ok (.aaload, 1) := by decide +kernel
theorem dX6_swapRows_31 : decode cX6_swapRows 31 = .ok (.iload_n 3, 1) := by decide +kernel
theorem dX6_swapRows_32 : decode cX6_swapRows 32 = .ok (.laload, 1) := by decide +kernel
theorem dX6_swapRows_33 : decode cX6_swapRows 33 = .ok (.lastore, 1) := by decide +kernel
theorem dX6_swapRows_34 : decode cX6_swapRows 34 = .ok (.aload_n 0, 1) := by decide +kernel
theorem dX6_swapRows_35 : decode cX6_swapRows 35 = .ok (.getfield 11, 3) := by decide +kernel
theorem dX6_swapRows_38 : decode cX6_swapRows 38 = .ok (.iload_n 2, 1) := by decide +kernel
theorem dX6_swapRows_39 : decode cX6_swapRows 39 = .ok (.aaload, 1) := by decide +kernel
theorem dX6_swapRows_40 : decode cX6_swapRows 40 = .ok (.iload_n 3, 1) := by decide +kernel
theorem dX6_swapRows_41 : decode cX6_swapRows 41 = .ok (.lload 4, 2) := by decide +kernel
theorem dX6_swapRows_43 : decode cX6_swapRows 43 = .ok (.lastore, 1) := by decide +kernel
theorem dX6_swapRows_44 : decode cX6_swapRows 44 = .ok (.iinc 3 1, 3) := by decide +kernel
theorem dX6_swapRows_47 : decode cX6_swapRows 47 = .ok (.goto (-45), 3) := by decide +kernel
theorem dX6_swapRows_50 : decode cX6_swapRows 50 = .ok (.return_, 1) := by decide +kernel
theorem dX6_clearBelow_0 : decode cX6_clearBelow 0 = .ok (.aload_n 0, 1) := by decide +kernel
theorem dX6_clearBelow_1 : decode cX6_clearBelow 1 = .ok (.getfield 11, 3) := by decide +kernel
theorem dX6_clearBelow_4 : decode cX6_clearBelow 4 = .ok (.iload_n 1, 1) := by decide +kernel
theorem dX6_clearBelow_5 : decode cX6_clearBelow 5 = .ok (.aaload, 1) := by decide +kernel
theorem dX6_clearBelow_6 : decode cX6_clearBelow 6 = .ok (.iload_n 2, 1) := by decide +kernel
theorem dX6_clearBelow_7 : decode cX6_clearBelow 7 = .ok (.laload, 1) := by decide +kernel
theorem dX6_clearBelow_8 : decode cX6_clearBelow 8 = .ok (.lstore 5, 2) := by decide +kernel
theorem dX6_clearBelow_10 : decode cX6_clearBelow 10 = .ok (.iload_n 1, 1) := by decide +kernel
theorem dX6_clearBelow_11 : decode cX6_clearBelow 11 = .ok (.iconst 1, 1) := by decide +kernel
theorem dX6_clearBelow_12 : decode cX6_clearBelow 12 = .ok (.iadd, 1) := by decide +kernel
theorem dX6_clearBelow_13 : decode cX6_clearBelow 13 = .ok (.istore 7, 2) := by decide +kernel
theorem dX6_clearBelow_15 : decode cX6_clearBelow 15 = .ok (.iload 7, 2) := by decide +kernel
theorem dX6_clearBelow_17 : decode cX6_clearBelow 17 = .ok (.iconst 5, 1) := by decide +kernel
theorem dX6_clearBelow_18 : decode cX6_clearBelow 18 = .ok (.if_icmp .ge 89, 3) := by decide +kernel
theorem dX6_clearBelow_21 : decode cX6_clearBelow 21 = .ok (.aload_n 0, 1) := by decide +kernel
theorem dX6_clearBelow_22 : decode cX6_clearBelow 22 = .ok (.getfield 11, 3) := by decide +kernel
theorem dX6_clearBelow_25 : decode cX6_clearBelow 25 = .ok (.iload 7, 2) := by decide +kernel
theorem dX6_clearBelow_27 : decode cX6_clearBelow 27 = .ok (.aaload, 1) := by decide +kernel
theorem dX6_clearBelow_28 : decode cX6_clearBelow 28 = .ok (.iload_n 2, 1) := by decide +kernel
theorem dX6_clearBelow_29 : decode cX6_clearBelow 29 = .ok (.laload, 1) := by decide +kernel
theorem dX6_clearBelow_30 : decode cX6_clearBelow 30 = .ok (.lstore 8, 2) := by decide +kernel
theorem dX6_clearBelow_32 : decode cX6_clearBelow 32 = .ok (.iload_n 2, 1) := by decide +kernel
theorem dX6_clearBelow_33 : decode cX6_clearBelow 33 = .ok (.istore 10, 2) := by decide +kernel
theorem dX6_clearBelow_35 : decode cX6_clearBelow 35 = .ok (.iload 10, 2) := by decide +kernel
theorem dX6_clearBelow_37 : decode cX6_clearBelow 37 = .ok (.bipush 10, 2) := by decide +kernel
theorem dX6_clearBelow_39 : decode cX6_clearBelow 39 = .ok (.if_icmp .ge 62, 3) := by decide +kernel
theorem dX6_clearBelow_42 : decode cX6_clearBelow 42 = .ok (.aload_n 0, 1) := by decide +kernel
theorem dX6_clearBelow_43 : decode cX6_clearBelow 43 = .ok (.getfield 11, 3) := by decide +kernel
theorem dX6_clearBelow_46 : decode cX6_clearBelow 46 = .ok (.iload 7, 2) := by decide +kernel
theorem dX6_clearBelow_48 : decode cX6_clearBelow 48 = .ok (.aaload, 1) := by decide +kernel
theorem dX6_clearBelow_49 : decode cX6_clearBelow 49 = .ok (.iload 10, 2) := by decide +kernel
theorem dX6_clearBelow_51 : decode cX6_clearBelow 51 = .ok (.laload, 1) := by decide +kernel
theorem dX6_clearBelow_52 : decode cX6_clearBelow 52 = .ok (.lload 5, 2) := by decide +kernel
theorem dX6_clearBelow_54 : decode cX6_clearBelow 54 = .ok (.lmul, 1) := by decide +kernel
theorem dX6_clearBelow_55 : decode cX6_clearBelow 55 = .ok (.lload 8, 2) := by decide +kernel
theorem dX6_clearBelow_57 : decode cX6_clearBelow 57 = .ok (.aload_n 0, 1) := by decide +kernel
theorem dX6_clearBelow_58 : decode cX6_clearBelow 58 = .ok (.getfield 11, 3) := by decide +kernel
theorem dX6_clearBelow_61 : decode cX6_clearBelow 61 = .ok (.iload_n 1, 1) := by decide +kernel
theorem dX6_clearBelow_62 : decode cX6_clearBelow 62 = .ok (.aaload, 1) := by decide +kernel
theorem dX6_clearBelow_63 : decode cX6_clearBelow 63 = .ok (.iload 10, 2) := by decide +kernel
theorem dX6_clearBelow_65 : decode cX6_clearBelow 65 = .ok (.laload, 1) := by decide +kernel
theorem dX6_clearBelow_66 : decode cX6_clearBelow 66 = .ok (.lmul, 1) := by decide +kernel
theorem dX6_clearBelow_67 : decode cX6_clearBelow 67 = .ok (.lsub, 1) := by decide +kernel
theorem dX6_clearBelow_68 : decode cX6_clearBelow 68 = .ok (.lstore 11, 2) := by decide +kernel
theorem dX6_clearBelow_70 : decode cX6_clearBelow 70 = .ok (.aload_n 0, 1) := by decide +kernel
theorem dX6_clearBelow_71 : decode cX6_clearBelow 71 = .ok (.getfield 11, 3) := by decide +kernel
theorem dX6_clearBelow_74 : decode cX6_clearBelow 74 = .ok (.iload 7, 2) := by decide +kernel
theorem dX6_clearBelow_76 : decode cX6_clearBelow 76 = .ok (.aaload, 1) := by decide +kernel
theorem dX6_clearBelow_77 : decode cX6_clearBelow 77 = .ok (.iload 10, 2) := by decide +kernel
theorem dX6_clearBelow_79 : decode cX6_clearBelow 79 = .ok (.lload_n 3, 1) := by decide +kernel
theorem dX6_clearBelow_80 : decode cX6_clearBelow 80 = .ok (.lconst 0, 1) := by decide +kernel
theorem dX6_clearBelow_81 : decode cX6_clearBelow 81 = .ok (.lcmp, 1) := by decide +kernel
theorem dX6_clearBelow_82 : decode cX6_clearBelow 82 = .ok (.ifCond .ne 8, 3) := by decide +kernel
theorem dX6_clearBelow_85 : decode cX6_clearBelow 85 = .ok (.lload 11, 2) := by decide +kernel
theorem dX6_clearBelow_87 : decode cX6_clearBelow 87 = .ok (.goto 7, 3) := by decide +kernel
theorem dX6_clearBelow_90 : decode cX6_clearBelow 90 = .ok (.lload 11, 2) := by decide +kernel
theorem dX6_clearBelow_92 : decode cX6_clearBelow 92 = .ok (.lload_n 3, 1) := by decide +kernel
theorem dX6_clearBelow_93 : decode cX6_clearBelow 93 = .ok (.ldiv, 1) := by decide +kernel
theorem dX6_clearBelow_94 : decode cX6_clearBelow 94 = .ok (.lastore, 1) := by decide +kernel
theorem dX6_clearBelow_95 : decode cX6_clearBelow 95 = .ok (.iinc 10 1, 3) := by decide +kernel
theorem dX6_clearBelow_98 : decode cX6_clearBelow 98 = .ok (.goto (-63), 3) := by decide +kernel
theorem dX6_clearBelow_101 : decode cX6_clearBelow 101 = .ok (.iinc 7 1, 3) := by decide +kernel
theorem dX6_clearBelow_104 : decode cX6_clearBelow 104 = .ok (.goto (-89), 3) := by decide +kernel
theorem dX6_clearBelow_107 : decode cX6_clearBelow 107 = .ok (.return_, 1) := by decide +kernel
set_option maxRecDepth 20000 in
theorem ggX7_init_X1_init : GoodIn wsX7_init wsX1_init := goodIn_r _ [37, 38, 2, 3, 39, 40, 41, 42, 43, 44, 45, 46, 18, 47, 104, 76, 77] (by decide +kernel) (by decide +kernel)
set_option maxRecDepth 20000 in
theorem gX7_init_X1_init_n9 : GoodIn wsX7_init (wsX1_init) := ggX7_init_X1_init
set_option maxRecDepth 20000 in
theorem ggX7_init_X0_init : GoodIn wsX7_init wsX0_init := goodIn_r _ [49, 50, 2, 3, 18, 51, 52, 53, 91, 92, 93] (by decide +kernel) (by decide +kernel)
set_option maxRecDepth 20000 in
theorem gX7_init_X0_init_n21 : GoodIn wsX7_init (wsX0_init) := ggX7_init_X0_init
set_option maxRecDepth 20000 in
theorem ggX7_init_X2_init : GoodIn wsX7_init wsX2_init := goodIn_r _ [55, 56, 2, 3, 57, 18, 58, 59, 60, 94, 95, 96] (by decide +kernel) (by decide +kernel)
set_option maxRecDepth 20000 in
theorem gX7_init_X2_init_n28 : GoodIn wsX7_init (wsX2_init) := ggX7_init_X2_init
set_option maxRecDepth 20000 in
theorem ggX7_init_X5_init : GoodIn wsX7_init wsX5_init := goodIn_r _ [62, 63, 2, 3, 18, 64, 65, 66, 97, 98, 99] (by decide +kernel) (by decide +kernel)
set_option maxRecDepth 20000 in
theorem gX7_init_X5_init_n47 : GoodIn wsX7_init (wsX5_init) := ggX7_init_X5_init
set_option maxRecDepth 20000 in
theorem ggX7_init_X4_init : GoodIn wsX7_init wsX4_init := goodIn_r _ [68, 69, 2, 3] (by decide +kernel) (by decide +kernel)
set_option maxRecDepth 20000 in
theorem gX7_init_X4_init_n50 : GoodIn wsX7_init (wsX4_init) := ggX7_init_X4_init
set_option maxRecDepth 20000 in
theorem ggX7_init_X6_init : GoodIn wsX7_init wsX6_init := goodIn_r _ [71, 72, 2, 3, 73, 74, 75, 103] (by decide +kernel) (by decide +kernel)
set_option maxRecDepth 20000 in
theorem gX7_init_X6_init_n66 : GoodIn wsX7_init (wsX6_init) := ggX7_init_X6_init
theorem dX7_init_0 : decode cX7_init 0 = .ok (.aload_n 0, 1) := by decide +kernel
theorem dX7_init_1 : decode cX7_init 1 = .ok (.invokespecial 1, 3) := by decide +kernel
theorem dX7_init_4 : decode cX7_init 4 = .ok (.aload_n 0, 1) := by decide +kernel
theorem dX7_init_5 : decode cX7_init 5 = .ok (.new 7, 3) := by decide +kernel
theorem dX7_init_8 : decode cX7_init 8 = .ok (.dup, 1) := by decide +kernel
theorem dX7_init_9 : decode cX7_init 9 = .ok (.invokespecial 9, 3) := by decide +kernel
theorem dX7_init_12 : decode cX7_init 12 = .ok (.putfield 10, 3) := by decide +kernel
theorem dX7_init_15 : decode cX7_init 15 = .ok (.aload_n 0, 1) := by decide +kernel
theorem dX7_init_16 : decode cX7_init 16 = .ok (.new 7, 3) := by decide +kernel
theorem dX7_init_19 : decode cX7_init 19 = .ok (.dup, 1) := by decide +kernel
theorem dX7_init_20 : decode cX7_init 20 = .ok (.invokespecial 9, 3) := by decide +kernel
theorem dX7_init_23 : decode cX7_init 23 = .ok (.putfield 16, 3) := by decide +kernel
theorem dX7_init_26 : decode cX7_init 26 = .ok (.aload_n 0, 1) := by decide +kernel
theorem dX7_init_27 : decode cX7_init 27 = .ok (.new 19, 3) := by decide +kernel
theorem dX7_init_30 : decode cX7_init 30 = .ok (.dup, 1) := by decide +kernel
theorem dX7_init_31 : decode cX7_init 31 = .ok (.invokespecial 21, 3) := by decide +kernel
theorem dX7_init_34 : decode cX7_init 34 = .ok (.putfield 22, 3) := by decide +kernel
theorem dX7_init_37 : decode cX7_init 37 = .ok (.aload_n 0, 1) := by decide +kernel
theorem dX7_init_38 : decode cX7_init 38 = .ok (.new 26, 3) := by decide +kernel
theorem dX7_init_41 : decode cX7_init 41 = .ok (.dup, 1) := by decide +kernel
theorem dX7_init_42 : decode cX7_init 42 = .ok (.invokespecial 28, 3) := by decide +kernel
theorem dX7_init_45 : decode cX7_init 45 = .ok (.putfield 29, 3) := by decide +kernel
theorem dX7_init_48 : decode cX7_init 48 = .ok (.aload_n 0, 1) := by decide +kernel
theorem dX7_init_49 : decode cX7_init 49 = .ok (.iconst 4, 1) := by decide +kernel
theorem dX7_init_50 : decode cX7_init 50 = .ok (.anewarray 7, 3) := by decide +kernel
theorem dX7_init_53 : decode cX7_init 53 = .ok (.putfield 33, 3) := by decide +kernel
theorem dX7_init_56 : decode cX7_init 56 = .ok (.aload_n 0, 1) := by decide +kernel
theorem dX7_init_57 : decode cX7_init 57 = .ok (.iconst 4, 1) := by decide +kernel
theorem dX7_init_58 : decode cX7_init 58 = .ok (.newarray .int, 2) := by decide +kernel
theorem dX7_init_60 : decode cX7_init 60 = .ok (.putfield 37, 3) := by decide +kernel
theorem dX7_init_63 : decode cX7_init 63 = .ok (.iconst 0, 1) := by decide +kernel
theorem dX7_init_64 : decode cX7_init 64 = .ok (.istore_n 1, 1) := by decide +kernel
theorem dX7_init_65 : decode cX7_init 65 = .ok (.iload_n 1, 1) := by decide +kernel
theorem dX7_init_66 : decode cX7_init 66 = .ok (.iconst 4, 1) := by decide +kernel
theorem dX7_init_67 : decode cX7_init 67 = .ok (.if_icmp .ge 29, 3) := by decide +kernel
theorem dX7_init_70 : decode cX7_init 70 = .ok (.aload_n 0, 1) := by decide +kernel
theorem dX7_init_71 : decode cX7_init 71 = .ok (.getfield 33, 3) := by decide +kernel
theorem dX7_init_74 : decode cX7_init 74 = .ok (.iload_n 1, 1) := by decide +kernel
theorem dX7_init_75 : decode cX7_init 75 = .ok (.new 7, 3) := by decide +kernel
theorem dX7_init_78 : decode cX7_init 78 = .ok (.dup, 1) := by decide +kernel
theorem dX7_init_79 : decode cX7_init 79 = .ok (.invokespecial 9, 3) := by decide +kernel
theorem dX7_init_82 : decode cX7_init 82 = .ok (.aastore, 1) := by decide +kernel
theorem dX7_init_83 : decode cX7_init 83 = .ok (.aload_n 0, 1) := by decide +kernel
theorem dX7_init_84 : decode cX7_init 84 = .ok (.getfield 37, 3) := by decide +kernel
theorem dX7_init_87 : decode cX7_init 87 = .ok (.iload_n 1, 1) := by decide +kernel
theorem dX7_init_88 : decode cX7_init 88 = .ok (.iconst (-1), 1) := by decide +kernel
theorem dX7_init_89 : decode cX7_init 89 = .ok (.iastore, 1) := by decide +kernel
theorem dX7_init_90 : decode cX7_init 90 = .ok (.iinc 1 1, 3) := by decide +kernel
theorem dX7_init_93 : decode cX7_init 93 = .ok (.goto (-28), 3) := by decide +kernel
theorem dX7_init_96 : decode cX7_init 96 = .ok (.aload_n 0, 1) := by decide +kernel
theorem dX7_init_97 : decode cX7_init 97 = .ok (.iconst 4, 1) := by decide +kernel
theorem dX7_init_98 : decode cX7_init 98 = .ok (.anewarray 41, 3) := by decide +kernel
theorem dX7_init_101 : decode cX7_init 101 = .ok (.putfield 43, 3) := by decide +kernel
theorem dX7_init_104 : decode cX7_init 104 = .ok (.iconst 0, 1) := by decide +kernel
theorem dX7_init_105 : decode cX7_init 105 = .ok (.istore_n 1, 1) := by decide +kernel
theorem dX7_init_106 : decode cX7_init 106 = .ok (.iload_n 1, 1) := by decide +kernel
theorem dX7_init_107 : decode cX7_init 107 = .ok (.iconst 4, 1) := by decide +kernel
theorem dX7_init_108 : decode cX7_init 108 = .ok (.if_icmp .ge 22, 3) := by decide +kernel
theorem dX7_init_111 : decode cX7_init 111 = .ok (.aload_n 0, 1) := by decide +kernel
theorem dX7_init_112 : decode cX7_init 112 = .ok (.getfield 43, 3) := by decide +kernel
theorem dX7_init_115 : decode cX7_init 115 = .ok (.iload_n 1, 1) := by decide +kernel
theorem dX7_init_116 : decode cX7_init 116 = .ok (.new 41, 3) := by decide +kernel
theorem dX7_init_119 : decode cX7_init 119 = .ok (.dup, 1) := by decide +kernel
theorem dX7_init_120 : decode cX7_init 120 = .ok (.invokespecial 47, 3) := by decide +kernel
theorem dX7_init_123 : decode cX7_init 123 = .ok (.aastore, 1) := by decide +kernel
theorem dX7_init_124 : decode cX7_init 124 = .ok (.iinc 1 1, 3) := by decide +kernel
theorem dX7_init_127 : decode cX7_init 127 = .ok (.goto (-21), 3) := by decide +kernel
theorem dX7_init_130 : decode cX7_init 130 = .ok (.aload_n 0, 1) := by decide +kernel
theorem dX7_init_131 : decode cX7_init 131 = .ok (.new 48, 3) := by decide +kernel
theorem dX7_init_134 : decode cX7_init 134 = .ok (.dup, 1) := by decide +kernel
theorem dX7_init_135 : decode cX7_init 135 = .ok (.invokespecial 50, 3) := by decide +kernel
theorem dX7_init_138 : decode cX7_init 138 = .ok (.putfield 51, 3) := by decide +kernel
theorem dX7_init_141 : decode cX7_init 141 = .ok (.aload_n 0, 1) := by decide +kernel
theorem dX7_init_142 : decode cX7_init 142 = .ok (.new 48, 3) := by decide +kernel
theorem dX7_init_145 : decode cX7_init 145 = .ok (.dup, 1) := by decide +kernel
theorem dX7_init_146 : decode cX7_init 146 = .ok (.invokespecial 50, 3) := by decide +kernel
theorem dX7_init_149 : decode cX7_init 149 = .ok (.putfield 55, 3) := by decide +kernel
theorem dX7_init_152 : decode cX7_init 152 = .ok (.aload_n 0, 1) := by decide +kernel
theorem dX7_init_153 : decode cX7_init 153 = .ok (.new 48, 3) := by decide +kernel
theorem dX7_init_156 : decode cX7_init 156 = .ok (.dup, 1) := by decide +kernel
theorem dX7_init_157 : decode cX7_init 157 = .ok (.invokespecial 50, 3) := by decide +kernel
theorem dX7_init_160 : decode cX7_init 160 = .ok (.putfield 58, 3) := by decide +kernel
theorem dX7_init_163 : decode cX7_init 163 = .ok (.aload_n 0, 1) := by decide +kernel
theorem dX7_init_164 : decode cX7_init 164 = .ok (.bipush 10, 2) := by decide +kernel
theorem dX7_init_166 : decode cX7_init 166 = .ok (.newarray .int, 2) := by decide +kernel
theorem dX7_init_168 : decode cX7_init 168 = .ok (.putfield 61, 3) := by decide +kernel
theorem dX7_init_171 : decode cX7_init 171 = .ok (.aload_n 0, 1) := by decide +kernel
theorem dX7_init_172 : decode cX7_init 172 = .ok (.new 64, 3) := by decide +kernel
theorem dX7_init_175 : decode cX7_init 175 = .ok (.dup, 1) := by decide +kernel
theorem dX7_init_176 : decode cX7_init 176 = .ok (.invokespecial 66, 3) := by decide +kernel
theorem dX7_init_179 : decode cX7_init 179 = .ok (.putfield 67, 3) := by decide +kernel
theorem dX7_init_182 : decode cX7_init 182 = .ok (.aload_n 0, 1) := by decide +kernel
theorem dX7_init_183 : decode cX7_init 183 = .ok (.iconst 0, 1) := by decide +kernel
theorem dX7_init_184 : decode cX7_init 184 = .ok (.putfield 71, 3) := by decide +kernel
theorem dX7_init_187 : decode cX7_init 187 = .ok (.return_, 1) := by decide +kernel
set_option maxRecDepth 20000 in
theorem ggX7_put_X7_isNumberIndex : GoodIn wsX7_put wsX7_isNumberIndex := goodIn_r _ [8] (by decide +kernel) (by decide +kernel)
set_option maxRecDepth 20000 in
theorem gX7_put_X7_isNumberIndex : GoodIn wsX7_put (va_wsS RX7 75 yX7_isNumberIndex wsX7_isNumberIndex) := goodIn_app (goodIn_of _ (by decide +kernel)) ggX7_put_X7_isNumberIndex
set_option maxRecDepth 20000 in
theorem ggX7_put_X7_isWithin : GoodIn wsX7_put wsX7_isWithin := goodIn_r _ [11] (by decide +kernel) (by decide +kernel)
set_option maxRecDepth 20000 in
theorem gX7_put_X7_isWithin : GoodIn wsX7_put (va_wsS RX7 79 yX7_isWithin wsX7_isWithin) := goodIn_app (goodIn_of _ (by decide +kernel)) ggX7_put_X7_isWithin
set_option maxRecDepth 20000 in
theorem ggX7_put_X7_finding : GoodIn wsX7_put wsX7_finding := goodIn_r _ [15, 16, 63, 64, 65, 66, 67, 68, 69, 70, 71, 72, 73, 74, 75] (by decide +kernel) (by decide +kernel)
set_option maxRecDepth 20000 in
theorem gX7_put_X7_finding : GoodIn wsX7_put (wsV RX7 84 RX7 yX7_finding wsX7_finding) := goodIn_app (goodIn_of _ (by decide +kernel)) ggX7_put_X7_finding
set_option maxRecDepth 20000 in
theorem ggX7_put_X1_become : GoodIn wsX7_put wsX1_become := goodIn_r _ [21, 22, 23, 24, 25, 26, 27, 28, 29, 30, 31, 32, 33, 77, 78, 76] (by decide +kernel) (by decide +kernel)
set_option maxRecDepth 20000 in
theorem gX7_put_X1_become : GoodIn wsX7_put (wsV RX7 88 RX1 yX1_become wsX1_become) := goodIn_app (goodIn_of _ (by decide +kernel)) ggX7_put_X1_become
set_option maxRecDepth 20000 in
theorem ggX7_put_X1_part : GoodIn wsX7_put wsX1_part := goodIn_r _ [37, 23, 22, 77, 78] (by decide +kernel) (by decide +kernel)
set_option maxRecDepth 20000 in
theorem gX7_put_X1_part : GoodIn wsX7_put (wsV RX7 92 RX1 yX1_part wsX1_part) := goodIn_app (goodIn_of _ (by decide +kernel)) ggX7_put_X1_part
set_option maxRecDepth 20000 in
theorem ggX7_put_X7_takeDraft : GoodIn wsX7_put wsX7_takeDraft := goodIn_r _ [41, 42, 3, 43, 2, 44, 45, 46, 47, 48, 49, 50, 51, 52, 53, 54, 55, 56, 57, 58, 31, 32, 33, 59, 60, 61, 62, 17, 18, 19, 20, 21, 22, 23, 24, 25, 26, 27, 28, 29, 30, 63, 64, 65, 66, 67, 68, 69, 70, 71, 72, 73, 74, 75, 79, 80, 81, 77, 78, 76, 82, 83, 84] (by decide +kernel) (by decide +kernel)
set_option maxRecDepth 20000 in
theorem gX7_put_X7_takeDraft : GoodIn wsX7_put (wsV RX7 101 RX7 yX7_takeDraft wsX7_takeDraft) := goodIn_app (goodIn_of _ (by decide +kernel)) ggX7_put_X7_takeDraft
theorem dX7_put_0 : decode cX7_put 0 = .ok (.iload_n 2, 1) := by decide +kernel
theorem dX7_put_1 : decode cX7_put 1 = .ok (.invokestatic 75, 3) := by decide +kernel
theorem dX7_put_4 : decode cX7_put 4 = .ok (.ifCond .eq 11, 3) := by decide +kernel
theorem dX7_put_7 : decode cX7_put 7 = .ok (.iload_n 3, 1) := by decide +kernel
theorem dX7_put_8 : decode cX7_put 8 = .ok (.iconst 4, 1) := by decide +kernel
theorem dX7_put_9 : decode cX7_put 9 = .ok (.invokestatic 79, 3) := by decide +kernel
theorem dX7_put_12 : decode cX7_put 12 = .ok (.ifCond .ne 10, 3) := by decide +kernel
theorem dX7_put_15 : decode cX7_put 15 = .ok (.aload_n 0, 1) := by decide +kernel
theorem dX7_put_16 : decode cX7_put 16 = .ok (.ldc 83, 2) := by decide +kernel
theorem dX7_put_18 : decode cX7_put 18 = .ok (.invokevirtual 84, 3) := by decide +kernel
theorem dX7_put_21 : decode cX7_put 21 = .ok (.ireturn, 1) := by decide +kernel
theorem dX7_put_22 : decode cX7_put 22 = .ok (.aload_n 0, 1) := by decide +kernel
theorem dX7_put_23 : decode cX7_put 23 = .ok (.getfield 16, 3) := by decide +kernel
theorem dX7_put_26 : decode cX7_put 26 = .ok (.aload_n 0, 1) := by decide +kernel
theorem dX7_put_27 : decode cX7_put 27 = .ok (.getfield 10, 3) := by decide +kernel
theorem dX7_put_30 : decode cX7_put 30 = .ok (.invokevirtual 88, 3) := by decide +kernel
theorem dX7_put_33 : decode cX7_put 33 = .ok (.aload_n 0, 1) := by decide +kernel
theorem dX7_put_34 : decode cX7_put 34 = .ok (.getfield 16, 3) := by decide +kernel
theorem dX7_put_37 : decode cX7_put 37 = .ok (.iload_n 1, 1) := by decide +kernel
theorem dX7_put_38 : decode cX7_put 38 = .ok (.invokevirtual 92, 3) := by decide +kernel
theorem dX7_put_41 : decode cX7_put 41 = .ok (.getfield 96, 3) := by decide +kernel
theorem dX7_put_44 : decode cX7_put 44 = .ok (.astore 4, 2) := by decide +kernel
theorem dX7_put_46 : decode cX7_put 46 = .ok (.aload 4, 2) := by decide +kernel
theorem dX7_put_48 : decode cX7_put 48 = .ok (.iload_n 2, 1) := by decide +kernel
theorem dX7_put_49 : decode cX7_put 49 = .ok (.iaload, 1) := by decide +kernel
theorem dX7_put_50 : decode cX7_put 50 = .ok (.istore 5, 2) := by decide +kernel
theorem dX7_put_52 : decode cX7_put 52 = .ok (.aload 4, 2) := by decide +kernel
theorem dX7_put_54 : decode cX7_put 54 = .ok (.iload_n 2, 1) := by decide +kernel
theorem dX7_put_55 : decode cX7_put 55 = .ok (.iload_n 3, 1) := by decide +kernel
theorem dX7_put_56 : decode cX7_put 56 = .ok (.iastore, 1) := by decide +kernel
theorem dX7_put_57 : decode cX7_put 57 = .ok (.aload_n 0, 1) := by decide +kernel
theorem dX7_put_58 : decode cX7_put 58 = .ok (.iload 5, 2) := by decide +kernel
theorem dX7_put_60 : decode cX7_put 60 = .ok (.invokevirtual 101, 3) := by decide +kernel
theorem dX7_put_63 : decode cX7_put 63 = .ok (.ireturn, 1) := by decide +kernel
set_option maxRecDepth 20000 in
theorem ggX7_number_X7_isNumberIndex : GoodIn wsX7_number wsX7_isNumberIndex := goodIn_r _ [7] (by decide +kernel) (by decide +kernel)
set_option maxRecDepth 20000 in
theorem gX7_number_X7_isNumberIndex : GoodIn wsX7_number (va_wsS RX7 75 yX7_isNumberIndex wsX7_isNumberIndex) := goodIn_app (goodIn_of _ (by decide +kernel)) ggX7_number_X7_isNumberIndex
set_option maxRecDepth 20000 in
theorem ggX7_number_X7_finding : GoodIn wsX7_number wsX7_finding := goodIn_r _ [11, 12, 20, 21, 22, 23, 24, 25, 26, 27, 28, 29, 30, 31, 32] (by decide +kernel) (by decide +kernel)
set_option maxRecDepth 20000 in
theorem gX7_number_X7_finding : GoodIn wsX7_number (wsV RX7 84 RX7 yX7_finding wsX7_finding) := goodIn_app (goodIn_of _ (by decide +kernel)) ggX7_number_X7_finding
set_option maxRecDepth 20000 in
theorem ggX7_number_X1_part : GoodIn wsX7_number wsX1_part := goodIn_r _ [17, 18, 19, 34, 35] (by decide +kernel) (by decide +kernel)
set_option maxRecDepth 20000 in
theorem gX7_number_X1_part : GoodIn wsX7_number (wsV RX7 92 RX1 yX1_part wsX1_part) := goodIn_app (goodIn_of _ (by decide +kernel)) ggX7_number_X1_part
theorem dX7_number_0 : decode cX7_number 0 = .ok (.iload_n 2, 1) := by decide +kernel
theorem dX7_number_1 : decode cX7_number 1 = .ok (.invokestatic 75, 3) := by decide +kernel
theorem dX7_number_4 : decode cX7_number 4 = .ok (.ifCond .ne 10, 3) := by decide +kernel
theorem dX7_number_7 : decode cX7_number 7 = .ok (.aload_n 0, 1) := by decide +kernel
theorem dX7_number_8 : decode cX7_number 8 = .ok (.ldc 83, 2) := by decide +kernel
theorem dX7_number_10 : decode cX7_number 10 = .ok (.invokevirtual 84, 3) := by decide +kernel
theorem dX7_number_13 : decode cX7_number 13 = .ok (.ireturn, 1) := by decide +kernel
theorem dX7_number_14 : decode cX7_number 14 = .ok (.aload_n 0, 1) := by decide +kernel
theorem dX7_number_15 : decode cX7_number 15 = .ok (.getfield 10, 3) := by decide +kernel
theorem dX7_number_18 : decode cX7_number 18 = .ok (.iload_n 1, 1) := by decide +kernel
theorem dX7_number_19 : decode cX7_number 19 = .ok (.invokevirtual 92, 3) := by decide +kernel
theorem dX7_number_22 : decode cX7_number 22 = .ok (.getfield 96, 3) := by decide +kernel
theorem dX7_number_25 : decode cX7_number 25 = .ok (.iload_n 2, 1) := by decide +kernel
theorem dX7_number_26 : decode cX7_number 26 = .ok (.iaload, 1) := by decide +kernel
theorem dX7_number_27 : decode cX7_number 27 = .ok (.ireturn, 1) := by decide +kernel
set_option maxRecDepth 20000 in
theorem ggX7_speed_X7_isPlace : GoodIn wsX7_speed wsX7_isPlace := goodIn_r _ [6, 7, 8, 5, 9] (by decide +kernel) (by decide +kernel)
set_option maxRecDepth 20000 in
theorem gX7_speed_X7_isPlace : GoodIn wsX7_speed (va_wsS RX7 104 yX7_isPlace wsX7_isPlace) := goodIn_app (goodIn_of _ (by decide +kernel)) ggX7_speed_X7_isPlace
set_option maxRecDepth 20000 in
theorem ggX7_speed_X7_finding : GoodIn wsX7_speed wsX7_finding := goodIn_r _ [13, 14, 32, 33, 34, 35, 36, 37, 38, 39, 40, 41, 42, 43, 44] (by decide +kernel) (by decide +kernel)
set_option maxRecDepth 20000 in
theorem gX7_speed_X7_finding : GoodIn wsX7_speed (wsV RX7 84 RX7 yX7_finding wsX7_finding) := goodIn_app (goodIn_of _ (by decide +kernel)) ggX7_speed_X7_finding
set_option maxRecDepth 20000 in
theorem ggX7_speed_X1_part : GoodIn wsX7_speed wsX1_part := goodIn_r _ [19, 20, 21, 45, 46] (by decide +kernel) (by decide +kernel)
set_option maxRecDepth 20000 in
theorem gX7_speed_X1_part : GoodIn wsX7_speed (wsV RX7 92 RX1 yX1_part wsX1_part) := goodIn_app (goodIn_of _ (by decide +kernel)) ggX7_speed_X1_part
set_option maxRecDepth 20000 in
theorem ggX7_speed_X3_at : GoodIn wsX7_speed wsX3_at := goodIn_r _ [26, 27, 28, 29, 30, 25, 31, 47] (by decide +kernel) (by decide +kernel)
set_option maxRecDepth 20000 in
theorem gX7_speed_X3_at : GoodIn wsX7_speed (wsV RX7 107 RX3 yX3_at wsX3_at) := goodIn_app (goodIn_of _ (by decide +kernel)) ggX7_speed_X3_at
theorem dX7_speed_0 : decode cX7_speed 0 = .ok (.iload_n 1, 1) := by decide +kernel
theorem dX7_speed_1 : decode cX7_speed 1 = .ok (.iload_n 2, 1) := by decide +kernel
theorem dX7_speed_2 : decode cX7_speed 2 = .ok (.invokestatic 104, 3) := by decide +kernel
theorem dX7_speed_5 : decode cX7_speed 5 = .ok (.ifCond .ne 10, 3) := by decide +kernel
theorem dX7_speed_8 : decode cX7_speed 8 = .ok (.aload_n 0, 1) := by decide +kernel
theorem dX7_speed_9 : decode cX7_speed 9 = .ok (.ldc 83, 2) := by decide +kernel
theorem dX7_speed_11 : decode cX7_speed 11 = .ok (.invokevirtual 84, 3) := by decide +kernel
theorem dX7_speed_14 : decode cX7_speed 14 = .ok (.ireturn, 1) := by decide +kernel
theorem dX7_speed_15 : decode cX7_speed 15 = .ok (.aload_n 0, 1) := by decide +kernel
theorem dX7_speed_16 : decode cX7_speed 16 = .ok (.getfield 10, 3) := by decide +kernel
theorem dX7_speed_19 : decode cX7_speed 19 = .ok (.iload_n 3, 1) := by decide +kernel
theorem dX7_speed_20 : decode cX7_speed 20 = .ok (.invokevirtual 92, 3) := by decide +kernel
theorem dX7_speed_23 : decode cX7_speed 23 = .ok (.iload_n 1, 1) := by decide +kernel
theorem dX7_speed_24 : decode cX7_speed 24 = .ok (.iload_n 2, 1) := by decide +kernel
theorem dX7_speed_25 : decode cX7_speed 25 = .ok (.invokevirtual 107, 3) := by decide +kernel
theorem dX7_speed_28 : decode cX7_speed 28 = .ok (.ireturn, 1) := by decide +kernel
set_option maxRecDepth 20000 in
theorem ggX7_slope_X7_isPlace : GoodIn wsX7_slope wsX7_isPlace := goodIn_r _ [6, 7, 8, 5, 9] (by decide +kernel) (by decide +kernel)
set_option maxRecDepth 20000 in
theorem gX7_slope_X7_isPlace : GoodIn wsX7_slope (va_wsS RX7 104 yX7_isPlace wsX7_isPlace) := goodIn_app (goodIn_of _ (by decide +kernel)) ggX7_slope_X7_isPlace
set_option maxRecDepth 20000 in
theorem ggX7_slope_X7_finding : GoodIn wsX7_slope wsX7_finding := goodIn_r _ [13, 14, 32, 33, 34, 35, 36, 37, 38, 39, 40, 41, 42, 43, 44] (by decide +kernel) (by decide +kernel)
set_option maxRecDepth 20000 in
theorem gX7_slope_X7_finding : GoodIn wsX7_slope (wsV RX7 84 RX7 yX7_finding wsX7_finding) := goodIn_app (goodIn_of _ (by decide +kernel)) ggX7_slope_X7_finding
set_option maxRecDepth 20000 in
theorem ggX7_slope_X1_part : GoodIn wsX7_slope wsX1_part := goodIn_r _ [19, 20, 21, 45, 46] (by decide +kernel) (by decide +kernel)
set_option maxRecDepth 20000 in
theorem gX7_slope_X1_part : GoodIn wsX7_slope (wsV RX7 92 RX1 yX1_part wsX1_part) := goodIn_app (goodIn_of _ (by decide +kernel)) ggX7_slope_X1_part
set_option maxRecDepth 20000 in
theorem ggX7_slope_X3_byX : GoodIn wsX7_slope wsX3_byX := goodIn_r _ [26, 27, 47] (by decide +kernel) (by decide +kernel)
set_option maxRecDepth 20000 in
theorem gX7_slope_X3_byX : GoodIn wsX7_slope (wsV RX7 111 RX3 yX3_byX wsX3_byX) := goodIn_app (goodIn_of _ (by decide +kernel)) ggX7_slope_X3_byX
set_option maxRecDepth 20000 in
theorem ggX7_slope_X3_byY : GoodIn wsX7_slope wsX3_byY := goodIn_r _ [31, 27, 47] (by decide +kernel) (by decide +kernel)
set_option maxRecDepth 20000 in
theorem gX7_slope_X3_byY : GoodIn wsX7_slope (wsV RX7 114 RX3 yX3_byY wsX3_byY) := goodIn_app (goodIn_of _ (by decide +kernel)) ggX7_slope_X3_byY
theorem dX7_slope_0 : decode cX7_slope 0 = .ok (.iload_n 1, 1) := by decide +kernel
theorem dX7_slope_1 : decode cX7_slope 1 = .ok (.iload_n 2, 1) := by decide +kernel
theorem dX7_slope_2 : decode cX7_slope 2 = .ok (.invokestatic 104, 3) := by decide +kernel
theorem dX7_slope_5 : decode cX7_slope 5 = .ok (.ifCond .eq 12, 3) := by decide +kernel
theorem dX7_slope_8 : decode cX7_slope 8 = .ok (.iload_n 3, 1) := by decide +kernel
theorem dX7_slope_9 : decode cX7_slope 9 = .ok (.ifCond .lt 8, 3) := by decide +kernel
theorem dX7_slope_12 : decode cX7_slope 12 = .ok (.iload_n 3, 1) := by decide +kernel
theorem dX7_slope_13 : decode cX7_slope 13 = .ok (.iconst 3, 1) := by decide +kernel
theorem dX7_slope_14 : decode cX7_slope 14 = .ok (.if_icmp .le 10, 3) := by decide +kernel
theorem dX7_slope_17 : decode cX7_slope 17 = .ok (.aload_n 0, 1) := by decide +kernel
theorem dX7_slope_18 : decode cX7_slope 18 = .ok (.ldc 83, 2) := by decide +kernel
theorem dX7_slope_20 : decode cX7_slope 20 = .ok (.invokevirtual 84, 3) := by decide +kernel
theorem dX7_slope_23 : decode cX7_slope 23 = .ok (.ireturn, 1) := by decide +kernel
theorem dX7_slope_24 : decode cX7_slope 24 = .ok (.aload_n 0, 1) := by decide +kernel
theorem dX7_slope_25 : decode cX7_slope 25 = .ok (.getfield 10, 3) := by decide +kernel
theorem dX7_slope_28 : decode cX7_slope 28 = .ok (.iload_n 3, 1) := by decide +kernel
theorem dX7_slope_29 : decode cX7_slope 29 = .ok (.iconst 2, 1) := by decide +kernel
theorem dX7_slope_30 : decode cX7_slope 30 = .ok (.if_icmp .lt 7, 3) := by decide +kernel
theorem dX7_slope_33 : decode cX7_slope 33 = .ok (.iconst 1, 1) := by decide +kernel
theorem dX7_slope_34 : decode cX7_slope 34 = .ok (.goto 4, 3) := by decide +kernel
theorem dX7_slope_37 : decode cX7_slope 37 = .ok (.iconst 0, 1) := by decide +kernel
theorem dX7_slope_38 : decode cX7_slope 38 = .ok (.invokevirtual 92, 3) := by decide +kernel
theorem dX7_slope_41 : decode cX7_slope 41 = .ok (.astore 4, 2) := by decide +kernel
theorem dX7_slope_43 : decode cX7_slope 43 = .ok (.iload_n 3, 1) := by decide +kernel
theorem dX7_slope_44 : decode cX7_slope 44 = .ok (.iconst 2, 1) := by decide +kernel
theorem dX7_slope_45 : decode cX7_slope 45 = .ok (.irem, 1) := by decide +kernel
theorem dX7_slope_46 : decode cX7_slope 46 = .ok (.ifCond .ne 13, 3) := by decide +kernel
theorem dX7_slope_49 : decode cX7_slope 49 = .ok (.aload 4, 2) := by decide +kernel
theorem dX7_slope_51 : decode cX7_slope 51 = .ok (.iload_n 1, 1) := by decide +kernel
theorem dX7_slope_52 : decode cX7_slope 52 = .ok (.iload_n 2, 1) := by decide +kernel
theorem dX7_slope_53 : decode cX7_slope 53 = .ok (.invokevirtual 111, 3) := by decide +kernel
theorem dX7_slope_56 : decode cX7_slope 56 = .ok (.goto 10, 3) := by decide +kernel
theorem dX7_slope_59 : decode cX7_slope 59 = .ok (.aload 4, 2) := by decide +kernel
theorem dX7_slope_61 : decode cX7_slope 61 = .ok (.iload_n 1, 1) := by decide +kernel
theorem dX7_slope_62 : decode cX7_slope 62 = .ok (.iload_n 2, 1) := by decide +kernel
theorem dX7_slope_63 : decode cX7_slope 63 = .ok (.invokevirtual 114, 3) := by decide +kernel
theorem dX7_slope_66 : decode cX7_slope 66 = .ok (.ireturn, 1) := by decide +kernel
set_option maxRecDepth 20000 in
theorem ggX7_back_X3_negatedFrom : GoodIn wsX7_back wsX3_negatedFrom := goodIn_r _ [9, 10, 67] (by decide +kernel) (by decide +kernel)
set_option maxRecDepth 20000 in
theorem gX7_back_X3_negatedFrom : GoodIn wsX7_back (wsV RX7 121 RX3 yX3_negatedFrom wsX3_negatedFrom) := goodIn_app (goodIn_of _ (by decide +kernel)) ggX7_back_X3_negatedFrom
set_option maxRecDepth 20000 in
theorem ggX7_back_X7_takeDraft : GoodIn wsX7_back wsX7_takeDraft := goodIn_r _ [15, 16, 3, 17, 1, 18, 19, 20, 21, 22, 23, 24, 25, 26, 27, 28, 29, 30, 31, 32, 33, 34, 35, 36, 37, 38, 39, 40, 41, 42, 43, 44, 45, 46, 47, 48, 49, 8, 50, 10, 51, 52, 53, 54, 55, 56, 57, 58, 59, 60, 61, 62, 63, 64, 68, 69, 70, 65, 66, 67, 71, 72, 73] (by decide +kernel) (by decide +kernel)
set_option maxRecDepth 20000 in
theorem gX7_back_X7_takeDraft : GoodIn wsX7_back (wsV RX7 101 RX7 yX7_takeDraft wsX7_takeDraft) := goodIn_app (goodIn_of _ (by decide +kernel)) ggX7_back_X7_takeDraft
theorem dX7_back_0 : decode cX7_back 0 = .ok (.aload_n 0, 1) := by decide +kernel
theorem dX7_back_1 : decode cX7_back 1 = .ok (.getfield 16, 3) := by decide +kernel
theorem dX7_back_4 : decode cX7_back 4 = .ok (.getfield 117, 3) := by decide +kernel
theorem dX7_back_7 : decode cX7_back 7 = .ok (.aload_n 0, 1) := by decide +kernel
theorem dX7_back_8 : decode cX7_back 8 = .ok (.getfield 10, 3) := by decide +kernel
theorem dX7_back_11 : decode cX7_back 11 = .ok (.getfield 117, 3) := by decide +kernel
theorem dX7_back_14 : decode cX7_back 14 = .ok (.invokevirtual 121, 3) := by decide +kernel
theorem dX7_back_17 : decode cX7_back 17 = .ok (.aload_n 0, 1) := by decide +kernel
theorem dX7_back_18 : decode cX7_back 18 = .ok (.getfield 16, 3) := by decide +kernel
theorem dX7_back_21 : decode cX7_back 21 = .ok (.getfield 125, 3) := by decide +kernel
theorem dX7_back_24 : decode cX7_back 24 = .ok (.aload_n 0, 1) := by decide +kernel
theorem dX7_back_25 : decode cX7_back 25 = .ok (.getfield 10, 3) := by decide +kernel
theorem dX7_back_28 : decode cX7_back 28 = .ok (.getfield 125, 3) := by decide +kernel
theorem dX7_back_31 : decode cX7_back 31 = .ok (.invokevirtual 121, 3) := by decide +kernel
theorem dX7_back_34 : decode cX7_back 34 = .ok (.aload_n 0, 1) := by decide +kernel
theorem dX7_back_35 : decode cX7_back 35 = .ok (.iconst 1, 1) := by decide +kernel
theorem dX7_back_36 : decode cX7_back 36 = .ok (.invokevirtual 101, 3) := by decide +kernel
theorem dX7_back_39 : decode cX7_back 39 = .ok (.ireturn, 1) := by decide +kernel
set_option maxRecDepth 20000 in
theorem ggX7_quarter_X3_turnedFrom : GoodIn wsX7_quarter wsX3_turnedFrom := goodIn_r _ [9, 10, 67] (by decide +kernel) (by decide +kernel)
set_option maxRecDepth 20000 in
theorem gX7_quarter_X3_turnedFrom : GoodIn wsX7_quarter (wsV RX7 128 RX3 yX3_turnedFrom wsX3_turnedFrom) := goodIn_app (goodIn_of _ (by decide +kernel)) ggX7_quarter_X3_turnedFrom
set_option maxRecDepth 20000 in
theorem ggX7_quarter_X7_takeDraft : GoodIn wsX7_quarter wsX7_takeDraft := goodIn_r _ [15, 16, 3, 17, 1, 18, 19, 20, 21, 22, 23, 24, 25, 26, 27, 28, 29, 30, 31, 32, 33, 34, 35, 36, 37, 38, 39, 40, 41, 42, 43, 44, 45, 46, 47, 48, 49, 8, 50, 10, 51, 52, 53, 54, 55, 56, 57, 58, 59, 60, 61, 62, 63, 64, 68, 69, 70, 65, 66, 67, 71, 72, 73] (by decide +kernel) (by decide +kernel)
set_option maxRecDepth 20000 in
theorem gX7_quarter_X7_takeDraft : GoodIn wsX7_quarter (wsV RX7 101 RX7 yX7_takeDraft wsX7_takeDraft) := goodIn_app (goodIn_of _ (by decide +kernel)) ggX7_quarter_X7_takeDraft
theorem dX7_quarter_0 : decode cX7_quarter 0 = .ok (.aload_n 0, 1) := by decide +kernel
theorem dX7_quarter_1 : decode cX7_quarter 1 = .ok (.getfield 16, 3) := by decide +kernel
theorem dX7_quarter_4 : decode cX7_quarter 4 = .ok (.getfield 117, 3) := by decide +kernel
theorem dX7_quarter_7 : decode cX7_quarter 7 = .ok (.aload_n 0, 1) := by decide +kernel
theorem dX7_quarter_8 : decode cX7_quarter 8 = .ok (.getfield 10, 3) := by decide +kernel
theorem dX7_quarter_11 : decode cX7_quarter 11 = .ok (.getfield 125, 3) := by decide +kernel
theorem dX7_quarter_14 : decode cX7_quarter 14 = .ok (.iconst (-1), 1) := by decide +kernel
theorem dX7_quarter_15 : decode cX7_quarter 15 = .ok (.invokevirtual 128, 3) := by decide +kernel
theorem dX7_quarter_18 : decode cX7_quarter 18 = .ok (.aload_n 0, 1) := by decide +kernel
theorem dX7_quarter_19 : decode cX7_quarter 19 = .ok (.getfield 16, 3) := by decide +kernel
theorem dX7_quarter_22 : decode cX7_quarter 22 = .ok (.getfield 125, 3) := by decide +kernel
theorem dX7_quarter_25 : decode cX7_quarter 25 = .ok (.aload_n 0, 1) := by decide +kernel
theorem dX7_quarter_26 : decode cX7_quarter 26 = .ok (.getfield 10, 3) := by decide +kernel
theorem dX7_quarter_29 : decode cX7_quarter 29 = .ok (.getfield 117, 3) := by decide +kernel
theorem dX7_quarter_32 : decode cX7_quarter 32 = .ok (.iconst 1, 1) := by decide +kernel
theorem dX7_quarter_33 : decode cX7_quarter 33 = .ok (.invokevirtual 128, 3) := by decide +kernel
theorem dX7_quarter_36 : decode cX7_quarter 36 = .ok (.aload_n 0, 1) := by decide +kernel
theorem dX7_quarter_37 : decode cX7_quarter 37 = .ok (.iconst 1, 1) := by decide +kernel
theorem dX7_quarter_38 : decode cX7_quarter 38 = .ok (.invokevirtual 101, 3) := by decide +kernel
theorem dX7_quarter_41 : decode cX7_quarter 41 = .ok (.ireturn, 1) := by decide +kernel
set_option maxRecDepth 20000 in
theorem ggX7_mirror_X3_mirroredFrom : GoodIn wsX7_mirror wsX3_mirroredFrom := goodIn_r _ [9, 10, 67] (by decide +kernel) (by decide +kernel)
set_option maxRecDepth 20000 in
theorem gX7_mirror_X3_mirroredFrom : GoodIn wsX7_mirror (wsV RX7 132 RX3 yX3_mirroredFrom wsX3_mirroredFrom) := goodIn_app (goodIn_of _ (by decide +kernel)) ggX7_mirror_X3_mirroredFrom
set_option maxRecDepth 20000 in
theorem ggX7_mirror_X7_takeDraft : GoodIn wsX7_mirror wsX7_takeDraft := goodIn_r _ [15, 16, 3, 17, 1, 18, 19, 20, 21, 22, 23, 24, 25, 26, 27, 28, 29, 30, 31, 32, 33, 34, 35, 36, 37, 38, 39, 40, 41, 42, 43, 44, 45, 46, 47, 48, 49, 8, 50, 10, 51, 52, 53, 54, 55, 56, 57, 58, 59, 60, 61, 62, 63, 64, 68, 69, 70, 65, 66, 67, 71, 72, 73] (by decide +kernel) (by decide +kernel)
set_option maxRecDepth 20000 in
theorem gX7_mirror_X7_takeDraft : GoodIn wsX7_mirror (wsV RX7 101 RX7 yX7_takeDraft wsX7_takeDraft) := goodIn_app (goodIn_of _ (by decide +kernel)) ggX7_mirror_X7_takeDraft
theorem dX7_mirror_0 : decode cX7_mirror 0 = .ok (.aload_n 0, 1) := by decide +kernel
theorem dX7_mirror_1 : decode cX7_mirror 1 = .ok (.getfield 16, 3) := by decide +kernel
theorem dX7_mirror_4 : decode cX7_mirror 4 = .ok (.getfield 117, 3) := by decide +kernel
theorem dX7_mirror_7 : decode cX7_mirror 7 = .ok (.aload_n 0, 1) := by decide +kernel
theorem dX7_mirror_8 : decode cX7_mirror 8 = .ok (.getfield 10, 3) := by decide +kernel
theorem dX7_mirror_11 : decode cX7_mirror 11 = .ok (.getfield 117, 3) := by decide +kernel
theorem dX7_mirror_14 : decode cX7_mirror 14 = .ok (.iconst (-1), 1) := by decide +kernel
theorem dX7_mirror_15 : decode cX7_mirror 15 = .ok (.invokevirtual 132, 3) := by decide +kernel
theorem dX7_mirror_18 : decode cX7_mirror 18 = .ok (.aload_n 0, 1) := by decide +kernel
theorem dX7_mirror_19 : decode cX7_mirror 19 = .ok (.getfield 16, 3) := by decide +kernel
theorem dX7_mirror_22 : decode cX7_mirror 22 = .ok (.getfield 125, 3) := by decide +kernel
theorem dX7_mirror_25 : decode cX7_mirror 25 = .ok (.aload_n 0, 1) := by decide +kernel
theorem dX7_mirror_26 : decode cX7_mirror 26 = .ok (.getfield 10, 3) := by decide +kernel
theorem dX7_mirror_29 : decode cX7_mirror 29 = .ok (.getfield 125, 3) := by decide +kernel
theorem dX7_mirror_32 : decode cX7_mirror 32 = .ok (.iconst 1, 1) := by decide +kernel
theorem dX7_mirror_33 : decode cX7_mirror 33 = .ok (.invokevirtual 132, 3) := by decide +kernel
theorem dX7_mirror_36 : decode cX7_mirror 36 = .ok (.aload_n 0, 1) := by decide +kernel
theorem dX7_mirror_37 : decode cX7_mirror 37 = .ok (.iconst 1, 1) := by decide +kernel
theorem dX7_mirror_38 : decode cX7_mirror 38 = .ok (.invokevirtual 101, 3) := by decide +kernel
theorem dX7_mirror_41 : decode cX7_mirror 41 = .ok (.ireturn, 1) := by decide +kernel
set_option maxRecDepth 20000 in
theorem ggX7_move_X7_isPlace : GoodIn wsX7_move wsX7_isPlace := goodIn_r _ [9, 10, 11, 8, 12] (by decide +kernel) (by decide +kernel)
set_option maxRecDepth 20000 in
theorem gX7_move_X7_isPlace : GoodIn wsX7_move (va_wsS RX7 104 yX7_isPlace wsX7_isPlace) := goodIn_app (goodIn_of _ (by decide +kernel)) ggX7_move_X7_isPlace
set_option maxRecDepth 20000 in
theorem ggX7_move_X7_finding : GoodIn wsX7_move wsX7_finding := goodIn_r _ [16, 17, 94, 95, 96, 97, 98, 99, 100, 101, 102, 103, 104, 105, 106] (by decide +kernel) (by decide +kernel)
set_option maxRecDepth 20000 in
theorem gX7_move_X7_finding : GoodIn wsX7_move (wsV RX7 84 RX7 yX7_finding wsX7_finding) := goodIn_app (goodIn_of _ (by decide +kernel)) ggX7_move_X7_finding
set_option maxRecDepth 20000 in
theorem ggX7_move_X3_movedFrom : GoodIn wsX7_move wsX3_movedFrom := goodIn_r _ [22, 23, 24, 25, 26, 21, 27, 28, 29, 30, 31, 32, 33, 34, 35, 36, 37, 38, 39, 40, 41, 42, 43, 44, 45, 46, 47, 109] (by decide +kernel) (by decide +kernel)
set_option maxRecDepth 20000 in
theorem gX7_move_X3_movedFrom : GoodIn wsX7_move (wsV RX7 135 RX3 yX3_movedFrom wsX3_movedFrom) := goodIn_app (goodIn_of _ (by decide +kernel)) ggX7_move_X3_movedFrom
set_option maxRecDepth 20000 in
theorem ggX7_move_X7_takeDraftIfItFits : GoodIn wsX7_move wsX7_takeDraftIfItFits := goodIn_r _ [51, 2, 52, 53, 54, 55, 56, 57, 58, 59, 60, 61, 62, 21, 63, 23, 11, 8, 12, 64, 65, 66, 67, 68, 4, 69, 70, 71, 72, 73, 74, 75, 76, 77, 78, 79, 80, 81, 82, 83, 84, 29, 30, 31, 85, 86, 87, 88, 89, 90, 91, 92, 93, 25, 26, 27, 28, 13, 14, 15, 16, 17, 94, 95, 96, 97, 98, 99, 100, 101, 102, 103, 104, 105, 106, 107, 108, 109, 110, 111, 112, 113, 114, 115] (by decide +kernel) (by decide +kernel)
set_option maxRecDepth 20000 in
theorem gX7_move_X7_takeDraftIfItFits : GoodIn wsX7_move (wsV RX7 139 RX7 yX7_takeDraftIfItFits wsX7_takeDraftIfItFits) := goodIn_app (goodIn_of _ (by decide +kernel)) ggX7_move_X7_takeDraftIfItFits
theorem dX7_move_0 : decode cX7_move 0 = .ok (.iload_n 1, 1) := by decide +kernel
theorem dX7_move_1 : decode cX7_move 1 = .ok (.iload_n 2, 1) := by decide +kernel
theorem dX7_move_2 : decode cX7_move 2 = .ok (.invokestatic 104, 3) := by decide +kernel
theorem dX7_move_5 : decode cX7_move 5 = .ok (.ifCond .ne 10, 3) := by decide +kernel
theorem dX7_move_8 : decode cX7_move 8 = .ok (.aload_n 0, 1) := by decide +kernel
theorem dX7_move_9 : decode cX7_move 9 = .ok (.ldc 83, 2) := by decide +kernel
theorem dX7_move_11 : decode cX7_move 11 = .ok (.invokevirtual 84, 3) := by decide +kernel
theorem dX7_move_14 : decode cX7_move 14 = .ok (.ireturn, 1) := by decide +kernel
theorem dX7_move_15 : decode cX7_move 15 = .ok (.aload_n 0, 1) := by decide +kernel
theorem dX7_move_16 : decode cX7_move 16 = .ok (.getfield 16, 3) := by decide +kernel
theorem dX7_move_19 : decode cX7_move 19 = .ok (.getfield 117, 3) := by decide +kernel
theorem dX7_move_22 : decode cX7_move 22 = .ok (.aload_n 0, 1) := by decide +kernel
theorem dX7_move_23 : decode cX7_move 23 = .ok (.getfield 10, 3) := by decide +kernel
theorem dX7_move_26 : decode cX7_move 26 = .ok (.getfield 117, 3) := by decide +kernel
theorem dX7_move_29 : decode cX7_move 29 = .ok (.iload_n 1, 1) := by decide +kernel
theorem dX7_move_30 : decode cX7_move 30 = .ok (.iload_n 2, 1) := by decide +kernel
theorem dX7_move_31 : decode cX7_move 31 = .ok (.invokevirtual 135, 3) := by decide +kernel
theorem dX7_move_34 : decode cX7_move 34 = .ok (.aload_n 0, 1) := by decide +kernel
theorem dX7_move_35 : decode cX7_move 35 = .ok (.getfield 16, 3) := by decide +kernel
theorem dX7_move_38 : decode cX7_move 38 = .ok (.getfield 125, 3) := by decide +kernel
theorem dX7_move_41 : decode cX7_move 41 = .ok (.aload_n 0, 1) := by decide +kernel
theorem dX7_move_42 : decode cX7_move 42 = .ok (.getfield 10, 3) := by decide +kernel
theorem dX7_move_45 : decode cX7_move 45 = .ok (.getfield 125, 3) := by decide +kernel
theorem dX7_move_48 : decode cX7_move 48 = .ok (.iload_n 1, 1) := by decide +kernel
theorem dX7_move_49 : decode cX7_move 49 = .ok (.iload_n 2, 1) := by decide +kernel
theorem dX7_move_50 : decode cX7_move 50 = .ok (.invokevirtual 135, 3) := by decide +kernel
theorem dX7_move_53 : decode cX7_move 53 = .ok (.aload_n 0, 1) := by decide +kernel
theorem dX7_move_54 : decode cX7_move 54 = .ok (.invokevirtual 139, 3) := by decide +kernel
theorem dX7_move_57 : decode cX7_move 57 = .ok (.ireturn, 1) := by decide +kernel
set_option maxRecDepth 20000 in
theorem ggX7_add_X7_isSlot : GoodIn wsX7_add wsX7_isSlot := goodIn_r _ [12] (by decide +kernel) (by decide +kernel)
set_option maxRecDepth 20000 in
theorem gX7_add_X7_isSlot : GoodIn wsX7_add (va_wsS RX7 143 yX7_isSlot wsX7_isSlot) := goodIn_app (goodIn_of _ (by decide +kernel)) ggX7_add_X7_isSlot
set_option maxRecDepth 20000 in
theorem ggX7_add_X7_isWithin : GoodIn wsX7_add wsX7_isWithin := goodIn_r _ [15] (by decide +kernel) (by decide +kernel)
set_option maxRecDepth 20000 in
theorem gX7_add_X7_isWithin : GoodIn wsX7_add (va_wsS RX7 79 yX7_isWithin wsX7_isWithin) := goodIn_app (goodIn_of _ (by decide +kernel)) ggX7_add_X7_isWithin
set_option maxRecDepth 20000 in
theorem ggX7_add_X7_finding : GoodIn wsX7_add wsX7_finding := goodIn_r _ [19, 20, 80, 81, 82, 83, 84, 85, 86, 87, 88, 89, 90, 91, 92] (by decide +kernel) (by decide +kernel)
set_option maxRecDepth 20000 in
theorem gX7_add_X7_finding : GoodIn wsX7_add (wsV RX7 84 RX7 yX7_finding wsX7_finding) := goodIn_app (goodIn_of _ (by decide +kernel)) ggX7_add_X7_finding
set_option maxRecDepth 20000 in
theorem ggX7_add_X1_become : GoodIn wsX7_add wsX1_become := goodIn_r _ [25, 26, 27, 28, 29, 30, 31, 32, 33, 34, 35, 36, 37, 93, 94, 95] (by decide +kernel) (by decide +kernel)
set_option maxRecDepth 20000 in
theorem gX7_add_X1_become : GoodIn wsX7_add (wsV RX7 88 RX1 yX1_become wsX1_become) := goodIn_app (goodIn_of _ (by decide +kernel)) ggX7_add_X1_become
set_option maxRecDepth 20000 in
theorem ggX7_add_X3_increase : GoodIn wsX7_add wsX3_increase := goodIn_r _ [41, 33, 95] (by decide +kernel) (by decide +kernel)
set_option maxRecDepth 20000 in
theorem gX7_add_X3_increase : GoodIn wsX7_add (wsV RX7 147 RX3 yX3_increase wsX3_increase) := goodIn_app (goodIn_of _ (by decide +kernel)) ggX7_add_X3_increase
set_option maxRecDepth 20000 in
theorem ggX7_add_X7_takeDraftIfItFits : GoodIn wsX7_add wsX7_takeDraftIfItFits := goodIn_r _ [45, 4, 46, 47, 48, 49, 24, 50, 26, 27, 51, 52, 53, 31, 54, 33, 14, 11, 15, 55, 56, 57, 58, 59, 5, 60, 61, 62, 63, 64, 65, 66, 67, 68, 69, 70, 71, 72, 73, 74, 75, 35, 36, 37, 76, 77, 78, 79, 21, 22, 23, 25, 28, 29, 30, 32, 34, 16, 17, 18, 19, 20, 80, 81, 82, 83, 84, 85, 86, 87, 88, 89, 90, 91, 92, 93, 94, 95, 96, 97, 98, 99, 100, 101] (by decide +kernel) (by decide +kernel)
set_option maxRecDepth 20000 in
theorem gX7_add_X7_takeDraftIfItFits : GoodIn wsX7_add (wsV RX7 139 RX7 yX7_takeDraftIfItFits wsX7_takeDraftIfItFits) := goodIn_app (goodIn_of _ (by decide +kernel)) ggX7_add_X7_takeDraftIfItFits
theorem dX7_add_0 : decode cX7_add 0 = .ok (.iload_n 1, 1) := by decide +kernel
theorem dX7_add_1 : decode cX7_add 1 = .ok (.invokestatic 143, 3) := by decide +kernel
theorem dX7_add_4 : decode cX7_add 4 = .ok (.ifCond .eq 11, 3) := by decide +kernel
theorem dX7_add_7 : decode cX7_add 7 = .ok (.iload_n 2, 1) := by decide +kernel
theorem dX7_add_8 : decode cX7_add 8 = .ok (.iconst 4, 1) := by decide +kernel
theorem dX7_add_9 : decode cX7_add 9 = .ok (.invokestatic 79, 3) := by decide +kernel
theorem dX7_add_12 : decode cX7_add 12 = .ok (.ifCond .ne 10, 3) := by decide +kernel
theorem dX7_add_15 : decode cX7_add 15 = .ok (.aload_n 0, 1) := by decide +kernel
theorem dX7_add_16 : decode cX7_add 16 = .ok (.ldc 83, 2) := by decide +kernel
theorem dX7_add_18 : decode cX7_add 18 = .ok (.invokevirtual 84, 3) := by decide +kernel
theorem dX7_add_21 : decode cX7_add 21 = .ok (.ireturn, 1) := by decide +kernel
theorem dX7_add_22 : decode cX7_add 22 = .ok (.aload_n 0, 1) := by decide +kernel
theorem dX7_add_23 : decode cX7_add 23 = .ok (.getfield 37, 3) := by decide +kernel
theorem dX7_add_26 : decode cX7_add 26 = .ok (.iload_n 1, 1) := by decide +kernel
theorem dX7_add_27 : decode cX7_add 27 = .ok (.iaload, 1) := by decide +kernel
theorem dX7_add_28 : decode cX7_add 28 = .ok (.iconst (-1), 1) := by decide +kernel
theorem dX7_add_29 : decode cX7_add 29 = .ok (.if_icmp .ne 10, 3) := by decide +kernel
theorem dX7_add_32 : decode cX7_add 32 = .ok (.aload_n 0, 1) := by decide +kernel
theorem dX7_add_33 : decode cX7_add 33 = .ok (.ldc 146, 2) := by decide +kernel
theorem dX7_add_35 : decode cX7_add 35 = .ok (.invokevirtual 84, 3) := by decide +kernel
theorem dX7_add_38 : decode cX7_add 38 = .ok (.ireturn, 1) := by decide +kernel
theorem dX7_add_39 : decode cX7_add 39 = .ok (.aload_n 0, 1) := by decide +kernel
theorem dX7_add_40 : decode cX7_add 40 = .ok (.getfield 16, 3) := by decide +kernel
theorem dX7_add_43 : decode cX7_add 43 = .ok (.aload_n 0, 1) := by decide +kernel
theorem dX7_add_44 : decode cX7_add 44 = .ok (.getfield 10, 3) := by decide +kernel
theorem dX7_add_47 : decode cX7_add 47 = .ok (.invokevirtual 88, 3) := by decide +kernel
theorem dX7_add_50 : decode cX7_add 50 = .ok (.aload_n 0, 1) := by decide +kernel
theorem dX7_add_51 : decode cX7_add 51 = .ok (.getfield 16, 3) := by decide +kernel
theorem dX7_add_54 : decode cX7_add 54 = .ok (.getfield 117, 3) := by decide +kernel
theorem dX7_add_57 : decode cX7_add 57 = .ok (.aload_n 0, 1) := by decide +kernel
theorem dX7_add_58 : decode cX7_add 58 = .ok (.getfield 33, 3) := by decide +kernel
theorem dX7_add_61 : decode cX7_add 61 = .ok (.iload_n 1, 1) := by decide +kernel
theorem dX7_add_62 : decode cX7_add 62 = .ok (.aaload, 1) := by decide +kernel
theorem dX7_add_63 : decode cX7_add 63 = .ok (.getfield 117, 3) := by decide +kernel
theorem dX7_add_66 : decode cX7_add 66 = .ok (.iload_n 2, 1) := by decide +kernel
theorem dX7_add_67 : decode cX7_add 67 = .ok (.invokevirtual 147, 3) := by decide +kernel
theorem dX7_add_70 : decode cX7_add 70 = .ok (.aload_n 0, 1) := by decide +kernel
theorem dX7_add_71 : decode cX7_add 71 = .ok (.getfield 16, 3) := by decide +kernel
theorem dX7_add_74 : decode cX7_add 74 = .ok (.getfield 125, 3) := by decide +kernel
theorem dX7_add_77 : decode cX7_add 77 = .ok (.aload_n 0, 1) := by decide +kernel
theorem dX7_add_78 : decode cX7_add 78 = .ok (.getfield 33, 3) := by decide +kernel
theorem dX7_add_81 : decode cX7_add 81 = .ok (.iload_n 1, 1) := by decide +kernel
theorem dX7_add_82 : decode cX7_add 82 = .ok (.aaload, 1) := by decide +kernel
theorem dX7_add_83 : decode cX7_add 83 = .ok (.getfield 125, 3) := by decide +kernel
theorem dX7_add_86 : decode cX7_add 86 = .ok (.iload_n 2, 1) := by decide +kernel
theorem dX7_add_87 : decode cX7_add 87 = .ok (.invokevirtual 147, 3) := by decide +kernel
theorem dX7_add_90 : decode cX7_add 90 = .ok (.aload_n 0, 1) := by decide +kernel
theorem dX7_add_91 : decode cX7_add 91 = .ok (.invokevirtual 139, 3) := by decide +kernel
theorem dX7_add_94 : decode cX7_add 94 = .ok (.ireturn, 1) := by decide +kernel
set_option maxRecDepth 20000 in
theorem ggX7_rests_X1_isRest : GoodIn wsX7_rests wsX1_isRest := goodIn_r _ [6, 7, 8, 9, 10, 11, 12, 13, 14, 15, 16, 17, 18, 32, 33, 34] (by decide +kernel) (by decide +kernel)
set_option maxRecDepth 20000 in
theorem gX7_rests_X1_isRest : GoodIn wsX7_rests (wsV RX7 150 RX1 yX1_isRest wsX1_isRest) := goodIn_app (goodIn_of _ (by decide +kernel)) ggX7_rests_X1_isRest
theorem dX7_rests_0 : decode cX7_rests 0 = .ok (.iconst 0, 1) := by decide +kernel
theorem dX7_rests_1 : decode cX7_rests 1 = .ok (.istore_n 1, 1) := by decide +kernel
theorem dX7_rests_2 : decode cX7_rests 2 = .ok (.bipush (-6), 2) := by decide +kernel
theorem dX7_rests_4 : decode cX7_rests 4 = .ok (.istore_n 2, 1) := by decide +kernel
theorem dX7_rests_5 : decode cX7_rests 5 = .ok (.iload_n 2, 1) := by decide +kernel
theorem dX7_rests_6 : decode cX7_rests 6 = .ok (.bipush 6, 2) := by decide +kernel
theorem dX7_rests_8 : decode cX7_rests 8 = .ok (.if_icmp .gt 39, 3) := by decide +kernel
theorem dX7_rests_11 : decode cX7_rests 11 = .ok (.bipush (-6), 2) := by decide +kernel
theorem dX7_rests_13 : decode cX7_rests 13 = .ok (.istore_n 3, 1) := by decide +kernel
theorem dX7_rests_14 : decode cX7_rests 14 = .ok (.iload_n 3, 1) := by decide +kernel
theorem dX7_rests_15 : decode cX7_rests 15 = .ok (.bipush 6, 2) := by decide +kernel
theorem dX7_rests_17 : decode cX7_rests 17 = .ok (.if_icmp .gt 24, 3) := by decide +kernel
theorem dX7_rests_20 : decode cX7_rests 20 = .ok (.aload_n 0, 1) := by decide +kernel
theorem dX7_rests_21 : decode cX7_rests 21 = .ok (.getfield 10, 3) := by decide +kernel
theorem dX7_rests_24 : decode cX7_rests 24 = .ok (.iload_n 2, 1) := by decide +kernel
theorem dX7_rests_25 : decode cX7_rests 25 = .ok (.iload_n 3, 1) := by decide +kernel
theorem dX7_rests_26 : decode cX7_rests 26 = .ok (.invokevirtual 150, 3) := by decide +kernel
theorem dX7_rests_29 : decode cX7_rests 29 = .ok (.ifCond .eq 6, 3) := by decide +kernel
theorem dX7_rests_32 : decode cX7_rests 32 = .ok (.iinc 1 1, 3) := by decide +kernel
theorem dX7_rests_35 : decode cX7_rests 35 = .ok (.iinc 3 1, 3) := by decide +kernel
theorem dX7_rests_38 : decode cX7_rests 38 = .ok (.goto (-24), 3) := by decide +kernel
theorem dX7_rests_41 : decode cX7_rests 41 = .ok (.iinc 2 1, 3) := by decide +kernel
theorem dX7_rests_44 : decode cX7_rests 44 = .ok (.goto (-39), 3) := by decide +kernel
theorem dX7_rests_47 : decode cX7_rests 47 = .ok (.iload_n 1, 1) := by decide +kernel
theorem dX7_rests_48 : decode cX7_rests 48 = .ok (.ireturn, 1) := by decide +kernel
set_option maxRecDepth 20000 in
theorem ggX7_rest_X1_isRest : GoodIn wsX7_rest wsX1_isRest := goodIn_r _ [7, 8, 9, 10, 11, 12, 13, 14, 15, 16, 17, 18, 19, 39, 40, 41] (by decide +kernel) (by decide +kernel)
set_option maxRecDepth 20000 in
theorem gX7_rest_X1_isRest : GoodIn wsX7_rest (wsV RX7 150 RX1 yX1_isRest wsX1_isRest) := goodIn_app (goodIn_of _ (by decide +kernel)) ggX7_rest_X1_isRest
set_option maxRecDepth 20000 in
theorem ggX7_rest_X7_finding : GoodIn wsX7_rest wsX7_finding := goodIn_r _ [24, 25, 26, 27, 28, 29, 30, 31, 32, 33, 34, 35, 36, 37, 38] (by decide +kernel) (by decide +kernel)
set_option maxRecDepth 20000 in
theorem gX7_rest_X7_finding : GoodIn wsX7_rest (wsV RX7 84 RX7 yX7_finding wsX7_finding) := goodIn_app (goodIn_of _ (by decide +kernel)) ggX7_rest_X7_finding
theorem dX7_rest_0 : decode cX7_rest 0 = .ok (.iconst 0, 1) := by decide +kernel
theorem dX7_rest_1 : decode cX7_rest 1 = .ok (.istore_n 3, 1) := by decide +kernel
theorem dX7_rest_2 : decode cX7_rest 2 = .ok (.bipush (-6), 2) := by decide +kernel
theorem dX7_rest_4 : decode cX7_rest 4 = .ok (.istore 4, 2) := by decide +kernel
theorem dX7_rest_6 : decode cX7_rest 6 = .ok (.iload 4, 2) := by decide +kernel
theorem dX7_rest_8 : decode cX7_rest 8 = .ok (.bipush 6, 2) := by decide +kernel
theorem dX7_rest_10 : decode cX7_rest 10 = .ok (.if_icmp .gt 63, 3) := by decide +kernel
theorem dX7_rest_13 : decode cX7_rest 13 = .ok (.bipush (-6), 2) := by decide +kernel
theorem dX7_rest_15 : decode cX7_rest 15 = .ok (.istore 5, 2) := by decide +kernel
theorem dX7_rest_17 : decode cX7_rest 17 = .ok (.iload 5, 2) := by decide +kernel
theorem dX7_rest_19 : decode cX7_rest 19 = .ok (.bipush 6, 2) := by decide +kernel
theorem dX7_rest_21 : decode cX7_rest 21 = .ok (.if_icmp .gt 46, 3) := by decide +kernel
theorem dX7_rest_24 : decode cX7_rest 24 = .ok (.aload_n 0, 1) := by decide +kernel
theorem dX7_rest_25 : decode cX7_rest 25 = .ok (.getfield 10, 3) := by decide +kernel
theorem dX7_rest_28 : decode cX7_rest 28 = .ok (.iload 4, 2) := by decide +kernel
theorem dX7_rest_30 : decode cX7_rest 30 = .ok (.iload 5, 2) := by decide +kernel
theorem dX7_rest_32 : decode cX7_rest 32 = .ok (.invokevirtual 150, 3) := by decide +kernel
theorem dX7_rest_35 : decode cX7_rest 35 = .ok (.ifCond .ne 6, 3) := by decide +kernel
theorem dX7_rest_38 : decode cX7_rest 38 = .ok (.goto 23, 3) := by decide +kernel
theorem dX7_rest_41 : decode cX7_rest 41 = .ok (.iload_n 3, 1) := by decide +kernel
theorem dX7_rest_42 : decode cX7_rest 42 = .ok (.iload_n 1, 1) := by decide +kernel
theorem dX7_rest_43 : decode cX7_rest 43 = .ok (.if_icmp .ne 15, 3) := by decide +kernel
theorem dX7_rest_46 : decode cX7_rest 46 = .ok (.iload_n 2, 1) := by decide +kernel
theorem dX7_rest_47 : decode cX7_rest 47 = .ok (.ifCond .eq 8, 3) := by decide +kernel
theorem dX7_rest_50 : decode cX7_rest 50 = .ok (.iload 5, 2) := by decide +kernel
theorem dX7_rest_52 : decode cX7_rest 52 = .ok (.goto 5, 3) := by decide +kernel
theorem dX7_rest_55 : decode cX7_rest 55 = .ok (.iload 4, 2) := by decide +kernel
theorem dX7_rest_57 : decode cX7_rest 57 = .ok (.ireturn, 1) := by decide +kernel
theorem dX7_rest_58 : decode cX7_rest 58 = .ok (.iinc 3 1, 3) := by decide +kernel
theorem dX7_rest_61 : decode cX7_rest 61 = .ok (.iinc 5 1, 3) := by decide +kernel
theorem dX7_rest_64 : decode cX7_rest 64 = .ok (.goto (-47), 3) := by decide +kernel
theorem dX7_rest_67 : decode cX7_rest 67 = .ok (.iinc 4 1, 3) := by decide +kernel
theorem dX7_rest_70 : decode cX7_rest 70 = .ok (.goto (-64), 3) := by decide +kernel
theorem dX7_rest_73 : decode cX7_rest 73 = .ok (.aload_n 0, 1) := by decide +kernel
theorem dX7_rest_74 : decode cX7_rest 74 = .ok (.ldc 146, 2) := by decide +kernel
theorem dX7_rest_76 : decode cX7_rest 76 = .ok (.invokevirtual 84, 3) := by decide +kernel
theorem dX7_rest_79 : decode cX7_rest 79 = .ok (.ireturn, 1) := by decide +kernel
set_option maxRecDepth 20000 in
theorem ggX7_sort_X7_isPlace : GoodIn wsX7_sort wsX7_isPlace := goodIn_r _ [7, 8, 9, 6, 10] (by decide +kernel) (by decide +kernel)
set_option maxRecDepth 20000 in
theorem gX7_sort_X7_isPlace : GoodIn wsX7_sort (va_wsS RX7 104 yX7_isPlace wsX7_isPlace) := goodIn_app (goodIn_of _ (by decide +kernel)) ggX7_sort_X7_isPlace
set_option maxRecDepth 20000 in
theorem ggX7_sort_X7_finding : GoodIn wsX7_sort wsX7_finding := goodIn_r _ [14, 15, 45, 46, 47, 48, 49, 50, 51, 52, 53, 54, 55, 56, 57] (by decide +kernel) (by decide +kernel)
set_option maxRecDepth 20000 in
theorem gX7_sort_X7_finding : GoodIn wsX7_sort (wsV RX7 84 RX7 yX7_finding wsX7_finding) := goodIn_app (goodIn_of _ (by decide +kernel)) ggX7_sort_X7_finding
set_option maxRecDepth 20000 in
theorem ggX7_sort_X1_isRest : GoodIn wsX7_sort wsX1_isRest := goodIn_r _ [20, 21, 22, 23, 24, 25, 26, 27, 28, 29, 30, 31, 32, 58, 59, 60] (by decide +kernel) (by decide +kernel)
set_option maxRecDepth 20000 in
theorem gX7_sort_X1_isRest : GoodIn wsX7_sort (wsV RX7 150 RX1 yX1_isRest wsX1_isRest) := goodIn_app (goodIn_of _ (by decide +kernel)) ggX7_sort_X1_isRest
set_option maxRecDepth 20000 in
theorem ggX7_sort_X1_sortAt : GoodIn wsX7_sort wsX1_sortAt := goodIn_r _ [36, 21, 22, 37, 38, 39, 26, 40, 28, 41, 42, 43, 44, 58, 59, 60] (by decide +kernel) (by decide +kernel)
set_option maxRecDepth 20000 in
theorem gX7_sort_X1_sortAt : GoodIn wsX7_sort (wsV RX7 153 RX1 yX1_sortAt wsX1_sortAt) := goodIn_app (goodIn_of _ (by decide +kernel)) ggX7_sort_X1_sortAt
theorem dX7_sort_0 : decode cX7_sort 0 = .ok (.iload_n 1, 1) := by decide +kernel
theorem dX7_sort_1 : decode cX7_sort 1 = .ok (.iload_n 2, 1) := by decide +kernel
theorem dX7_sort_2 : decode cX7_sort 2 = .ok (.invokestatic 104, 3) := by decide +kernel
theorem dX7_sort_5 : decode cX7_sort 5 = .ok (.ifCond .ne 10, 3) := by decide +kernel
theorem dX7_sort_8 : decode cX7_sort 8 = .ok (.aload_n 0, 1) := by decide +kernel
theorem dX7_sort_9 : decode cX7_sort 9 = .ok (.ldc 83, 2) := by decide +kernel
theorem dX7_sort_11 : decode cX7_sort 11 = .ok (.invokevirtual 84, 3) := by decide +kernel
theorem dX7_sort_14 : decode cX7_sort 14 = .ok (.ireturn, 1) := by decide +kernel
theorem dX7_sort_15 : decode cX7_sort 15 = .ok (.aload_n 0, 1) := by decide +kernel
theorem dX7_sort_16 : decode cX7_sort 16 = .ok (.getfield 10, 3) := by decide +kernel
theorem dX7_sort_19 : decode cX7_sort 19 = .ok (.iload_n 1, 1) := by decide +kernel
theorem dX7_sort_20 : decode cX7_sort 20 = .ok (.iload_n 2, 1) := by decide +kernel
theorem dX7_sort_21 : decode cX7_sort 21 = .ok (.invokevirtual 150, 3) := by decide +kernel
theorem dX7_sort_24 : decode cX7_sort 24 = .ok (.ifCond .ne 10, 3) := by decide +kernel
theorem dX7_sort_27 : decode cX7_sort 27 = .ok (.aload_n 0, 1) := by decide +kernel
theorem dX7_sort_28 : decode cX7_sort 28 = .ok (.ldc 146, 2) := by decide +kernel
theorem dX7_sort_30 : decode cX7_sort 30 = .ok (.invokevirtual 84, 3) := by decide +kernel
theorem dX7_sort_33 : decode cX7_sort 33 = .ok (.ireturn, 1) := by decide +kernel
theorem dX7_sort_34 : decode cX7_sort 34 = .ok (.aload_n 0, 1) := by decide +kernel
theorem dX7_sort_35 : decode cX7_sort 35 = .ok (.getfield 10, 3) := by decide +kernel
theorem dX7_sort_38 : decode cX7_sort 38 = .ok (.iload_n 1, 1) := by decide +kernel
theorem dX7_sort_39 : decode cX7_sort 39 = .ok (.iload_n 2, 1) := by decide +kernel
theorem dX7_sort_40 : decode cX7_sort 40 = .ok (.invokevirtual 153, 3) := by decide +kernel
theorem dX7_sort_43 : decode cX7_sort 43 = .ok (.ireturn, 1) := by decide +kernel
set_option maxRecDepth 20000 in
theorem ggX7_sorts_X7_finding : GoodIn wsX7_sorts wsX7_finding := goodIn_r _ [7, 8, 38, 39, 40, 41, 42, 43, 44, 45, 46, 47, 48, 49, 50] (by decide +kernel) (by decide +kernel)
set_option maxRecDepth 20000 in
theorem gX7_sorts_X7_finding : GoodIn wsX7_sorts (wsV RX7 84 RX7 yX7_finding wsX7_finding) := goodIn_app (goodIn_of _ (by decide +kernel)) ggX7_sorts_X7_finding
set_option maxRecDepth 20000 in
theorem ggX7_sorts_X1_isRest : GoodIn wsX7_sorts wsX1_isRest := goodIn_r _ [13, 14, 15, 16, 17, 18, 19, 20, 21, 22, 23, 24, 25, 51, 52, 53] (by decide +kernel) (by decide +kernel)
set_option maxRecDepth 20000 in
theorem gX7_sorts_X1_isRest : GoodIn wsX7_sorts (wsV RX7 150 RX1 yX1_isRest wsX1_isRest) := goodIn_app (goodIn_of _ (by decide +kernel)) ggX7_sorts_X1_isRest
set_option maxRecDepth 20000 in
theorem ggX7_sorts_X1_sortAt : GoodIn wsX7_sorts wsX1_sortAt := goodIn_r _ [29, 14, 15, 30, 31, 32, 19, 33, 21, 34, 35, 36, 37, 51, 52, 53] (by decide +kernel) (by decide +kernel)
set_option maxRecDepth 20000 in
theorem gX7_sorts_X1_sortAt : GoodIn wsX7_sorts (wsV RX7 153 RX1 yX1_sortAt wsX1_sortAt) := goodIn_app (goodIn_of _ (by decide +kernel)) ggX7_sorts_X1_sortAt
theorem dX7_sorts_0 : decode cX7_sorts 0 = .ok (.iload_n 1, 1) := by decide +kernel
theorem dX7_sorts_1 : decode cX7_sorts 1 = .ok (.iconst 1, 1) := by decide +kernel
theorem dX7_sorts_2 : decode cX7_sorts 2 = .ok (.if_icmp .lt 8, 3) := by decide +kernel
theorem dX7_sorts_5 : decode cX7_sorts 5 = .ok (.iload_n 1, 1) := by decide +kernel
theorem dX7_sorts_6 : decode cX7_sorts 6 = .ok (.iconst 5, 1) := by decide +kernel
theorem dX7_sorts_7 : decode cX7_sorts 7 = .ok (.if_icmp .le 10, 3) := by decide +kernel
theorem dX7_sorts_10 : decode cX7_sorts 10 = .ok (.aload_n 0, 1) := by decide +kernel
theorem dX7_sorts_11 : decode cX7_sorts 11 = .ok (.ldc 83, 2) := by decide +kernel
theorem dX7_sorts_13 : decode cX7_sorts 13 = .ok (.invokevirtual 84, 3) := by decide +kernel
theorem dX7_sorts_16 : decode cX7_sorts 16 = .ok (.ireturn, 1) := by decide +kernel
theorem dX7_sorts_17 : decode cX7_sorts 17 = .ok (.iconst 0, 1) := by decide +kernel
theorem dX7_sorts_18 : decode cX7_sorts 18 = .ok (.istore_n 2, 1) := by decide +kernel
theorem dX7_sorts_19 : decode cX7_sorts 19 = .ok (.bipush (-6), 2) := by decide +kernel
theorem dX7_sorts_21 : decode cX7_sorts 21 = .ok (.istore_n 3, 1) := by decide +kernel
theorem dX7_sorts_22 : decode cX7_sorts 22 = .ok (.iload_n 3, 1) := by decide +kernel
theorem dX7_sorts_23 : decode cX7_sorts 23 = .ok (.bipush 6, 2) := by decide +kernel
theorem dX7_sorts_25 : decode cX7_sorts 25 = .ok (.if_icmp .gt 56, 3) := by decide +kernel
theorem dX7_sorts_28 : decode cX7_sorts 28 = .ok (.bipush (-6), 2) := by decide +kernel
theorem dX7_sorts_30 : decode cX7_sorts 30 = .ok (.istore 4, 2) := by decide +kernel
theorem dX7_sorts_32 : decode cX7_sorts 32 = .ok (.iload 4, 2) := by decide +kernel
theorem dX7_sorts_34 : decode cX7_sorts 34 = .ok (.bipush 6, 2) := by decide +kernel
theorem dX7_sorts_36 : decode cX7_sorts 36 = .ok (.if_icmp .gt 39, 3) := by decide +kernel
theorem dX7_sorts_39 : decode cX7_sorts 39 = .ok (.aload_n 0, 1) := by decide +kernel
theorem dX7_sorts_40 : decode cX7_sorts 40 = .ok (.getfield 10, 3) := by decide +kernel
theorem dX7_sorts_43 : decode cX7_sorts 43 = .ok (.iload_n 3, 1) := by decide +kernel
theorem dX7_sorts_44 : decode cX7_sorts 44 = .ok (.iload 4, 2) := by decide +kernel
theorem dX7_sorts_46 : decode cX7_sorts 46 = .ok (.invokevirtual 150, 3) := by decide +kernel
theorem dX7_sorts_49 : decode cX7_sorts 49 = .ok (.ifCond .eq 20, 3) := by decide +kernel
theorem dX7_sorts_52 : decode cX7_sorts 52 = .ok (.aload_n 0, 1) := by decide +kernel
theorem dX7_sorts_53 : decode cX7_sorts 53 = .ok (.getfield 10, 3) := by decide +kernel
theorem dX7_sorts_56 : decode cX7_sorts 56 = .ok (.iload_n 3, 1) := by decide +kernel
theorem dX7_sorts_57 : decode cX7_sorts 57 = .ok (.iload 4, 2) := by decide +kernel
theorem dX7_sorts_59 : decode cX7_sorts 59 = .ok (.invokevirtual 153, 3) := by decide +kernel
theorem dX7_sorts_62 : decode cX7_sorts 62 = .ok (.iload_n 1, 1) := by decide +kernel
theorem dX7_sorts_63 : decode cX7_sorts 63 = .ok (.if_icmp .ne 6, 3) := by decide +kernel
theorem dX7_sorts_66 : decode cX7_sorts 66 = .ok (.iinc 2 1, 3) := by decide +kernel
theorem dX7_sorts_69 : decode cX7_sorts 69 = .ok (.iinc 4 1, 3) := by decide +kernel
theorem dX7_sorts_72 : decode cX7_sorts 72 = .ok (.goto (-40), 3) := by decide +kernel
theorem dX7_sorts_75 : decode cX7_sorts 75 = .ok (.iinc 3 1, 3) := by decide +kernel
theorem dX7_sorts_78 : decode cX7_sorts 78 = .ok (.goto (-56), 3) := by decide +kernel
theorem dX7_sorts_81 : decode cX7_sorts 81 = .ok (.iload_n 2, 1) := by decide +kernel
theorem dX7_sorts_82 : decode cX7_sorts 82 = .ok (.ireturn, 1) := by decide +kernel
set_option maxRecDepth 20000 in
theorem ggX7_corner_X7_isPlace : GoodIn wsX7_corner wsX7_isPlace := goodIn_r _ [11, 12, 13, 10, 14] (by decide +kernel) (by decide +kernel)
set_option maxRecDepth 20000 in
theorem gX7_corner_X7_isPlace : GoodIn wsX7_corner (va_wsS RX7 104 yX7_isPlace wsX7_isPlace) := goodIn_app (goodIn_of _ (by decide +kernel)) ggX7_corner_X7_isPlace
set_option maxRecDepth 20000 in
theorem ggX7_corner_X7_finding : GoodIn wsX7_corner wsX7_finding := goodIn_r _ [18, 19, 54, 55, 56, 57, 58, 59, 60, 61, 62, 63, 64, 65, 66] (by decide +kernel) (by decide +kernel)
set_option maxRecDepth 20000 in
theorem gX7_corner_X7_finding : GoodIn wsX7_corner (wsV RX7 84 RX7 yX7_finding wsX7_finding) := goodIn_app (goodIn_of _ (by decide +kernel)) ggX7_corner_X7_finding
set_option maxRecDepth 20000 in
theorem ggX7_corner_X0_isLatest : GoodIn wsX7_corner wsX0_isLatest := goodIn_r _ [24, 25, 26, 27, 67, 68, 69] (by decide +kernel) (by decide +kernel)
set_option maxRecDepth 20000 in
theorem gX7_corner_X0_isLatest : GoodIn wsX7_corner (wsV RX7 156 RX0 yX0_isLatest wsX0_isLatest) := goodIn_app (goodIn_of _ (by decide +kernel)) ggX7_corner_X0_isLatest
set_option maxRecDepth 20000 in
theorem ggX7_corner_X2_remember : GoodIn wsX7_corner wsX2_remember := goodIn_r _ [32, 33, 34, 35, 36, 37, 38, 39, 40, 41, 42, 43, 44, 45, 46, 47, 48, 49, 70, 71, 72, 73, 74, 75, 67, 68, 69] (by decide +kernel) (by decide +kernel)
set_option maxRecDepth 20000 in
theorem gX7_corner_X2_remember : GoodIn wsX7_corner (wsV RX7 164 RX2 yX2_remember wsX2_remember) := goodIn_app (goodIn_of _ (by decide +kernel)) ggX7_corner_X2_remember
set_option maxRecDepth 20000 in
theorem ggX7_corner_X0_append : GoodIn wsX7_corner wsX0_append := goodIn_r _ [53, 25, 26, 27, 67, 68, 69] (by decide +kernel) (by decide +kernel)
set_option maxRecDepth 20000 in
theorem gX7_corner_X0_append : GoodIn wsX7_corner (wsV RX7 168 RX0 yX0_append wsX0_append) := goodIn_app (goodIn_of _ (by decide +kernel)) ggX7_corner_X0_append
theorem dX7_corner_0 : decode cX7_corner 0 = .ok (.iload_n 1, 1) := by decide +kernel
theorem dX7_corner_1 : decode cX7_corner 1 = .ok (.iload_n 2, 1) := by decide +kernel
theorem dX7_corner_2 : decode cX7_corner 2 = .ok (.invokestatic 104, 3) := by decide +kernel
theorem dX7_corner_5 : decode cX7_corner 5 = .ok (.ifCond .ne 10, 3) := by decide +kernel
theorem dX7_corner_8 : decode cX7_corner 8 = .ok (.aload_n 0, 1) := by decide +kernel
theorem dX7_corner_9 : decode cX7_corner 9 = .ok (.ldc 83, 2) := by decide +kernel
theorem dX7_corner_11 : decode cX7_corner 11 = .ok (.invokevirtual 84, 3) := by decide +kernel
theorem dX7_corner_14 : decode cX7_corner 14 = .ok (.ireturn, 1) := by decide +kernel
theorem dX7_corner_15 : decode cX7_corner 15 = .ok (.aload_n 0, 1) := by decide +kernel
theorem dX7_corner_16 : decode cX7_corner 16 = .ok (.getfield 22, 3) := by decide +kernel
theorem dX7_corner_19 : decode cX7_corner 19 = .ok (.iload_n 1, 1) := by decide +kernel
theorem dX7_corner_20 : decode cX7_corner 20 = .ok (.iload_n 2, 1) := by decide +kernel
theorem dX7_corner_21 : decode cX7_corner 21 = .ok (.invokevirtual 156, 3) := by decide +kernel
theorem dX7_corner_24 : decode cX7_corner 24 = .ok (.ifCond .eq 10, 3) := by decide +kernel
theorem dX7_corner_27 : decode cX7_corner 27 = .ok (.aload_n 0, 1) := by decide +kernel
theorem dX7_corner_28 : decode cX7_corner 28 = .ok (.ldc 159, 2) := by decide +kernel
theorem dX7_corner_30 : decode cX7_corner 30 = .ok (.invokevirtual 84, 3) := by decide +kernel
theorem dX7_corner_33 : decode cX7_corner 33 = .ok (.ireturn, 1) := by decide +kernel
theorem dX7_corner_34 : decode cX7_corner 34 = .ok (.aload_n 0, 1) := by decide +kernel
theorem dX7_corner_35 : decode cX7_corner 35 = .ok (.getfield 22, 3) := by decide +kernel
theorem dX7_corner_38 : decode cX7_corner 38 = .ok (.getfield 160, 3) := by decide +kernel
theorem dX7_corner_41 : decode cX7_corner 41 = .ok (.bipush 8, 2) := by decide +kernel
theorem dX7_corner_43 : decode cX7_corner 43 = .ok (.if_icmp .lt 10, 3) := by decide +kernel
theorem dX7_corner_46 : decode cX7_corner 46 = .ok (.aload_n 0, 1) := by decide +kernel
theorem dX7_corner_47 : decode cX7_corner 47 = .ok (.ldc 163, 2) := by decide +kernel
theorem dX7_corner_49 : decode cX7_corner 49 = .ok (.invokevirtual 84, 3) := by decide +kernel
theorem dX7_corner_52 : decode cX7_corner 52 = .ok (.ireturn, 1) := by decide +kernel
theorem dX7_corner_53 : decode cX7_corner 53 = .ok (.aload_n 0, 1) := by decide +kernel
theorem dX7_corner_54 : decode cX7_corner 54 = .ok (.getfield 29, 3) := by decide +kernel
theorem dX7_corner_57 : decode cX7_corner 57 = .ok (.aload_n 0, 1) := by decide +kernel
theorem dX7_corner_58 : decode cX7_corner 58 = .ok (.getfield 10, 3) := by decide +kernel
theorem dX7_corner_61 : decode cX7_corner 61 = .ok (.aload_n 0, 1) := by decide +kernel
theorem dX7_corner_62 : decode cX7_corner 62 = .ok (.getfield 22, 3) := by decide +kernel
theorem dX7_corner_65 : decode cX7_corner 65 = .ok (.invokevirtual 164, 3) := by decide +kernel
theorem dX7_corner_68 : decode cX7_corner 68 = .ok (.aload_n 0, 1) := by decide +kernel
theorem dX7_corner_69 : decode cX7_corner 69 = .ok (.getfield 22, 3) := by decide +kernel
theorem dX7_corner_72 : decode cX7_corner 72 = .ok (.iload_n 1, 1) := by decide +kernel
theorem dX7_corner_73 : decode cX7_corner 73 = .ok (.iload_n 2, 1) := by decide +kernel
theorem dX7_corner_74 : decode cX7_corner 74 = .ok (.invokevirtual 168, 3) := by decide +kernel
theorem dX7_corner_77 : decode cX7_corner 77 = .ok (.aload_n 0, 1) := by decide +kernel
theorem dX7_corner_78 : decode cX7_corner 78 = .ok (.getfield 22, 3) := by decide +kernel
theorem dX7_corner_81 : decode cX7_corner 81 = .ok (.getfield 160, 3) := by decide +kernel
theorem dX7_corner_84 : decode cX7_corner 84 = .ok (.ireturn, 1) := by decide +kernel
set_option maxRecDepth 20000 in
theorem ggX7_open_X2_remember : GoodIn wsX7_open wsX2_remember := goodIn_r _ [9, 10, 11, 12, 13, 14, 15, 16, 17, 18, 19, 20, 21, 22, 23, 24, 25, 26, 43, 44, 45, 46, 47, 48, 40, 41, 42] (by decide +kernel) (by decide +kernel)
set_option maxRecDepth 20000 in
theorem gX7_open_X2_remember : GoodIn wsX7_open (wsV RX7 164 RX2 yX2_remember wsX2_remember) := goodIn_app (goodIn_of _ (by decide +kernel)) ggX7_open_X2_remember
theorem dX7_open_0 : decode cX7_open 0 = .ok (.aload_n 0, 1) := by decide +kernel
theorem dX7_open_1 : decode cX7_open 1 = .ok (.getfield 22, 3) := by decide +kernel
theorem dX7_open_4 : decode cX7_open 4 = .ok (.getfield 160, 3) := by decide +kernel
theorem dX7_open_7 : decode cX7_open 7 = .ok (.istore_n 1, 1) := by decide +kernel
theorem dX7_open_8 : decode cX7_open 8 = .ok (.aload_n 0, 1) := by decide +kernel
theorem dX7_open_9 : decode cX7_open 9 = .ok (.getfield 29, 3) := by decide +kernel
theorem dX7_open_12 : decode cX7_open 12 = .ok (.aload_n 0, 1) := by decide +kernel
theorem dX7_open_13 : decode cX7_open 13 = .ok (.getfield 10, 3) := by decide +kernel
theorem dX7_open_16 : decode cX7_open 16 = .ok (.aload_n 0, 1) := by decide +kernel
theorem dX7_open_17 : decode cX7_open 17 = .ok (.getfield 22, 3) := by decide +kernel
theorem dX7_open_20 : decode cX7_open 20 = .ok (.invokevirtual 164, 3) := by decide +kernel
theorem dX7_open_23 : decode cX7_open 23 = .ok (.aload_n 0, 1) := by decide +kernel
theorem dX7_open_24 : decode cX7_open 24 = .ok (.getfield 22, 3) := by decide +kernel
theorem dX7_open_27 : decode cX7_open 27 = .ok (.iconst 0, 1) := by decide +kernel
theorem dX7_open_28 : decode cX7_open 28 = .ok (.putfield 160, 3) := by decide +kernel
theorem dX7_open_31 : decode cX7_open 31 = .ok (.iload_n 1, 1) := by decide +kernel
theorem dX7_open_32 : decode cX7_open 32 = .ok (.ireturn, 1) := by decide +kernel
set_option maxRecDepth 20000 in
theorem ggX7_simple_X0_isLeft : GoodIn wsX7_simple wsX0_isLeft := goodIn_r _ [6, 7, 8, 9, 5, 10, 11, 12, 13, 14, 15, 16, 17, 18, 19, 20, 21, 22, 23, 24, 25, 26, 27, 28, 29, 30, 31, 32, 33, 34, 35, 36, 37, 38, 39, 40, 41, 42, 43, 44, 45, 46, 47, 48, 49, 50, 51, 52, 67, 68, 69] (by decide +kernel) (by decide +kernel)
set_option maxRecDepth 20000 in
theorem gX7_simple_X0_isLeft : GoodIn wsX7_simple (wsV RX7 172 RX0 yX0_isLeft wsX0_isLeft) := goodIn_app (goodIn_of _ (by decide +kernel)) ggX7_simple_X0_isLeft
set_option maxRecDepth 20000 in
theorem ggX7_simple_X0_isSimple : GoodIn wsX7_simple wsX0_isSimple := goodIn_r _ [10, 11, 12, 13, 14, 5, 15, 16, 17, 18, 19, 20, 21, 22, 23, 24, 25, 26, 27, 28, 29, 30, 31, 32, 33, 34, 35, 36, 37, 38, 39, 40, 41, 42, 43, 44, 45, 46, 47, 48, 67, 68, 69] (by decide +kernel) (by decide +kernel)
set_option maxRecDepth 20000 in
theorem gX7_simple_X0_isSimple : GoodIn wsX7_simple (wsV RX7 176 RX0 yX0_isSimple wsX0_isSimple) := goodIn_app (goodIn_of _ (by decide +kernel)) ggX7_simple_X0_isSimple
theorem dX7_simple_0 : decode cX7_simple 0 = .ok (.iload_n 1, 1) := by decide +kernel
theorem dX7_simple_1 : decode cX7_simple 1 = .ok (.ifCond .eq 13, 3) := by decide +kernel
theorem dX7_simple_4 : decode cX7_simple 4 = .ok (.aload_n 0, 1) := by decide +kernel
theorem dX7_simple_5 : decode cX7_simple 5 = .ok (.getfield 22, 3) := by decide +kernel
theorem dX7_simple_8 : decode cX7_simple 8 = .ok (.invokevirtual 172, 3) := by decide +kernel
theorem dX7_simple_11 : decode cX7_simple 11 = .ok (.goto 10, 3) := by decide +kernel
theorem dX7_simple_14 : decode cX7_simple 14 = .ok (.aload_n 0, 1) := by decide +kernel
theorem dX7_simple_15 : decode cX7_simple 15 = .ok (.getfield 22, 3) := by decide +kernel
theorem dX7_simple_18 : decode cX7_simple 18 = .ok (.invokevirtual 176, 3) := by decide +kernel
theorem dX7_simple_21 : decode cX7_simple 21 = .ok (.istore_n 2, 1) := by decide +kernel
theorem dX7_simple_22 : decode cX7_simple 22 = .ok (.iload_n 2, 1) := by decide +kernel
theorem dX7_simple_23 : decode cX7_simple 23 = .ok (.ifCond .eq 7, 3) := by decide +kernel
theorem dX7_simple_26 : decode cX7_simple 26 = .ok (.iconst 1, 1) := by decide +kernel
theorem dX7_simple_27 : decode cX7_simple 27 = .ok (.goto 4, 3) := by decide +kernel
theorem dX7_simple_30 : decode cX7_simple 30 = .ok (.iconst 0, 1) := by decide +kernel
theorem dX7_simple_31 : decode cX7_simple 31 = .ok (.ireturn, 1) := by decide +kernel
set_option maxRecDepth 20000 in
theorem ggX7_area_X0_doubleArea : GoodIn wsX7_area wsX0_doubleArea := goodIn_r _ [6, 7, 8, 9, 23, 24, 25] (by decide +kernel) (by decide +kernel)
set_option maxRecDepth 20000 in
theorem gX7_area_X0_doubleArea : GoodIn wsX7_area (wsV RX7 179 RX0 yX0_doubleArea wsX0_doubleArea) := goodIn_app (goodIn_of _ (by decide +kernel)) ggX7_area_X0_doubleArea
theorem dX7_area_0 : decode cX7_area 0 = .ok (.aload_n 0, 1) := by decide +kernel
theorem dX7_area_1 : decode cX7_area 1 = .ok (.getfield 22, 3) := by decide +kernel
theorem dX7_area_4 : decode cX7_area 4 = .ok (.invokevirtual 179, 3) := by decide +kernel
theorem dX7_area_7 : decode cX7_area 7 = .ok (.ireturn, 1) := by decide +kernel
set_option maxRecDepth 20000 in
theorem ggX7_within_X7_isPlace : GoodIn wsX7_within wsX7_isPlace := goodIn_r _ [7, 8, 9, 6, 10] (by decide +kernel) (by decide +kernel)
set_option maxRecDepth 20000 in
theorem gX7_within_X7_isPlace : GoodIn wsX7_within (va_wsS RX7 104 yX7_isPlace wsX7_isPlace) := goodIn_app (goodIn_of _ (by decide +kernel)) ggX7_within_X7_isPlace
set_option maxRecDepth 20000 in
theorem ggX7_within_X7_finding : GoodIn wsX7_within wsX7_finding := goodIn_r _ [14, 15, 67, 68, 69, 70, 71, 72, 73, 74, 75, 76, 77, 78, 79] (by decide +kernel) (by decide +kernel)
set_option maxRecDepth 20000 in
theorem gX7_within_X7_finding : GoodIn wsX7_within (wsV RX7 84 RX7 yX7_finding wsX7_finding) := goodIn_app (goodIn_of _ (by decide +kernel)) ggX7_within_X7_finding
set_option maxRecDepth 20000 in
theorem ggX7_within_X0_isSimple : GoodIn wsX7_within wsX0_isSimple := goodIn_r _ [20, 21, 22, 23, 24, 19, 25, 26, 27, 28, 29, 30, 31, 32, 33, 34, 35, 36, 37, 38, 39, 40, 41, 42, 43, 44, 45, 46, 47, 48, 49, 50, 51, 52, 53, 54, 55, 56, 57, 58, 80, 81, 82] (by decide +kernel) (by decide +kernel)
set_option maxRecDepth 20000 in
theorem gX7_within_X0_isSimple : GoodIn wsX7_within (wsV RX7 176 RX0 yX0_isSimple wsX0_isSimple) := goodIn_app (goodIn_of _ (by decide +kernel)) ggX7_within_X0_isSimple
set_option maxRecDepth 20000 in
theorem ggX7_within_X0_whereIs : GoodIn wsX7_within wsX0_whereIs := goodIn_r _ [62, 21, 36, 37, 38, 19, 39, 26, 40, 41, 42, 43, 44, 45, 46, 27, 47, 48, 49, 50, 63, 64, 65, 66, 80, 81, 82] (by decide +kernel) (by decide +kernel)
set_option maxRecDepth 20000 in
theorem gX7_within_X0_whereIs : GoodIn wsX7_within (wsV RX7 183 RX0 yX0_whereIs wsX0_whereIs) := goodIn_app (goodIn_of _ (by decide +kernel)) ggX7_within_X0_whereIs

theorem dX7_within_0 : decode cX7_within 0 = .ok (.iload_n 1, 1) := by decide +kernel
theorem dX7_within_1 : decode cX7_within 1 = .ok (.iload_n 2, 1) := by decide +kernel
theorem dX7_within_2 : decode cX7_within 2 = .ok (.invokestatic 104, 3) := by decide +kernel
theorem dX7_within_5 : decode cX7_within 5 = .ok (.ifCond .ne 10, 3) := by decide +kernel
theorem dX7_within_8 : decode cX7_within 8 = .ok (.aload_n 0, 1) := by decide +kernel
theorem dX7_within_9 : decode cX7_within 9 = .ok (.ldc 83, 2) := by decide +kernel
theorem dX7_within_11 : decode cX7_within 11 = .ok (.invokevirtual 84, 3) := by decide +kernel
theorem dX7_within_14 : decode cX7_within 14 = .ok (.ireturn, 1) := by decide +kernel
theorem dX7_within_15 : decode cX7_within 15 = .ok (.aload_n 0, 1) := by decide +kernel
theorem dX7_within_16 : decode cX7_within 16 = .ok (.getfield 22, 3) := by decide +kernel
theorem dX7_within_19 : decode cX7_within 19 = .ok (.invokevirtual 176, 3) := by decide +kernel
theorem dX7_within_22 : decode cX7_within 22 = .ok (.ifCond .ne 10, 3) := by decide +kernel
theorem dX7_within_25 : decode cX7_within 25 = .ok (.aload_n 0, 1) := by decide +kernel
theorem dX7_within_26 : decode cX7_within 26 = .ok (.ldc 182, 2) := by decide +kernel
theorem dX7_within_28 : decode cX7_within 28 = .ok (.invokevirtual 84, 3) := by decide +kernel
theorem dX7_within_31 : decode cX7_within 31 = .ok (.ireturn, 1) := by decide +kernel
theorem dX7_within_32 : decode cX7_within 32 = .ok (.aload_n 0, 1) := by decide +kernel
theorem dX7_within_33 : decode cX7_within 33 = .ok (.getfield 22, 3) := by decide +kernel
theorem dX7_within_36 : decode cX7_within 36 = .ok (.iload_n 1, 1) := by decide +kernel
theorem dX7_within_37 : decode cX7_within 37 = .ok (.iload_n 2, 1) := by decide +kernel
theorem dX7_within_38 : decode cX7_within 38 = .ok (.invokevirtual 183, 3) := by decide +kernel
theorem dX7_within_41 : decode cX7_within 41 = .ok (.ireturn, 1) := by decide +kernel
set_option maxRecDepth 20000 in
theorem ggX7_across_X7_refusalOfPiece : GoodIn wsX7_across wsX7_refusalOfPiece := goodIn_r _ [5, 6, 7, 8, 9, 10, 11, 12, 13, 14, 15, 16, 17, 18, 19, 20, 124, 125, 126, 127, 128, 129, 130, 131, 132, 133, 134, 135, 136, 137, 138, 139] (by decide +kernel) (by decide +kernel)
set_option maxRecDepth 20000 in
theorem gX7_across_X7_refusalOfPiece : GoodIn wsX7_across (wsV RX7 186 RX7 yX7_refusalOfPiece wsX7_refusalOfPiece) := goodIn_app (goodIn_of _ (by decide +kernel)) ggX7_across_X7_refusalOfPiece
set_option maxRecDepth 20000 in
theorem ggX7_across_X7_finding : GoodIn wsX7_across wsX7_finding := goodIn_r _ [24, 25, 124, 125, 126, 127, 128, 129, 130, 131, 132, 133, 134, 135, 136] (by decide +kernel) (by decide +kernel)
set_option maxRecDepth 20000 in
theorem gX7_across_X7_finding : GoodIn wsX7_across (wsV RX7 84 RX7 yX7_finding wsX7_finding) := goodIn_app (goodIn_of _ (by decide +kernel)) ggX7_across_X7_finding
set_option maxRecDepth 20000 in
theorem ggX7_across_X7_signAcross : GoodIn wsX7_across wsX7_signAcross := goodIn_r _ [29, 30, 31, 32, 33, 34, 4, 35, 6, 36, 37, 38, 39, 40, 41, 42, 43, 44, 45, 46, 47, 48, 49, 50, 51, 52, 53, 54, 55, 11, 12, 13, 14, 15, 56, 17, 18, 19, 20, 57, 58, 59, 60, 61, 62, 63, 64, 65, 66, 67, 68, 69, 70, 71, 72, 73, 74, 75, 10, 16, 76, 77, 78, 79, 80, 81, 82, 83, 84, 85, 86, 87, 88, 89, 90, 91, 92, 93, 94, 95, 96, 97, 98, 99, 100, 101, 102, 103, 104, 105, 106, 107, 108, 109, 110, 111, 112, 113, 114, 115, 116, 117, 118, 119, 120, 121, 122, 123, 124, 125, 126, 127, 128, 129, 130, 131, 132, 133, 134, 135, 136, 140, 141, 142, 143, 144, 137, 138, 139, 145] (by decide +kernel) (by decide +kernel)
set_option maxRecDepth 20000 in
theorem gX7_across_X7_signAcross : GoodIn wsX7_across (wsV RX7 189 RX7 yX7_signAcross wsX7_signAcross) := goodIn_app (goodIn_of _ (by decide +kernel)) ggX7_across_X7_signAcross
theorem dX7_across_0 : decode cX7_across 0 = .ok (.aload_n 0, 1) := by decide +kernel
theorem dX7_across_1 : decode cX7_across 1 = .ok (.iload_n 1, 1) := by decide +kernel
theorem dX7_across_2 : decode cX7_across 2 = .ok (.invokevirtual 186, 3) := by decide +kernel
theorem dX7_across_5 : decode cX7_across 5 = .ok (.istore_n 2, 1) := by decide +kernel
theorem dX7_across_6 : decode cX7_across 6 = .ok (.iload_n 2, 1) := by decide +kernel
theorem dX7_across_7 : decode cX7_across 7 = .ok (.ifCond .eq 9, 3) := by decide +kernel
theorem dX7_across_10 : decode cX7_across 10 = .ok (.aload_n 0, 1) := by decide +kernel
theorem dX7_across_11 : decode cX7_across 11 = .ok (.iload_n 2, 1) := by decide +kernel
theorem dX7_across_12 : decode cX7_across 12 = .ok (.invokevirtual 84, 3) := by decide +kernel
theorem dX7_across_15 : decode cX7_across 15 = .ok (.ireturn, 1) := by decide +kernel
theorem dX7_across_16 : decode cX7_across 16 = .ok (.aload_n 0, 1) := by decide +kernel
theorem dX7_across_17 : decode cX7_across 17 = .ok (.iload_n 1, 1) := by decide +kernel
theorem dX7_across_18 : decode cX7_across 18 = .ok (.invokevirtual 189, 3) := by decide +kernel
theorem dX7_across_21 : decode cX7_across 21 = .ok (.ireturn, 1) := by decide +kernel
set_option maxRecDepth 20000 in
theorem ggX7_turns_X7_refusalOfPiece : GoodIn wsX7_turns wsX7_refusalOfPiece := goodIn_r _ [6, 7, 8, 9, 10, 11, 12, 13, 14, 15, 16, 17, 18, 19, 20, 21, 118, 119, 120, 121, 122, 123, 124, 125, 126, 127, 128, 129, 130, 131, 132, 133] (by decide +kernel) (by decide +kernel)
set_option maxRecDepth 20000 in
theorem gX7_turns_X7_refusalOfPiece : GoodIn wsX7_turns (wsV RX7 186 RX7 yX7_refusalOfPiece wsX7_refusalOfPiece) := goodIn_app (goodIn_of _ (by decide +kernel)) ggX7_turns_X7_refusalOfPiece
set_option maxRecDepth 20000 in
theorem ggX7_turns_X7_finding : GoodIn wsX7_turns wsX7_finding := goodIn_r _ [25, 26, 118, 119, 120, 121, 122, 123, 124, 125, 126, 127, 128, 129, 130] (by decide +kernel) (by decide +kernel)
set_option maxRecDepth 20000 in
theorem gX7_turns_X7_finding : GoodIn wsX7_turns (wsV RX7 84 RX7 yX7_finding wsX7_finding) := goodIn_app (goodIn_of _ (by decide +kernel)) ggX7_turns_X7_finding
set_option maxRecDepth 20000 in
theorem ggX7_turns_X7_followAcross : GoodIn wsX7_turns wsX7_followAcross := goodIn_r _ [30, 1, 7, 31, 32, 33, 34, 35, 5, 36, 37, 38, 39, 40, 41, 42, 43, 44, 45, 46, 47, 48, 49, 50, 12, 13, 14, 15, 16, 51, 18, 19, 20, 21, 52, 53, 54, 55, 56, 57, 58, 59, 60, 61, 62, 63, 64, 65, 66, 67, 68, 69, 70, 11, 17, 71, 72, 73, 74, 118, 119, 120, 121, 122, 123, 124, 125, 126, 127, 128, 129, 130, 134, 135, 131, 132, 133, 136, 137, 138, 139] (by decide +kernel) (by decide +kernel)
set_option maxRecDepth 20000 in
theorem gX7_turns_X7_followAcross : GoodIn wsX7_turns (wsV RX7 192 RX7 yX7_followAcross wsX7_followAcross) := goodIn_app (goodIn_of _ (by decide +kernel)) ggX7_turns_X7_followAcross
set_option maxRecDepth 20000 in
theorem ggX7_turns_X4_zerosOnPiece : GoodIn wsX7_turns wsX4_zerosOnPiece := goodIn_r _ [78, 79, 80, 81, 43, 82, 47, 48, 49, 83, 84, 85, 86, 87, 88, 89, 90, 91, 92, 93, 94, 95, 96, 97, 98, 99, 100, 101, 102, 103, 104, 105, 106, 107, 108, 109, 110, 111, 112, 113, 114, 115, 116, 117, 136, 137, 138] (by decide +kernel) (by decide +kernel)
set_option maxRecDepth 20000 in
theorem gX7_turns_X4_zerosOnPiece : GoodIn wsX7_turns (wsV RX7 196 RX4 yX4_zerosOnPiece wsX4_zerosOnPiece) := goodIn_app (goodIn_of _ (by decide +kernel)) ggX7_turns_X4_zerosOnPiece
theorem dX7_turns_0 : decode cX7_turns 0 = .ok (.aload_n 0, 1) := by decide +kernel
theorem dX7_turns_1 : decode cX7_turns 1 = .ok (.iload_n 1, 1) := by decide +kernel
theorem dX7_turns_2 : decode cX7_turns 2 = .ok (.invokevirtual 186, 3) := by decide +kernel
theorem dX7_turns_5 : decode cX7_turns 5 = .ok (.istore_n 2, 1) := by decide +kernel
theorem dX7_turns_6 : decode cX7_turns 6 = .ok (.iload_n 2, 1) := by decide +kernel
theorem dX7_turns_7 : decode cX7_turns 7 = .ok (.ifCond .eq 9, 3) := by decide +kernel
theorem dX7_turns_10 : decode cX7_turns 10 = .ok (.aload_n 0, 1) := by decide +kernel
theorem dX7_turns_11 : decode cX7_turns 11 = .ok (.iload_n 2, 1) := by decide +kernel
theorem dX7_turns_12 : decode cX7_turns 12 = .ok (.invokevirtual 84, 3) := by decide +kernel
theorem dX7_turns_15 : decode cX7_turns 15 = .ok (.ireturn, 1) := by decide +kernel
theorem dX7_turns_16 : decode cX7_turns 16 = .ok (.aload_n 0, 1) := by decide +kernel
theorem dX7_turns_17 : decode cX7_turns 17 = .ok (.iload_n 1, 1) := by decide +kernel
theorem dX7_turns_18 : decode cX7_turns 18 = .ok (.invokevirtual 192, 3) := by decide +kernel
theorem dX7_turns_21 : decode cX7_turns 21 = .ok (.aload_n 0, 1) := by decide +kernel
theorem dX7_turns_22 : decode cX7_turns 22 = .ok (.getfield 58, 3) := by decide +kernel
theorem dX7_turns_25 : decode cX7_turns 25 = .ok (.invokevirtual 196, 3) := by decide +kernel
theorem dX7_turns_28 : decode cX7_turns 28 = .ok (.ireturn, 1) := by decide +kernel
set_option maxRecDepth 20000 in
theorem ggX7_held_X0_isLeft : GoodIn wsX7_held wsX0_isLeft := goodIn_r _ [8, 9, 10, 11, 7, 12, 13, 14, 15, 16, 17, 18, 19, 20, 21, 22, 23, 24, 25, 26, 27, 28, 29, 30, 31, 32, 33, 34, 35, 36, 37, 38, 39, 40, 41, 42, 43, 44, 45, 46, 47, 48, 49, 50, 51, 52, 53, 54, 180, 181, 182] (by decide +kernel) (by decide +kernel)
set_option maxRecDepth 20000 in
theorem gX7_held_X0_isLeft : GoodIn wsX7_held (wsV RX7 172 RX0 yX0_isLeft wsX0_isLeft) := goodIn_app (goodIn_of _ (by decide +kernel)) ggX7_held_X0_isLeft
set_option maxRecDepth 20000 in
theorem ggX7_held_X7_finding : GoodIn wsX7_held wsX7_finding := goodIn_r _ [59, 60, 167, 168, 169, 170, 171, 172, 173, 174, 175, 176, 177, 178, 179] (by decide +kernel) (by decide +kernel)
set_option maxRecDepth 20000 in
theorem gX7_held_X7_finding : GoodIn wsX7_held (wsV RX7 84 RX7 yX7_finding wsX7_finding) := goodIn_app (goodIn_of _ (by decide +kernel)) ggX7_held_X7_finding
set_option maxRecDepth 20000 in
theorem ggX7_held_X7_signAcross : GoodIn wsX7_held wsX7_signAcross := goodIn_r _ [64, 65, 66, 67, 68, 69, 58, 70, 1, 71, 72, 73, 74, 75, 76, 77, 78, 79, 80, 81, 82, 83, 84, 85, 86, 87, 88, 89, 90, 91, 92, 7, 93, 18, 94, 95, 96, 97, 19, 98, 99, 100, 101, 102, 103, 104, 105, 106, 107, 108, 109, 110, 111, 112, 113, 114, 115, 116, 117, 118, 119, 120, 121, 122, 123, 124, 125, 126, 127, 128, 129, 130, 131, 132, 133, 134, 135, 136, 137, 138, 139, 140, 141, 142, 143, 144, 145, 146, 147, 148, 149, 150, 151, 152, 153, 154, 155, 156, 157, 158, 159, 160, 161, 162, 163, 164, 165, 166, 167, 168, 169, 170, 171, 172, 173, 174, 175, 176, 177, 178, 179, 183, 184, 185, 186, 187, 180, 181, 182, 188] (by decide +kernel) (by decide +kernel)
set_option maxRecDepth 20000 in
theorem gX7_held_X7_signAcross : GoodIn wsX7_held (wsV RX7 189 RX7 yX7_signAcross wsX7_signAcross) := goodIn_app (goodIn_of _ (by decide +kernel)) ggX7_held_X7_signAcross
theorem dX7_held_0 : decode cX7_held 0 = .ok (.aload_n 0, 1) := by decide +kernel
theorem dX7_held_1 : decode cX7_held 1 = .ok (.getfield 22, 3) := by decide +kernel
theorem dX7_held_4 : decode cX7_held 4 = .ok (.invokevirtual 172, 3) := by decide +kernel
theorem dX7_held_7 : decode cX7_held 7 = .ok (.ifCond .ne 10, 3) := by decide +kernel
theorem dX7_held_10 : decode cX7_held 10 = .ok (.aload_n 0, 1) := by decide +kernel
theorem dX7_held_11 : decode cX7_held 11 = .ok (.ldc 182, 2) := by decide +kernel
theorem dX7_held_13 : decode cX7_held 13 = .ok (.invokevirtual 84, 3) := by decide +kernel
theorem dX7_held_16 : decode cX7_held 16 = .ok (.ireturn, 1) := by decide +kernel
theorem dX7_held_17 : decode cX7_held 17 = .ok (.iload_n 1, 1) := by decide +kernel
theorem dX7_held_18 : decode cX7_held 18 = .ok (.ifCond .eq 7, 3) := by decide +kernel
theorem dX7_held_21 : decode cX7_held 21 = .ok (.iconst (-1), 1) := by decide +kernel
theorem dX7_held_22 : decode cX7_held 22 = .ok (.goto 4, 3) := by decide +kernel
theorem dX7_held_25 : decode cX7_held 25 = .ok (.iconst 1, 1) := by decide +kernel
theorem dX7_held_26 : decode cX7_held 26 = .ok (.istore_n 2, 1) := by decide +kernel
theorem dX7_held_27 : decode cX7_held 27 = .ok (.iconst 0, 1) := by decide +kernel
theorem dX7_held_28 : decode cX7_held 28 = .ok (.istore_n 3, 1) := by decide +kernel
theorem dX7_held_29 : decode cX7_held 29 = .ok (.iload_n 3, 1) := by decide +kernel
theorem dX7_held_30 : decode cX7_held 30 = .ok (.aload_n 0, 1) := by decide +kernel
theorem dX7_held_31 : decode cX7_held 31 = .ok (.getfield 22, 3) := by decide +kernel
theorem dX7_held_34 : decode cX7_held 34 = .ok (.getfield 160, 3) := by decide +kernel
theorem dX7_held_37 : decode cX7_held 37 = .ok (.if_icmp .ge 20, 3) := by decide +kernel
theorem dX7_held_40 : decode cX7_held 40 = .ok (.aload_n 0, 1) := by decide +kernel
theorem dX7_held_41 : decode cX7_held 41 = .ok (.iload_n 3, 1) := by decide +kernel
theorem dX7_held_42 : decode cX7_held 42 = .ok (.invokevirtual 189, 3) := by decide +kernel
theorem dX7_held_45 : decode cX7_held 45 = .ok (.iload_n 2, 1) := by decide +kernel
theorem dX7_held_46 : decode cX7_held 46 = .ok (.if_icmp .eq 5, 3) := by decide +kernel
theorem dX7_held_49 : decode cX7_held 49 = .ok (.iconst 0, 1) := by decide +kernel
theorem dX7_held_50 : decode cX7_held 50 = .ok (.ireturn, 1) := by decide +kernel
theorem dX7_held_51 : decode cX7_held 51 = .ok (.iinc 3 1, 3) := by decide +kernel
theorem dX7_held_54 : decode cX7_held 54 = .ok (.goto (-25), 3) := by decide +kernel
theorem dX7_held_57 : decode cX7_held 57 = .ok (.iconst 1, 1) := by decide +kernel
theorem dX7_held_58 : decode cX7_held 58 = .ok (.ireturn, 1) := by decide +kernel
set_option maxRecDepth 20000 in
theorem ggX7_wind_X7_finding : GoodIn wsX7_wind wsX7_finding := goodIn_r _ [11, 12, 123, 124, 125, 126, 127, 128, 129, 130, 131, 132, 133, 134, 135] (by decide +kernel) (by decide +kernel)
set_option maxRecDepth 20000 in
theorem gX7_wind_X7_finding : GoodIn wsX7_wind (wsV RX7 84 RX7 yX7_finding wsX7_finding) := goodIn_app (goodIn_of _ (by decide +kernel)) ggX7_wind_X7_finding
set_option maxRecDepth 20000 in
theorem ggX7_wind_X7_followSpeeds : GoodIn wsX7_wind wsX7_followSpeeds := goodIn_r _ [16, 5, 17, 18, 1, 4, 19, 20, 21, 22, 23, 24, 25, 26, 27, 28, 29, 30, 31, 32, 33, 34, 35, 36, 37, 38, 39, 40, 41, 42, 43, 44, 45, 46, 47, 48, 49, 50, 51, 52, 53, 54, 55, 56, 57, 58, 59, 123, 124, 125, 126, 127, 128, 129, 130, 131, 132, 133, 134, 135, 139, 140, 136, 137, 138, 141, 142, 143, 144] (by decide +kernel) (by decide +kernel)
set_option maxRecDepth 20000 in
theorem gX7_wind_X7_followSpeeds : GoodIn wsX7_wind (wsV RX7 199 RX7 yX7_followSpeeds wsX7_followSpeeds) := goodIn_app (goodIn_of _ (by decide +kernel)) ggX7_wind_X7_followSpeeds
set_option maxRecDepth 20000 in
theorem ggX7_wind_X4_meetsZeroOf : GoodIn wsX7_wind wsX4_meetsZeroOf := goodIn_r _ [63, 64, 65, 66, 23, 67, 27, 28, 29, 68, 69, 70, 71, 72, 73, 74, 75, 76, 77, 78, 79, 80, 81, 82, 83, 84, 85, 86, 87, 88, 89, 90, 91, 92, 93, 94, 95, 96, 97, 98, 99, 100, 101, 102, 103, 104, 105, 106, 107, 108, 109, 110, 141, 142, 143] (by decide +kernel) (by decide +kernel)
set_option maxRecDepth 20000 in
theorem gX7_wind_X4_meetsZeroOf : GoodIn wsX7_wind (wsV RX7 202 RX4 yX4_meetsZeroOf wsX4_meetsZeroOf) := goodIn_app (goodIn_of _ (by decide +kernel)) ggX7_wind_X4_meetsZeroOf
set_option maxRecDepth 20000 in
theorem ggX7_wind_X4_upwardCrossings : GoodIn wsX7_wind wsX4_upwardCrossings := goodIn_r _ [114, 72, 73, 74, 23, 75, 27, 28, 76, 77, 78, 79, 80, 29, 81, 82, 83, 84, 85, 86, 87, 88, 89, 90, 91, 92, 93, 94, 95, 96, 97, 98, 99, 100, 101, 102, 103, 104, 105, 106, 107, 108, 109, 110, 115, 116, 117, 118, 119, 120, 121, 122, 141, 142, 143] (by decide +kernel) (by decide +kernel)
set_option maxRecDepth 20000 in
theorem gX7_wind_X4_upwardCrossings : GoodIn wsX7_wind (wsV RX7 207 RX4 yX4_upwardCrossings wsX4_upwardCrossings) := goodIn_app (goodIn_of _ (by decide +kernel)) ggX7_wind_X4_upwardCrossings
theorem dX7_wind_0 : decode cX7_wind 0 = .ok (.aload_n 0, 1) := by decide +kernel
theorem dX7_wind_1 : decode cX7_wind 1 = .ok (.getfield 22, 3) := by decide +kernel
theorem dX7_wind_4 : decode cX7_wind 4 = .ok (.getfield 160, 3) := by decide +kernel
theorem dX7_wind_7 : decode cX7_wind 7 = .ok (.iconst 2, 1) := by decide +kernel
theorem dX7_wind_8 : decode cX7_wind 8 = .ok (.if_icmp .ge 10, 3) := by decide +kernel
theorem dX7_wind_11 : decode cX7_wind 11 = .ok (.aload_n 0, 1) := by decide +kernel
theorem dX7_wind_12 : decode cX7_wind 12 = .ok (.ldc 146, 2) := by decide +kernel
theorem dX7_wind_14 : decode cX7_wind 14 = .ok (.invokevirtual 84, 3) := by decide +kernel
theorem dX7_wind_17 : decode cX7_wind 17 = .ok (.ireturn, 1) := by decide +kernel
theorem dX7_wind_18 : decode cX7_wind 18 = .ok (.iconst 0, 1) := by decide +kernel
theorem dX7_wind_19 : decode cX7_wind 19 = .ok (.istore_n 1, 1) := by decide +kernel
theorem dX7_wind_20 : decode cX7_wind 20 = .ok (.iconst 0, 1) := by decide +kernel
theorem dX7_wind_21 : decode cX7_wind 21 = .ok (.istore_n 2, 1) := by decide +kernel
theorem dX7_wind_22 : decode cX7_wind 22 = .ok (.iload_n 2, 1) := by decide +kernel
theorem dX7_wind_23 : decode cX7_wind 23 = .ok (.aload_n 0, 1) := by decide +kernel
theorem dX7_wind_24 : decode cX7_wind 24 = .ok (.getfield 22, 3) := by decide +kernel
theorem dX7_wind_27 : decode cX7_wind 27 = .ok (.getfield 160, 3) := by decide +kernel
theorem dX7_wind_30 : decode cX7_wind 30 = .ok (.if_icmp .ge 49, 3) := by decide +kernel
theorem dX7_wind_33 : decode cX7_wind 33 = .ok (.aload_n 0, 1) := by decide +kernel
theorem dX7_wind_34 : decode cX7_wind 34 = .ok (.iload_n 2, 1) := by decide +kernel
theorem dX7_wind_35 : decode cX7_wind 35 = .ok (.invokevirtual 199, 3) := by decide +kernel
theorem dX7_wind_38 : decode cX7_wind 38 = .ok (.aload_n 0, 1) := by decide +kernel
theorem dX7_wind_39 : decode cX7_wind 39 = .ok (.getfield 55, 3) := by decide +kernel
theorem dX7_wind_42 : decode cX7_wind 42 = .ok (.aload_n 0, 1) := by decide +kernel
theorem dX7_wind_43 : decode cX7_wind 43 = .ok (.getfield 51, 3) := by decide +kernel
theorem dX7_wind_46 : decode cX7_wind 46 = .ok (.invokevirtual 202, 3) := by decide +kernel
theorem dX7_wind_49 : decode cX7_wind 49 = .ok (.ifCond .eq 10, 3) := by decide +kernel
theorem dX7_wind_52 : decode cX7_wind 52 = .ok (.aload_n 0, 1) := by decide +kernel
theorem dX7_wind_53 : decode cX7_wind 53 = .ok (.ldc 206, 2) := by decide +kernel
theorem dX7_wind_55 : decode cX7_wind 55 = .ok (.invokevirtual 84, 3) := by decide +kernel
theorem dX7_wind_58 : decode cX7_wind 58 = .ok (.ireturn, 1) := by decide +kernel
theorem dX7_wind_59 : decode cX7_wind 59 = .ok (.iload_n 1, 1) := by decide +kernel
theorem dX7_wind_60 : decode cX7_wind 60 = .ok (.aload_n 0, 1) := by decide +kernel
theorem dX7_wind_61 : decode cX7_wind 61 = .ok (.getfield 55, 3) := by decide +kernel
theorem dX7_wind_64 : decode cX7_wind 64 = .ok (.aload_n 0, 1) := by decide +kernel
theorem dX7_wind_65 : decode cX7_wind 65 = .ok (.getfield 51, 3) := by decide +kernel
theorem dX7_wind_68 : decode cX7_wind 68 = .ok (.invokevirtual 207, 3) := by decide +kernel
theorem dX7_wind_71 : decode cX7_wind 71 = .ok (.iadd, 1) := by decide +kernel
theorem dX7_wind_72 : decode cX7_wind 72 = .ok (.istore_n 1, 1) := by decide +kernel
theorem dX7_wind_73 : decode cX7_wind 73 = .ok (.iinc 2 1, 3) := by decide +kernel
theorem dX7_wind_76 : decode cX7_wind 76 = .ok (.goto (-54), 3) := by decide +kernel
theorem dX7_wind_79 : decode cX7_wind 79 = .ok (.iload_n 1, 1) := by decide +kernel
theorem dX7_wind_80 : decode cX7_wind 80 = .ok (.ireturn, 1) := by decide +kernel
set_option maxRecDepth 20000 in
theorem ggX7_indexes_X0_isSimple : GoodIn wsX7_indexes wsX0_isSimple := goodIn_r _ [9, 10, 11, 12, 13, 8, 14, 15, 16, 17, 18, 19, 20, 21, 22, 23, 24, 25, 26, 27, 28, 29, 30, 31, 32, 33, 34, 35, 36, 37, 38, 39, 40, 41, 42, 43, 44, 45, 46, 47, 104, 105, 106] (by decide +kernel) (by decide +kernel)
set_option maxRecDepth 20000 in
theorem gX7_indexes_X0_isSimple : GoodIn wsX7_indexes (wsV RX7 176 RX0 yX0_isSimple wsX0_isSimple) := goodIn_app (goodIn_of _ (by decide +kernel)) ggX7_indexes_X0_isSimple
set_option maxRecDepth 20000 in
theorem ggX7_indexes_X7_finding : GoodIn wsX7_indexes wsX7_finding := goodIn_r _ [52, 53, 91, 92, 93, 94, 95, 96, 97, 98, 99, 100, 101, 102, 103] (by decide +kernel) (by decide +kernel)
set_option maxRecDepth 20000 in
theorem gX7_indexes_X7_finding : GoodIn wsX7_indexes (wsV RX7 84 RX7 yX7_finding wsX7_finding) := goodIn_app (goodIn_of _ (by decide +kernel)) ggX7_indexes_X7_finding
set_option maxRecDepth 20000 in
theorem ggX7_indexes_X1_isRest : GoodIn wsX7_indexes wsX1_isRest := goodIn_r _ [58, 59, 60, 61, 62, 63, 64, 65, 66, 67, 68, 69, 70, 107, 108, 109] (by decide +kernel) (by decide +kernel)
set_option maxRecDepth 20000 in
theorem gX7_indexes_X1_isRest : GoodIn wsX7_indexes (wsV RX7 150 RX1 yX1_isRest wsX1_isRest) := goodIn_app (goodIn_of _ (by decide +kernel)) ggX7_indexes_X1_isRest
set_option maxRecDepth 20000 in
theorem ggX7_indexes_X0_whereIs : GoodIn wsX7_indexes wsX0_whereIs := goodIn_r _ [74, 10, 25, 26, 27, 8, 28, 15, 29, 30, 31, 32, 33, 34, 35, 16, 36, 37, 38, 39, 75, 76, 77, 78, 104, 105, 106] (by decide +kernel) (by decide +kernel)
set_option maxRecDepth 20000 in
theorem gX7_indexes_X0_whereIs : GoodIn wsX7_indexes (wsV RX7 183 RX0 yX0_whereIs wsX0_whereIs) := goodIn_app (goodIn_of _ (by decide +kernel)) ggX7_indexes_X0_whereIs
set_option maxRecDepth 20000 in
theorem ggX7_indexes_X1_sortAt : GoodIn wsX7_indexes wsX1_sortAt := goodIn_r _ [82, 59, 60, 83, 84, 85, 64, 86, 66, 87, 88, 89, 90, 107, 108, 109] (by decide +kernel) (by decide +kernel)
set_option maxRecDepth 20000 in
theorem gX7_indexes_X1_sortAt : GoodIn wsX7_indexes (wsV RX7 153 RX1 yX1_sortAt wsX1_sortAt) := goodIn_app (goodIn_of _ (by decide +kernel)) ggX7_indexes_X1_sortAt
theorem dX7_indexes_0 : decode cX7_indexes 0 = .ok (.aload_n 0, 1) := by decide +kernel
theorem dX7_indexes_1 : decode cX7_indexes 1 = .ok (.getfield 22, 3) := by decide +kernel
theorem dX7_indexes_4 : decode cX7_indexes 4 = .ok (.invokevirtual 176, 3) := by decide +kernel
theorem dX7_indexes_7 : decode cX7_indexes 7 = .ok (.ifCond .ne 10, 3) := by decide +kernel
theorem dX7_indexes_10 : decode cX7_indexes 10 = .ok (.aload_n 0, 1) := by decide +kernel
theorem dX7_indexes_11 : decode cX7_indexes 11 = .ok (.ldc 182, 2) := by decide +kernel
theorem dX7_indexes_13 : decode cX7_indexes 13 = .ok (.invokevirtual 84, 3) := by decide +kernel
theorem dX7_indexes_16 : decode cX7_indexes 16 = .ok (.ireturn, 1) := by decide +kernel
theorem dX7_indexes_17 : decode cX7_indexes 17 = .ok (.iconst 0, 1) := by decide +kernel
theorem dX7_indexes_18 : decode cX7_indexes 18 = .ok (.istore_n 1, 1) := by decide +kernel
theorem dX7_indexes_19 : decode cX7_indexes 19 = .ok (.bipush (-6), 2) := by decide +kernel
theorem dX7_indexes_21 : decode cX7_indexes 21 = .ok (.istore_n 2, 1) := by decide +kernel
theorem dX7_indexes_22 : decode cX7_indexes 22 = .ok (.iload_n 2, 1) := by decide +kernel
theorem dX7_indexes_23 : decode cX7_indexes 23 = .ok (.bipush 6, 2) := by decide +kernel
theorem dX7_indexes_25 : decode cX7_indexes 25 = .ok (.if_icmp .gt 90, 3) := by decide +kernel
theorem dX7_indexes_28 : decode cX7_indexes 28 = .ok (.bipush (-6), 2) := by decide +kernel
theorem dX7_indexes_30 : decode cX7_indexes 30 = .ok (.istore_n 3, 1) := by decide +kernel
theorem dX7_indexes_31 : decode cX7_indexes 31 = .ok (.iload_n 3, 1) := by decide +kernel
theorem dX7_indexes_32 : decode cX7_indexes 32 = .ok (.bipush 6, 2) := by decide +kernel
theorem dX7_indexes_34 : decode cX7_indexes 34 = .ok (.if_icmp .gt 75, 3) := by decide +kernel
theorem dX7_indexes_37 : decode cX7_indexes 37 = .ok (.aload_n 0, 1) := by decide +kernel
theorem dX7_indexes_38 : decode cX7_indexes 38 = .ok (.getfield 10, 3) := by decide +kernel
theorem dX7_indexes_41 : decode cX7_indexes 41 = .ok (.iload_n 2, 1) := by decide +kernel
theorem dX7_indexes_42 : decode cX7_indexes 42 = .ok (.iload_n 3, 1) := by decide +kernel
theorem dX7_indexes_43 : decode cX7_indexes 43 = .ok (.invokevirtual 150, 3) := by decide +kernel
theorem dX7_indexes_46 : decode cX7_indexes 46 = .ok (.ifCond .eq 57, 3) := by decide +kernel
theorem dX7_indexes_49 : decode cX7_indexes 49 = .ok (.aload_n 0, 1) := by decide +kernel
theorem dX7_indexes_50 : decode cX7_indexes 50 = .ok (.getfield 22, 3) := by decide +kernel
theorem dX7_indexes_53 : decode cX7_indexes 53 = .ok (.iload_n 2, 1) := by decide +kernel
theorem dX7_indexes_54 : decode cX7_indexes 54 = .ok (.iload_n 3, 1) := by decide +kernel
theorem dX7_indexes_55 : decode cX7_indexes 55 = .ok (.invokevirtual 183, 3) := by decide +kernel
theorem dX7_indexes_58 : decode cX7_indexes 58 = .ok (.iconst 2, 1) := by decide +kernel
theorem dX7_indexes_59 : decode cX7_indexes 59 = .ok (.if_icmp .eq 6, 3) := by decide +kernel
theorem dX7_indexes_62 : decode cX7_indexes 62 = .ok (.goto 41, 3) := by decide +kernel
theorem dX7_indexes_65 : decode cX7_indexes 65 = .ok (.aload_n 0, 1) := by decide +kernel
theorem dX7_indexes_66 : decode cX7_indexes 66 = .ok (.getfield 10, 3) := by decide +kernel
theorem dX7_indexes_69 : decode cX7_indexes 69 = .ok (.iload_n 2, 1) := by decide +kernel
theorem dX7_indexes_70 : decode cX7_indexes 70 = .ok (.iload_n 3, 1) := by decide +kernel
theorem dX7_indexes_71 : decode cX7_indexes 71 = .ok (.invokevirtual 153, 3) := by decide +kernel
theorem dX7_indexes_74 : decode cX7_indexes 74 = .ok (.istore 4, 2) := by decide +kernel
theorem dX7_indexes_76 : decode cX7_indexes 76 = .ok (.iload 4, 2) := by decide +kernel
theorem dX7_indexes_78 : decode cX7_indexes 78 = .ok (.iconst 5, 1) := by decide +kernel
theorem dX7_indexes_79 : decode cX7_indexes 79 = .ok (.if_icmp .ne 10, 3) := by decide +kernel
theorem dX7_indexes_82 : decode cX7_indexes 82 = .ok (.aload_n 0, 1) := by decide +kernel
theorem dX7_indexes_83 : decode cX7_indexes 83 = .ok (.ldc 146, 2) := by decide +kernel
theorem dX7_indexes_85 : decode cX7_indexes 85 = .ok (.invokevirtual 84, 3) := by decide +kernel
theorem dX7_indexes_88 : decode cX7_indexes 88 = .ok (.ireturn, 1) := by decide +kernel
theorem dX7_indexes_89 : decode cX7_indexes 89 = .ok (.iload_n 1, 1) := by decide +kernel
theorem dX7_indexes_90 : decode cX7_indexes 90 = .ok (.iload 4, 2) := by decide +kernel
theorem dX7_indexes_92 : decode cX7_indexes 92 = .ok (.iconst 1, 1) := by decide +kernel
theorem dX7_indexes_93 : decode cX7_indexes 93 = .ok (.if_icmp .ne 7, 3) := by decide +kernel
theorem dX7_indexes_96 : decode cX7_indexes 96 = .ok (.iconst (-1), 1) := by decide +kernel
theorem dX7_indexes_97 : decode cX7_indexes 97 = .ok (.goto 4, 3) := by decide +kernel
theorem dX7_indexes_100 : decode cX7_indexes 100 = .ok (.iconst 1, 1) := by decide +kernel
theorem dX7_indexes_101 : decode cX7_indexes 101 = .ok (.iadd, 1) := by decide +kernel
theorem dX7_indexes_102 : decode cX7_indexes 102 = .ok (.istore_n 1, 1) := by decide +kernel
theorem dX7_indexes_103 : decode cX7_indexes 103 = .ok (.iinc 3 1, 3) := by decide +kernel
theorem dX7_indexes_106 : decode cX7_indexes 106 = .ok (.goto (-75), 3) := by decide +kernel
theorem dX7_indexes_109 : decode cX7_indexes 109 = .ok (.iinc 2 1, 3) := by decide +kernel
theorem dX7_indexes_112 : decode cX7_indexes 112 = .ok (.goto (-90), 3) := by decide +kernel
theorem dX7_indexes_115 : decode cX7_indexes 115 = .ok (.iload_n 1, 1) := by decide +kernel
theorem dX7_indexes_116 : decode cX7_indexes 116 = .ok (.ireturn, 1) := by decide +kernel
set_option maxRecDepth 20000 in
theorem ggX7_along_X7_isSum : GoodIn wsX7_along wsX7_isSum := goodIn_r _ [9, 10, 11, 8, 12] (by decide +kernel) (by decide +kernel)
set_option maxRecDepth 20000 in
theorem gX7_along_X7_isSum : GoodIn wsX7_along (va_wsS RX7 211 yX7_isSum wsX7_isSum) := goodIn_app (goodIn_of _ (by decide +kernel)) ggX7_along_X7_isSum
set_option maxRecDepth 20000 in
theorem ggX7_along_X7_finding : GoodIn wsX7_along wsX7_finding := goodIn_r _ [16, 17, 29, 30, 31, 32, 33, 34, 35, 36, 37, 38, 39, 40, 41] (by decide +kernel) (by decide +kernel)
set_option maxRecDepth 20000 in
theorem gX7_along_X7_finding : GoodIn wsX7_along (wsV RX7 84 RX7 yX7_finding wsX7_finding) := goodIn_app (goodIn_of _ (by decide +kernel)) ggX7_along_X7_finding
set_option maxRecDepth 20000 in
theorem ggX7_along_X7_clearChange : GoodIn wsX7_along wsX7_clearChange := goodIn_r _ [21, 5, 29, 30, 31, 32, 33, 34, 35, 36, 37, 38, 39, 40, 41] (by decide +kernel) (by decide +kernel)
set_option maxRecDepth 20000 in
theorem gX7_along_X7_clearChange : GoodIn wsX7_along (wsV RX7 215 RX7 yX7_clearChange wsX7_clearChange) := goodIn_app (goodIn_of _ (by decide +kernel)) ggX7_along_X7_clearChange
set_option maxRecDepth 20000 in
theorem ggX7_along_X7_addChange : GoodIn wsX7_along wsX7_addChange := goodIn_r _ [25, 26, 5, 27, 28, 44, 29, 30, 31, 32, 33, 34, 35, 36, 37, 38, 39, 40, 41] (by decide +kernel) (by decide +kernel)
set_option maxRecDepth 20000 in
theorem gX7_along_X7_addChange : GoodIn wsX7_along (wsV RX7 218 RX7 yX7_addChange wsX7_addChange) := goodIn_app (goodIn_of _ (by decide +kernel)) ggX7_along_X7_addChange
theorem dX7_along_0 : decode cX7_along 0 = .ok (.iload_n 1, 1) := by decide +kernel
theorem dX7_along_1 : decode cX7_along 1 = .ok (.iload_n 2, 1) := by decide +kernel
theorem dX7_along_2 : decode cX7_along 2 = .ok (.iload_n 3, 1) := by decide +kernel
theorem dX7_along_3 : decode cX7_along 3 = .ok (.iload 4, 2) := by decide +kernel
theorem dX7_along_5 : decode cX7_along 5 = .ok (.iload 5, 2) := by decide +kernel
theorem dX7_along_7 : decode cX7_along 7 = .ok (.invokestatic 211, 3) := by decide +kernel
theorem dX7_along_10 : decode cX7_along 10 = .ok (.ifCond .eq 15, 3) := by decide +kernel
theorem dX7_along_13 : decode cX7_along 13 = .ok (.iload 6, 2) := by decide +kernel
theorem dX7_along_15 : decode cX7_along 15 = .ok (.ifCond .lt 10, 3) := by decide +kernel
theorem dX7_along_18 : decode cX7_along 18 = .ok (.iload 6, 2) := by decide +kernel
theorem dX7_along_20 : decode cX7_along 20 = .ok (.bipush 10, 2) := by decide +kernel
theorem dX7_along_22 : decode cX7_along 22 = .ok (.if_icmp .lt 10, 3) := by decide +kernel
theorem dX7_along_25 : decode cX7_along 25 = .ok (.aload_n 0, 1) := by decide +kernel
theorem dX7_along_26 : decode cX7_along 26 = .ok (.ldc 83, 2) := by decide +kernel
theorem dX7_along_28 : decode cX7_along 28 = .ok (.invokevirtual 84, 3) := by decide +kernel
theorem dX7_along_31 : decode cX7_along 31 = .ok (.ireturn, 1) := by decide +kernel
theorem dX7_along_32 : decode cX7_along 32 = .ok (.aload_n 0, 1) := by decide +kernel
theorem dX7_along_33 : decode cX7_along 33 = .ok (.invokevirtual 215, 3) := by decide +kernel
theorem dX7_along_36 : decode cX7_along 36 = .ok (.aload_n 0, 1) := by decide +kernel
theorem dX7_along_37 : decode cX7_along 37 = .ok (.aload_n 0, 1) := by decide +kernel
theorem dX7_along_38 : decode cX7_along 38 = .ok (.getfield 10, 3) := by decide +kernel
theorem dX7_along_41 : decode cX7_along 41 = .ok (.getfield 117, 3) := by decide +kernel
theorem dX7_along_44 : decode cX7_along 44 = .ok (.iload_n 1, 1) := by decide +kernel
theorem dX7_along_45 : decode cX7_along 45 = .ok (.iconst 2, 1) := by decide +kernel
theorem dX7_along_46 : decode cX7_along 46 = .ok (.iload_n 3, 1) := by decide +kernel
theorem dX7_along_47 : decode cX7_along 47 = .ok (.imul, 1) := by decide +kernel
theorem dX7_along_48 : decode cX7_along 48 = .ok (.iload 4, 2) := by decide +kernel
theorem dX7_along_50 : decode cX7_along 50 = .ok (.invokevirtual 218, 3) := by decide +kernel
theorem dX7_along_53 : decode cX7_along 53 = .ok (.aload_n 0, 1) := by decide +kernel
theorem dX7_along_54 : decode cX7_along 54 = .ok (.aload_n 0, 1) := by decide +kernel
theorem dX7_along_55 : decode cX7_along 55 = .ok (.getfield 10, 3) := by decide +kernel
theorem dX7_along_58 : decode cX7_along 58 = .ok (.getfield 125, 3) := by decide +kernel
theorem dX7_along_61 : decode cX7_along 61 = .ok (.iload_n 2, 1) := by decide +kernel
theorem dX7_along_62 : decode cX7_along 62 = .ok (.iload 4, 2) := by decide +kernel
theorem dX7_along_64 : decode cX7_along 64 = .ok (.iconst 2, 1) := by decide +kernel
theorem dX7_along_65 : decode cX7_along 65 = .ok (.iload 5, 2) := by decide +kernel
theorem dX7_along_67 : decode cX7_along 67 = .ok (.imul, 1) := by decide +kernel
theorem dX7_along_68 : decode cX7_along 68 = .ok (.invokevirtual 218, 3) := by decide +kernel
theorem dX7_along_71 : decode cX7_along 71 = .ok (.aload_n 0, 1) := by decide +kernel
theorem dX7_along_72 : decode cX7_along 72 = .ok (.getfield 61, 3) := by decide +kernel
theorem dX7_along_75 : decode cX7_along 75 = .ok (.iload 6, 2) := by decide +kernel
theorem dX7_along_77 : decode cX7_along 77 = .ok (.iaload, 1) := by decide +kernel
theorem dX7_along_78 : decode cX7_along 78 = .ok (.ireturn, 1) := by decide +kernel
set_option maxRecDepth 20000 in
theorem ggX7_falls_X7_isSum : GoodIn wsX7_falls wsX7_isSum := goodIn_r _ [8, 9, 10, 7, 11] (by decide +kernel) (by decide +kernel)
set_option maxRecDepth 20000 in
theorem gX7_falls_X7_isSum : GoodIn wsX7_falls (va_wsS RX7 211 yX7_isSum wsX7_isSum) := goodIn_app (goodIn_of _ (by decide +kernel)) ggX7_falls_X7_isSum
set_option maxRecDepth 20000 in
theorem ggX7_falls_X7_isPlace : GoodIn wsX7_falls wsX7_isPlace := goodIn_r _ [14, 9, 10, 7, 11] (by decide +kernel) (by decide +kernel)
set_option maxRecDepth 20000 in
theorem gX7_falls_X7_isPlace : GoodIn wsX7_falls (va_wsS RX7 104 yX7_isPlace wsX7_isPlace) := goodIn_app (goodIn_of _ (by decide +kernel)) ggX7_falls_X7_isPlace
set_option maxRecDepth 20000 in
theorem ggX7_falls_X7_finding : GoodIn wsX7_falls wsX7_finding := goodIn_r _ [18, 19, 30, 31, 32, 33, 34, 35, 36, 37, 38, 39, 40, 41, 42] (by decide +kernel) (by decide +kernel)
set_option maxRecDepth 20000 in
theorem gX7_falls_X7_finding : GoodIn wsX7_falls (wsV RX7 84 RX7 yX7_finding wsX7_finding) := goodIn_app (goodIn_of _ (by decide +kernel)) ggX7_falls_X7_finding
set_option maxRecDepth 20000 in
theorem ggX7_falls_X3_at : GoodIn wsX7_falls wsX3_at := goodIn_r _ [24, 25, 26, 27, 28, 23, 29, 45] (by decide +kernel) (by decide +kernel)
set_option maxRecDepth 20000 in
theorem gX7_falls_X3_at : GoodIn wsX7_falls (wsV RX7 107 RX3 yX3_at wsX3_at) := goodIn_app (goodIn_of _ (by decide +kernel)) ggX7_falls_X3_at
theorem dX7_falls_0 : decode cX7_falls 0 = .ok (.iload_n 1, 1) := by decide +kernel
theorem dX7_falls_1 : decode cX7_falls 1 = .ok (.iload_n 2, 1) := by decide +kernel
theorem dX7_falls_2 : decode cX7_falls 2 = .ok (.iload_n 3, 1) := by decide +kernel
theorem dX7_falls_3 : decode cX7_falls 3 = .ok (.iload 4, 2) := by decide +kernel
theorem dX7_falls_5 : decode cX7_falls 5 = .ok (.iload 5, 2) := by decide +kernel
theorem dX7_falls_7 : decode cX7_falls 7 = .ok (.invokestatic 211, 3) := by decide +kernel
theorem dX7_falls_10 : decode cX7_falls 10 = .ok (.ifCond .eq 13, 3) := by decide +kernel
theorem dX7_falls_13 : decode cX7_falls 13 = .ok (.iload 6, 2) := by decide +kernel
theorem dX7_falls_15 : decode cX7_falls 15 = .ok (.iload 7, 2) := by decide +kernel
theorem dX7_falls_17 : decode cX7_falls 17 = .ok (.invokestatic 104, 3) := by decide +kernel
theorem dX7_falls_20 : decode cX7_falls 20 = .ok (.ifCond .ne 10, 3) := by decide +kernel
theorem dX7_falls_23 : decode cX7_falls 23 = .ok (.aload_n 0, 1) := by decide +kernel
theorem dX7_falls_24 : decode cX7_falls 24 = .ok (.ldc 83, 2) := by decide +kernel
theorem dX7_falls_26 : decode cX7_falls 26 = .ok (.invokevirtual 84, 3) := by decide +kernel
theorem dX7_falls_29 : decode cX7_falls 29 = .ok (.ireturn, 1) := by decide +kernel
theorem dX7_falls_30 : decode cX7_falls 30 = .ok (.iload_n 1, 1) := by decide +kernel
theorem dX7_falls_31 : decode cX7_falls 31 = .ok (.iconst 2, 1) := by decide +kernel
theorem dX7_falls_32 : decode cX7_falls 32 = .ok (.iload_n 3, 1) := by decide +kernel
theorem dX7_falls_33 : decode cX7_falls 33 = .ok (.imul, 1) := by decide +kernel
theorem dX7_falls_34 : decode cX7_falls 34 = .ok (.iload 6, 2) := by decide +kernel
theorem dX7_falls_36 : decode cX7_falls 36 = .ok (.imul, 1) := by decide +kernel
theorem dX7_falls_37 : decode cX7_falls 37 = .ok (.iadd, 1) := by decide +kernel
theorem dX7_falls_38 : decode cX7_falls 38 = .ok (.iload 4, 2) := by decide +kernel
theorem dX7_falls_40 : decode cX7_falls 40 = .ok (.iload 7, 2) := by decide +kernel
theorem dX7_falls_42 : decode cX7_falls 42 = .ok (.imul, 1) := by decide +kernel
theorem dX7_falls_43 : decode cX7_falls 43 = .ok (.iadd, 1) := by decide +kernel
theorem dX7_falls_44 : decode cX7_falls 44 = .ok (.istore 8, 2) := by decide +kernel
theorem dX7_falls_46 : decode cX7_falls 46 = .ok (.iload_n 2, 1) := by decide +kernel
theorem dX7_falls_47 : decode cX7_falls 47 = .ok (.iload 4, 2) := by decide +kernel
theorem dX7_falls_49 : decode cX7_falls 49 = .ok (.iload 6, 2) := by decide +kernel
theorem dX7_falls_51 : decode cX7_falls 51 = .ok (.imul, 1) := by decide +kernel
theorem dX7_falls_52 : decode cX7_falls 52 = .ok (.iadd, 1) := by decide +kernel
theorem dX7_falls_53 : decode cX7_falls 53 = .ok (.iconst 2, 1) := by decide +kernel
theorem dX7_falls_54 : decode cX7_falls 54 = .ok (.iload 5, 2) := by decide +kernel
theorem dX7_falls_56 : decode cX7_falls 56 = .ok (.imul, 1) := by decide +kernel
theorem dX7_falls_57 : decode cX7_falls 57 = .ok (.iload 7, 2) := by decide +kernel
theorem dX7_falls_59 : decode cX7_falls 59 = .ok (.imul, 1) := by decide +kernel
theorem dX7_falls_60 : decode cX7_falls 60 = .ok (.iadd, 1) := by decide +kernel
theorem dX7_falls_61 : decode cX7_falls 61 = .ok (.istore 9, 2) := by decide +kernel
theorem dX7_falls_63 : decode cX7_falls 63 = .ok (.iload 8, 2) := by decide +kernel
theorem dX7_falls_65 : decode cX7_falls 65 = .ok (.aload_n 0, 1) := by decide +kernel
theorem dX7_falls_66 : decode cX7_falls 66 = .ok (.getfield 10, 3) := by decide +kernel
theorem dX7_falls_69 : decode cX7_falls 69 = .ok (.getfield 117, 3) := by decide +kernel
theorem dX7_falls_72 : decode cX7_falls 72 = .ok (.iload 6, 2) := by decide +kernel
theorem dX7_falls_74 : decode cX7_falls 74 = .ok (.iload 7, 2) := by decide +kernel
theorem dX7_falls_76 : decode cX7_falls 76 = .ok (.invokevirtual 107, 3) := by decide +kernel
theorem dX7_falls_79 : decode cX7_falls 79 = .ok (.imul, 1) := by decide +kernel
theorem dX7_falls_80 : decode cX7_falls 80 = .ok (.iload 9, 2) := by decide +kernel
theorem dX7_falls_82 : decode cX7_falls 82 = .ok (.aload_n 0, 1) := by decide +kernel
theorem dX7_falls_83 : decode cX7_falls 83 = .ok (.getfield 10, 3) := by decide +kernel
theorem dX7_falls_86 : decode cX7_falls 86 = .ok (.getfield 125, 3) := by decide +kernel
theorem dX7_falls_89 : decode cX7_falls 89 = .ok (.iload 6, 2) := by decide +kernel
theorem dX7_falls_91 : decode cX7_falls 91 = .ok (.iload 7, 2) := by decide +kernel
theorem dX7_falls_93 : decode cX7_falls 93 = .ok (.invokevirtual 107, 3) := by decide +kernel
theorem dX7_falls_96 : decode cX7_falls 96 = .ok (.imul, 1) := by decide +kernel
theorem dX7_falls_97 : decode cX7_falls 97 = .ok (.iadd, 1) := by decide +kernel
theorem dX7_falls_98 : decode cX7_falls 98 = .ok (.ireturn, 1) := by decide +kernel
set_option maxRecDepth 20000 in
theorem ggX7_kept_X7_clearChange : GoodIn wsX7_kept wsX7_clearChange := goodIn_r _ [10, 5, 43, 44, 45, 46, 47, 48, 49, 50, 51, 52, 53, 54, 55] (by decide +kernel) (by decide +kernel)
set_option maxRecDepth 20000 in
theorem gX7_kept_X7_clearChange : GoodIn wsX7_kept (wsV RX7 215 RX7 yX7_clearChange wsX7_clearChange) := goodIn_app (goodIn_of _ (by decide +kernel)) ggX7_kept_X7_clearChange
set_option maxRecDepth 20000 in
theorem ggX7_kept_X7_oneIf : GoodIn wsX7_kept wsX7_oneIf := goodIn_r _ [13] (by decide +kernel) (by decide +kernel)
set_option maxRecDepth 20000 in
theorem gX7_kept_X7_oneIf : GoodIn wsX7_kept (va_wsS RX7 222 yX7_oneIf wsX7_oneIf) := goodIn_app (goodIn_of _ (by decide +kernel)) ggX7_kept_X7_oneIf
set_option maxRecDepth 20000 in
theorem ggX7_kept_X7_addChange : GoodIn wsX7_kept wsX7_addChange := goodIn_r _ [17, 18, 5, 19, 20, 58, 43, 44, 45, 46, 47, 48, 49, 50, 51, 52, 53, 54, 55] (by decide +kernel) (by decide +kernel)
set_option maxRecDepth 20000 in
theorem gX7_kept_X7_addChange : GoodIn wsX7_kept (wsV RX7 218 RX7 yX7_addChange wsX7_addChange) := goodIn_app (goodIn_of _ (by decide +kernel)) ggX7_kept_X7_addChange
set_option maxRecDepth 20000 in
theorem ggX7_kept_X6_fillRow : GoodIn wsX7_kept wsX6_fillRow := goodIn_r _ [25, 26, 59] (by decide +kernel) (by decide +kernel)
set_option maxRecDepth 20000 in
theorem gX7_kept_X6_fillRow : GoodIn wsX7_kept (wsV RX7 226 RX6 yX6_fillRow wsX6_fillRow) := goodIn_app (goodIn_of _ (by decide +kernel)) ggX7_kept_X6_fillRow
set_option maxRecDepth 20000 in
theorem ggX7_kept_X6_rank : GoodIn wsX7_kept wsX6_rank := goodIn_r _ [30, 26, 31, 32, 33, 24, 34, 35, 36, 37, 38, 39, 40, 41, 42, 59] (by decide +kernel) (by decide +kernel)
set_option maxRecDepth 20000 in
theorem gX7_kept_X6_rank : GoodIn wsX7_kept (wsV RX7 230 RX6 yX6_rank wsX6_rank) := goodIn_app (goodIn_of _ (by decide +kernel)) ggX7_kept_X6_rank
theorem dX7_kept_0 : decode cX7_kept 0 = .ok (.iconst 0, 1) := by decide +kernel
theorem dX7_kept_1 : decode cX7_kept 1 = .ok (.istore_n 1, 1) := by decide +kernel
theorem dX7_kept_2 : decode cX7_kept 2 = .ok (.iload_n 1, 1) := by decide +kernel
theorem dX7_kept_3 : decode cX7_kept 3 = .ok (.iconst 5, 1) := by decide +kernel
theorem dX7_kept_4 : decode cX7_kept 4 = .ok (.if_icmp .ge 128, 3) := by decide +kernel
theorem dX7_kept_7 : decode cX7_kept 7 = .ok (.aload_n 0, 1) := by decide +kernel
theorem dX7_kept_8 : decode cX7_kept 8 = .ok (.invokevirtual 215, 3) := by decide +kernel
theorem dX7_kept_11 : decode cX7_kept 11 = .ok (.aload_n 0, 1) := by decide +kernel
theorem dX7_kept_12 : decode cX7_kept 12 = .ok (.aload_n 0, 1) := by decide +kernel
theorem dX7_kept_13 : decode cX7_kept 13 = .ok (.getfield 10, 3) := by decide +kernel
theorem dX7_kept_16 : decode cX7_kept 16 = .ok (.getfield 117, 3) := by decide +kernel
theorem dX7_kept_19 : decode cX7_kept 19 = .ok (.iload_n 1, 1) := by decide +kernel
theorem dX7_kept_20 : decode cX7_kept 20 = .ok (.ifCond .ne 7, 3) := by decide +kernel
theorem dX7_kept_23 : decode cX7_kept 23 = .ok (.iconst 1, 1) := by decide +kernel
theorem dX7_kept_24 : decode cX7_kept 24 = .ok (.goto 4, 3) := by decide +kernel
theorem dX7_kept_27 : decode cX7_kept 27 = .ok (.iconst 0, 1) := by decide +kernel
theorem dX7_kept_28 : decode cX7_kept 28 = .ok (.invokestatic 222, 3) := by decide +kernel
theorem dX7_kept_31 : decode cX7_kept 31 = .ok (.iconst 2, 1) := by decide +kernel
theorem dX7_kept_32 : decode cX7_kept 32 = .ok (.iload_n 1, 1) := by decide +kernel
theorem dX7_kept_33 : decode cX7_kept 33 = .ok (.iconst 2, 1) := by decide +kernel
theorem dX7_kept_34 : decode cX7_kept 34 = .ok (.if_icmp .ne 7, 3) := by decide +kernel
theorem dX7_kept_37 : decode cX7_kept 37 = .ok (.iconst 1, 1) := by decide +kernel
theorem dX7_kept_38 : decode cX7_kept 38 = .ok (.goto 4, 3) := by decide +kernel
theorem dX7_kept_41 : decode cX7_kept 41 = .ok (.iconst 0, 1) := by decide +kernel
theorem dX7_kept_42 : decode cX7_kept 42 = .ok (.invokestatic 222, 3) := by decide +kernel
theorem dX7_kept_45 : decode cX7_kept 45 = .ok (.imul, 1) := by decide +kernel
theorem dX7_kept_46 : decode cX7_kept 46 = .ok (.iload_n 1, 1) := by decide +kernel
theorem dX7_kept_47 : decode cX7_kept 47 = .ok (.iconst 3, 1) := by decide +kernel
theorem dX7_kept_48 : decode cX7_kept 48 = .ok (.if_icmp .ne 7, 3) := by decide +kernel
theorem dX7_kept_51 : decode cX7_kept 51 = .ok (.iconst 1, 1) := by decide +kernel
theorem dX7_kept_52 : decode cX7_kept 52 = .ok (.goto 4, 3) := by decide +kernel
theorem dX7_kept_55 : decode cX7_kept 55 = .ok (.iconst 0, 1) := by decide +kernel
theorem dX7_kept_56 : decode cX7_kept 56 = .ok (.invokestatic 222, 3) := by decide +kernel
theorem dX7_kept_59 : decode cX7_kept 59 = .ok (.invokevirtual 218, 3) := by decide +kernel
theorem dX7_kept_62 : decode cX7_kept 62 = .ok (.aload_n 0, 1) := by decide +kernel
theorem dX7_kept_63 : decode cX7_kept 63 = .ok (.aload_n 0, 1) := by decide +kernel
theorem dX7_kept_64 : decode cX7_kept 64 = .ok (.getfield 10, 3) := by decide +kernel
theorem dX7_kept_67 : decode cX7_kept 67 = .ok (.getfield 125, 3) := by decide +kernel
theorem dX7_kept_70 : decode cX7_kept 70 = .ok (.iload_n 1, 1) := by decide +kernel
theorem dX7_kept_71 : decode cX7_kept 71 = .ok (.iconst 1, 1) := by decide +kernel
theorem dX7_kept_72 : decode cX7_kept 72 = .ok (.if_icmp .ne 7, 3) := by decide +kernel
theorem dX7_kept_75 : decode cX7_kept 75 = .ok (.iconst 1, 1) := by decide +kernel
theorem dX7_kept_76 : decode cX7_kept 76 = .ok (.goto 4, 3) := by decide +kernel
theorem dX7_kept_79 : decode cX7_kept 79 = .ok (.iconst 0, 1) := by decide +kernel
theorem dX7_kept_80 : decode cX7_kept 80 = .ok (.invokestatic 222, 3) := by decide +kernel
theorem dX7_kept_83 : decode cX7_kept 83 = .ok (.iload_n 1, 1) := by decide +kernel
theorem dX7_kept_84 : decode cX7_kept 84 = .ok (.iconst 3, 1) := by decide +kernel
theorem dX7_kept_85 : decode cX7_kept 85 = .ok (.if_icmp .ne 7, 3) := by decide +kernel
theorem dX7_kept_88 : decode cX7_kept 88 = .ok (.iconst 1, 1) := by decide +kernel
theorem dX7_kept_89 : decode cX7_kept 89 = .ok (.goto 4, 3) := by decide +kernel
theorem dX7_kept_92 : decode cX7_kept 92 = .ok (.iconst 0, 1) := by decide +kernel
theorem dX7_kept_93 : decode cX7_kept 93 = .ok (.invokestatic 222, 3) := by decide +kernel
theorem dX7_kept_96 : decode cX7_kept 96 = .ok (.iconst 2, 1) := by decide +kernel
theorem dX7_kept_97 : decode cX7_kept 97 = .ok (.iload_n 1, 1) := by decide +kernel
theorem dX7_kept_98 : decode cX7_kept 98 = .ok (.iconst 4, 1) := by decide +kernel
theorem dX7_kept_99 : decode cX7_kept 99 = .ok (.if_icmp .ne 7, 3) := by decide +kernel
theorem dX7_kept_102 : decode cX7_kept 102 = .ok (.iconst 1, 1) := by decide +kernel
theorem dX7_kept_103 : decode cX7_kept 103 = .ok (.goto 4, 3) := by decide +kernel
theorem dX7_kept_106 : decode cX7_kept 106 = .ok (.iconst 0, 1) := by decide +kernel
theorem dX7_kept_107 : decode cX7_kept 107 = .ok (.invokestatic 222, 3) := by decide +kernel
theorem dX7_kept_110 : decode cX7_kept 110 = .ok (.imul, 1) := by decide +kernel
theorem dX7_kept_111 : decode cX7_kept 111 = .ok (.invokevirtual 218, 3) := by decide +kernel
theorem dX7_kept_114 : decode cX7_kept 114 = .ok (.aload_n 0, 1) := by decide +kernel
theorem dX7_kept_115 : decode cX7_kept 115 = .ok (.getfield 67, 3) := by decide +kernel
theorem dX7_kept_118 : decode cX7_kept 118 = .ok (.iload_n 1, 1) := by decide +kernel
theorem dX7_kept_119 : decode cX7_kept 119 = .ok (.aload_n 0, 1) := by decide +kernel
theorem dX7_kept_120 : decode cX7_kept 120 = .ok (.getfield 61, 3) := by decide +kernel
theorem dX7_kept_123 : decode cX7_kept 123 = .ok (.invokevirtual 226, 3) := by decide +kernel
theorem dX7_kept_126 : decode cX7_kept 126 = .ok (.iinc 1 1, 3) := by decide +kernel
theorem dX7_kept_129 : decode cX7_kept 129 = .ok (.goto (-127), 3) := by decide +kernel
theorem dX7_kept_132 : decode cX7_kept 132 = .ok (.iconst 5, 1) := by decide +kernel
theorem dX7_kept_133 : decode cX7_kept 133 = .ok (.aload_n 0, 1) := by decide +kernel
theorem dX7_kept_134 : decode cX7_kept 134 = .ok (.getfield 67, 3) := by decide +kernel
theorem dX7_kept_137 : decode cX7_kept 137 = .ok (.invokevirtual 230, 3) := by decide +kernel
theorem dX7_kept_140 : decode cX7_kept 140 = .ok (.isub, 1) := by decide +kernel
theorem dX7_kept_141 : decode cX7_kept 141 = .ok (.ireturn, 1) := by decide +kernel
set_option maxRecDepth 20000 in
theorem ggX7_none_X7_isPlace : GoodIn wsX7_none wsX7_isPlace := goodIn_r _ [13, 14, 15, 12, 16] (by decide +kernel) (by decide +kernel)
set_option maxRecDepth 20000 in
theorem gX7_none_X7_isPlace : GoodIn wsX7_none (va_wsS RX7 104 yX7_isPlace wsX7_isPlace) := goodIn_app (goodIn_of _ (by decide +kernel)) ggX7_none_X7_isPlace
set_option maxRecDepth 20000 in
theorem ggX7_none_X7_finding : GoodIn wsX7_none wsX7_finding := goodIn_r _ [20, 21, 39, 40, 41, 42, 43, 44, 45, 46, 47, 48, 49, 50, 51] (by decide +kernel) (by decide +kernel)
set_option maxRecDepth 20000 in
theorem gX7_none_X7_finding : GoodIn wsX7_none (wsV RX7 84 RX7 yX7_finding wsX7_finding) := goodIn_app (goodIn_of _ (by decide +kernel)) ggX7_none_X7_finding
set_option maxRecDepth 20000 in
theorem ggX7_none_X1_spreadAt : GoodIn wsX7_none wsX1_spreadAt := goodIn_r _ [26, 27, 28, 29, 30, 31, 32, 33, 34, 35, 36, 37, 38, 52, 53, 54] (by decide +kernel) (by decide +kernel)
set_option maxRecDepth 20000 in
theorem gX7_none_X1_spreadAt : GoodIn wsX7_none (wsV RX7 233 RX1 yX1_spreadAt wsX1_spreadAt) := goodIn_app (goodIn_of _ (by decide +kernel)) ggX7_none_X1_spreadAt
theorem dX7_none_0 : decode cX7_none 0 = .ok (.iload_n 1, 1) := by decide +kernel
theorem dX7_none_1 : decode cX7_none 1 = .ok (.iload_n 2, 1) := by decide +kernel
theorem dX7_none_2 : decode cX7_none 2 = .ok (.invokestatic 104, 3) := by decide +kernel
theorem dX7_none_5 : decode cX7_none 5 = .ok (.ifCond .eq 23, 3) := by decide +kernel
theorem dX7_none_8 : decode cX7_none 8 = .ok (.iload_n 3, 1) := by decide +kernel
theorem dX7_none_9 : decode cX7_none 9 = .ok (.iload 4, 2) := by decide +kernel
theorem dX7_none_11 : decode cX7_none 11 = .ok (.invokestatic 104, 3) := by decide +kernel
theorem dX7_none_14 : decode cX7_none 14 = .ok (.ifCond .eq 14, 3) := by decide +kernel
theorem dX7_none_17 : decode cX7_none 17 = .ok (.iload_n 1, 1) := by decide +kernel
theorem dX7_none_18 : decode cX7_none 18 = .ok (.iload_n 3, 1) := by decide +kernel
theorem dX7_none_19 : decode cX7_none 19 = .ok (.if_icmp .ge 9, 3) := by decide +kernel
theorem dX7_none_22 : decode cX7_none 22 = .ok (.iload_n 2, 1) := by decide +kernel
theorem dX7_none_23 : decode cX7_none 23 = .ok (.iload 4, 2) := by decide +kernel
theorem dX7_none_25 : decode cX7_none 25 = .ok (.if_icmp .lt 10, 3) := by decide +kernel
theorem dX7_none_28 : decode cX7_none 28 = .ok (.aload_n 0, 1) := by decide +kernel
theorem dX7_none_29 : decode cX7_none 29 = .ok (.ldc 83, 2) := by decide +kernel
theorem dX7_none_31 : decode cX7_none 31 = .ok (.invokevirtual 84, 3) := by decide +kernel
theorem dX7_none_34 : decode cX7_none 34 = .ok (.ireturn, 1) := by decide +kernel
theorem dX7_none_35 : decode cX7_none 35 = .ok (.aload_n 0, 1) := by decide +kernel
theorem dX7_none_36 : decode cX7_none 36 = .ok (.getfield 10, 3) := by decide +kernel
theorem dX7_none_39 : decode cX7_none 39 = .ok (.iload_n 1, 1) := by decide +kernel
theorem dX7_none_40 : decode cX7_none 40 = .ok (.iload_n 2, 1) := by decide +kernel
theorem dX7_none_41 : decode cX7_none 41 = .ok (.invokevirtual 233, 3) := by decide +kernel
theorem dX7_none_44 : decode cX7_none 44 = .ok (.istore 5, 2) := by decide +kernel
theorem dX7_none_46 : decode cX7_none 46 = .ok (.aload_n 0, 1) := by decide +kernel
theorem dX7_none_47 : decode cX7_none 47 = .ok (.getfield 10, 3) := by decide +kernel
theorem dX7_none_50 : decode cX7_none 50 = .ok (.iload_n 1, 1) := by decide +kernel
theorem dX7_none_51 : decode cX7_none 51 = .ok (.iload 4, 2) := by decide +kernel
theorem dX7_none_53 : decode cX7_none 53 = .ok (.invokevirtual 233, 3) := by decide +kernel
theorem dX7_none_56 : decode cX7_none 56 = .ok (.istore 6, 2) := by decide +kernel
theorem dX7_none_58 : decode cX7_none 58 = .ok (.aload_n 0, 1) := by decide +kernel
theorem dX7_none_59 : decode cX7_none 59 = .ok (.getfield 10, 3) := by decide +kernel
theorem dX7_none_62 : decode cX7_none 62 = .ok (.iload_n 3, 1) := by decide +kernel
theorem dX7_none_63 : decode cX7_none 63 = .ok (.iload_n 2, 1) := by decide +kernel
theorem dX7_none_64 : decode cX7_none 64 = .ok (.invokevirtual 233, 3) := by decide +kernel
theorem dX7_none_67 : decode cX7_none 67 = .ok (.istore 7, 2) := by decide +kernel
theorem dX7_none_69 : decode cX7_none 69 = .ok (.aload_n 0, 1) := by decide +kernel
theorem dX7_none_70 : decode cX7_none 70 = .ok (.getfield 10, 3) := by decide +kernel
theorem dX7_none_73 : decode cX7_none 73 = .ok (.iload_n 3, 1) := by decide +kernel
theorem dX7_none_74 : decode cX7_none 74 = .ok (.iload 4, 2) := by decide +kernel
theorem dX7_none_76 : decode cX7_none 76 = .ok (.invokevirtual 233, 3) := by decide +kernel
theorem dX7_none_79 : decode cX7_none 79 = .ok (.istore 8, 2) := by decide +kernel
theorem dX7_none_81 : decode cX7_none 81 = .ok (.iload 5, 2) := by decide +kernel
theorem dX7_none_83 : decode cX7_none 83 = .ok (.iload 6, 2) := by decide +kernel
theorem dX7_none_85 : decode cX7_none 85 = .ok (.invokestatic 236, 3) := by decide +kernel
theorem dX7_none_88 : decode cX7_none 88 = .ok (.iload 7, 2) := by decide +kernel
theorem dX7_none_90 : decode cX7_none 90 = .ok (.iload 8, 2) := by decide +kernel
theorem dX7_none_92 : decode cX7_none 92 = .ok (.invokestatic 236, 3) := by decide +kernel
theorem dX7_none_95 : decode cX7_none 95 = .ok (.invokestatic 236, 3) := by decide +kernel
theorem dX7_none_98 : decode cX7_none 98 = .ok (.istore 9, 2) := by decide +kernel
theorem dX7_none_100 : decode cX7_none 100 = .ok (.iload 5, 2) := by decide +kernel
theorem dX7_none_102 : decode cX7_none 102 = .ok (.iload 6, 2) := by decide +kernel
theorem dX7_none_104 : decode cX7_none 104 = .ok (.invokestatic 241, 3) := by decide +kernel
theorem dX7_none_107 : decode cX7_none 107 = .ok (.iload 7, 2) := by decide +kernel
theorem dX7_none_109 : decode cX7_none 109 = .ok (.iload 8, 2) := by decide +kernel
theorem dX7_none_111 : decode cX7_none 111 = .ok (.invokestatic 241, 3) := by decide +kernel
theorem dX7_none_114 : decode cX7_none 114 = .ok (.invokestatic 241, 3) := by decide +kernel
theorem dX7_none_117 : decode cX7_none 117 = .ok (.istore 10, 2) := by decide +kernel
theorem dX7_none_119 : decode cX7_none 119 = .ok (.iload 9, 2) := by decide +kernel
theorem dX7_none_121 : decode cX7_none 121 = .ok (.ifCond .lt 10, 3) := by decide +kernel
theorem dX7_none_124 : decode cX7_none 124 = .ok (.iload 10, 2) := by decide +kernel
theorem dX7_none_126 : decode cX7_none 126 = .ok (.ifCond .le 5, 3) := by decide +kernel
theorem dX7_none_129 : decode cX7_none 129 = .ok (.iconst 1, 1) := by decide +kernel
theorem dX7_none_130 : decode cX7_none 130 = .ok (.ireturn, 1) := by decide +kernel
theorem dX7_none_131 : decode cX7_none 131 = .ok (.iload 10, 2) := by decide +kernel
theorem dX7_none_133 : decode cX7_none 133 = .ok (.ifCond .gt 12, 3) := by decide +kernel
theorem dX7_none_136 : decode cX7_none 136 = .ok (.iload 9, 2) := by decide +kernel
theorem dX7_none_138 : decode cX7_none 138 = .ok (.ifCond .ge 7, 3) := by decide +kernel
theorem dX7_none_141 : decode cX7_none 141 = .ok (.iconst (-1), 1) := by decide +kernel
theorem dX7_none_142 : decode cX7_none 142 = .ok (.goto 4, 3) := by decide +kernel
theorem dX7_none_145 : decode cX7_none 145 = .ok (.iconst 0, 1) := by decide +kernel
theorem dX7_none_146 : decode cX7_none 146 = .ok (.ireturn, 1) := by decide +kernel
set_option maxRecDepth 20000 in
theorem ggX7_edge_X7_linesOfCubic : GoodIn wsX7_edge wsX7_linesOfCubic := goodIn_r _ [8] (by decide +kernel) (by decide +kernel)
set_option maxRecDepth 20000 in
theorem gX7_edge_X7_linesOfCubic : GoodIn wsX7_edge (va_wsS RX7 244 yX7_linesOfCubic wsX7_linesOfCubic) := goodIn_app (goodIn_of _ (by decide +kernel)) ggX7_edge_X7_linesOfCubic
theorem dX7_edge_0 : decode cX7_edge 0 = .ok (.aload_n 0, 1) := by decide +kernel
theorem dX7_edge_1 : decode cX7_edge 1 = .ok (.getfield 10, 3) := by decide +kernel
theorem dX7_edge_4 : decode cX7_edge 4 = .ok (.getfield 117, 3) := by decide +kernel
theorem dX7_edge_7 : decode cX7_edge 7 = .ok (.getfield 96, 3) := by decide +kernel
theorem dX7_edge_10 : decode cX7_edge 10 = .ok (.astore_n 1, 1) := by decide +kernel
theorem dX7_edge_11 : decode cX7_edge 11 = .ok (.aload_n 0, 1) := by decide +kernel
theorem dX7_edge_12 : decode cX7_edge 12 = .ok (.getfield 10, 3) := by decide +kernel
theorem dX7_edge_15 : decode cX7_edge 15 = .ok (.getfield 125, 3) := by decide +kernel
theorem dX7_edge_18 : decode cX7_edge 18 = .ok (.getfield 96, 3) := by decide +kernel
theorem dX7_edge_21 : decode cX7_edge 21 = .ok (.astore_n 2, 1) := by decide +kernel
theorem dX7_edge_22 : decode cX7_edge 22 = .ok (.aload_n 2, 1) := by decide +kernel
theorem dX7_edge_23 : decode cX7_edge 23 = .ok (.iconst 3, 1) := by decide +kernel
theorem dX7_edge_24 : decode cX7_edge 24 = .ok (.iaload, 1) := by decide +kernel
theorem dX7_edge_25 : decode cX7_edge 25 = .ok (.aload_n 2, 1) := by decide +kernel
theorem dX7_edge_26 : decode cX7_edge 26 = .ok (.iconst 4, 1) := by decide +kernel
theorem dX7_edge_27 : decode cX7_edge 27 = .ok (.iaload, 1) := by decide +kernel
theorem dX7_edge_28 : decode cX7_edge 28 = .ok (.aload_n 1, 1) := by decide +kernel
theorem dX7_edge_29 : decode cX7_edge 29 = .ok (.iconst 3, 1) := by decide +kernel
theorem dX7_edge_30 : decode cX7_edge 30 = .ok (.iaload, 1) := by decide +kernel
theorem dX7_edge_31 : decode cX7_edge 31 = .ok (.isub, 1) := by decide +kernel
theorem dX7_edge_32 : decode cX7_edge 32 = .ok (.aload_n 2, 1) := by decide +kernel
theorem dX7_edge_33 : decode cX7_edge 33 = .ok (.iconst 5, 1) := by decide +kernel
theorem dX7_edge_34 : decode cX7_edge 34 = .ok (.iaload, 1) := by decide +kernel
theorem dX7_edge_35 : decode cX7_edge 35 = .ok (.aload_n 1, 1) := by decide +kernel
theorem dX7_edge_36 : decode cX7_edge 36 = .ok (.iconst 4, 1) := by decide +kernel
theorem dX7_edge_37 : decode cX7_edge 37 = .ok (.iaload, 1) := by decide +kernel
theorem dX7_edge_38 : decode cX7_edge 38 = .ok (.isub, 1) := by decide +kernel
theorem dX7_edge_39 : decode cX7_edge 39 = .ok (.aload_n 1, 1) := by decide +kernel
theorem dX7_edge_40 : decode cX7_edge 40 = .ok (.iconst 5, 1) := by decide +kernel
theorem dX7_edge_41 : decode cX7_edge 41 = .ok (.iaload, 1) := by decide +kernel
theorem dX7_edge_42 : decode cX7_edge 42 = .ok (.ineg, 1) := by decide +kernel
theorem dX7_edge_43 : decode cX7_edge 43 = .ok (.invokestatic 244, 3) := by decide +kernel
theorem dX7_edge_46 : decode cX7_edge 46 = .ok (.ireturn, 1) := by decide +kernel
set_option maxRecDepth 20000 in
theorem ggX7_far_X7_isPlace : GoodIn wsX7_far wsX7_isPlace := goodIn_r _ [8, 9, 10, 7, 11] (by decide +kernel) (by decide +kernel)
set_option maxRecDepth 20000 in
theorem gX7_far_X7_isPlace : GoodIn wsX7_far (va_wsS RX7 104 yX7_isPlace wsX7_isPlace) := goodIn_app (goodIn_of _ (by decide +kernel)) ggX7_far_X7_isPlace
set_option maxRecDepth 20000 in
theorem ggX7_far_X7_finding : GoodIn wsX7_far wsX7_finding := goodIn_r _ [15, 16, 23, 24, 25, 26, 27, 28, 29, 30, 31, 32, 33, 34, 35] (by decide +kernel) (by decide +kernel)
set_option maxRecDepth 20000 in
theorem gX7_far_X7_finding : GoodIn wsX7_far (wsV RX7 84 RX7 yX7_finding wsX7_finding) := goodIn_app (goodIn_of _ (by decide +kernel)) ggX7_far_X7_finding
set_option maxRecDepth 20000 in
theorem ggX7_far_X3_squaresAt : GoodIn wsX7_far wsX3_squaresAt := goodIn_r _ [21, 22, 38] (by decide +kernel) (by decide +kernel)
set_option maxRecDepth 20000 in
theorem gX7_far_X3_squaresAt : GoodIn wsX7_far (wsV RX7 248 RX3 yX3_squaresAt wsX3_squaresAt) := goodIn_app (goodIn_of _ (by decide +kernel)) ggX7_far_X3_squaresAt
theorem dX7_far_0 : decode cX7_far 0 = .ok (.iload_n 1, 1) := by decide +kernel
theorem dX7_far_1 : decode cX7_far 1 = .ok (.iload_n 2, 1) := by decide +kernel
theorem dX7_far_2 : decode cX7_far 2 = .ok (.invokestatic 104, 3) := by decide +kernel
theorem dX7_far_5 : decode cX7_far 5 = .ok (.ifCond .eq 11, 3) := by decide +kernel
theorem dX7_far_8 : decode cX7_far 8 = .ok (.iload_n 1, 1) := by decide +kernel
theorem dX7_far_9 : decode cX7_far 9 = .ok (.ifCond .ne 14, 3) := by decide +kernel
theorem dX7_far_12 : decode cX7_far 12 = .ok (.iload_n 2, 1) := by decide +kernel
theorem dX7_far_13 : decode cX7_far 13 = .ok (.ifCond .ne 10, 3) := by decide +kernel
theorem dX7_far_16 : decode cX7_far 16 = .ok (.aload_n 0, 1) := by decide +kernel
theorem dX7_far_17 : decode cX7_far 17 = .ok (.ldc 83, 2) := by decide +kernel
theorem dX7_far_19 : decode cX7_far 19 = .ok (.invokevirtual 84, 3) := by decide +kernel
theorem dX7_far_22 : decode cX7_far 22 = .ok (.ireturn, 1) := by decide +kernel
theorem dX7_far_23 : decode cX7_far 23 = .ok (.iload_n 1, 1) := by decide +kernel
theorem dX7_far_24 : decode cX7_far 24 = .ok (.aload_n 0, 1) := by decide +kernel
theorem dX7_far_25 : decode cX7_far 25 = .ok (.getfield 10, 3) := by decide +kernel
theorem dX7_far_28 : decode cX7_far 28 = .ok (.getfield 125, 3) := by decide +kernel
theorem dX7_far_31 : decode cX7_far 31 = .ok (.iload_n 1, 1) := by decide +kernel
theorem dX7_far_32 : decode cX7_far 32 = .ok (.iload_n 2, 1) := by decide +kernel
theorem dX7_far_33 : decode cX7_far 33 = .ok (.invokevirtual 248, 3) := by decide +kernel
theorem dX7_far_36 : decode cX7_far 36 = .ok (.imul, 1) := by decide +kernel
theorem dX7_far_37 : decode cX7_far 37 = .ok (.iload_n 2, 1) := by decide +kernel
theorem dX7_far_38 : decode cX7_far 38 = .ok (.aload_n 0, 1) := by decide +kernel
theorem dX7_far_39 : decode cX7_far 39 = .ok (.getfield 10, 3) := by decide +kernel
theorem dX7_far_42 : decode cX7_far 42 = .ok (.getfield 117, 3) := by decide +kernel
theorem dX7_far_45 : decode cX7_far 45 = .ok (.iload_n 1, 1) := by decide +kernel
theorem dX7_far_46 : decode cX7_far 46 = .ok (.iload_n 2, 1) := by decide +kernel
theorem dX7_far_47 : decode cX7_far 47 = .ok (.invokevirtual 248, 3) := by decide +kernel
theorem dX7_far_50 : decode cX7_far 50 = .ok (.imul, 1) := by decide +kernel
theorem dX7_far_51 : decode cX7_far 51 = .ok (.isub, 1) := by decide +kernel
theorem dX7_far_52 : decode cX7_far 52 = .ok (.istore_n 3, 1) := by decide +kernel
theorem dX7_far_53 : decode cX7_far 53 = .ok (.iload_n 3, 1) := by decide +kernel
theorem dX7_far_54 : decode cX7_far 54 = .ok (.ifCond .ne 7, 3) := by decide +kernel
theorem dX7_far_57 : decode cX7_far 57 = .ok (.iconst 1, 1) := by decide +kernel
theorem dX7_far_58 : decode cX7_far 58 = .ok (.goto 4, 3) := by decide +kernel
theorem dX7_far_61 : decode cX7_far 61 = .ok (.iconst 0, 1) := by decide +kernel
theorem dX7_far_62 : decode cX7_far 62 = .ok (.ireturn, 1) := by decide +kernel
set_option maxRecDepth 20000 in
theorem ggX7_keep_X7_isSlot : GoodIn wsX7_keep wsX7_isSlot := goodIn_r _ [8] (by decide +kernel) (by decide +kernel)
set_option maxRecDepth 20000 in
theorem gX7_keep_X7_isSlot : GoodIn wsX7_keep (va_wsS RX7 143 yX7_isSlot wsX7_isSlot) := goodIn_app (goodIn_of _ (by decide +kernel)) ggX7_keep_X7_isSlot
set_option maxRecDepth 20000 in
theorem ggX7_keep_X7_finding : GoodIn wsX7_keep wsX7_finding := goodIn_r _ [12, 13, 56, 57, 58, 59, 60, 61, 62, 63, 64, 65, 66, 67, 68] (by decide +kernel) (by decide +kernel)
set_option maxRecDepth 20000 in
theorem gX7_keep_X7_finding : GoodIn wsX7_keep (wsV RX7 84 RX7 yX7_finding wsX7_finding) := goodIn_app (goodIn_of _ (by decide +kernel)) ggX7_keep_X7_finding
set_option maxRecDepth 20000 in
theorem ggX7_keep_X1_become : GoodIn wsX7_keep wsX1_become := goodIn_r _ [18, 19, 20, 21, 22, 23, 24, 25, 26, 27, 28, 29, 30, 69, 70, 71] (by decide +kernel) (by decide +kernel)
set_option maxRecDepth 20000 in
theorem gX7_keep_X1_become : GoodIn wsX7_keep (wsV RX7 88 RX1 yX1_become wsX1_become) := goodIn_app (goodIn_of _ (by decide +kernel)) ggX7_keep_X1_become
set_option maxRecDepth 20000 in
theorem ggX7_keep_X1_lastKind : GoodIn wsX7_keep wsX1_lastKind := goodIn_r _ [34, 19, 20, 35, 36, 37, 38, 17, 39, 40, 41, 42, 43, 44, 45, 46, 24, 47, 26, 48, 49, 50, 51, 52, 53, 54, 55, 69, 70, 71] (by decide +kernel) (by decide +kernel)
set_option maxRecDepth 20000 in
theorem gX7_keep_X1_lastKind : GoodIn wsX7_keep (wsV RX7 251 RX1 yX1_lastKind wsX1_lastKind) := goodIn_app (goodIn_of _ (by decide +kernel)) ggX7_keep_X1_lastKind
theorem dX7_keep_0 : decode cX7_keep 0 = .ok (.iload_n 1, 1) := by decide +kernel
theorem dX7_keep_1 : decode cX7_keep 1 = .ok (.invokestatic 143, 3) := by decide +kernel
theorem dX7_keep_4 : decode cX7_keep 4 = .ok (.ifCond .ne 10, 3) := by decide +kernel
theorem dX7_keep_7 : decode cX7_keep 7 = .ok (.aload_n 0, 1) := by decide +kernel
theorem dX7_keep_8 : decode cX7_keep 8 = .ok (.ldc 83, 2) := by decide +kernel
theorem dX7_keep_10 : decode cX7_keep 10 = .ok (.invokevirtual 84, 3) := by decide +kernel
theorem dX7_keep_13 : decode cX7_keep 13 = .ok (.ireturn, 1) := by decide +kernel
theorem dX7_keep_14 : decode cX7_keep 14 = .ok (.aload_n 0, 1) := by decide +kernel
theorem dX7_keep_15 : decode cX7_keep 15 = .ok (.getfield 33, 3) := by decide +kernel
theorem dX7_keep_18 : decode cX7_keep 18 = .ok (.iload_n 1, 1) := by decide +kernel
theorem dX7_keep_19 : decode cX7_keep 19 = .ok (.aaload, 1) := by decide +kernel
theorem dX7_keep_20 : decode cX7_keep 20 = .ok (.aload_n 0, 1) := by decide +kernel
theorem dX7_keep_21 : decode cX7_keep 21 = .ok (.getfield 10, 3) := by decide +kernel
theorem dX7_keep_24 : decode cX7_keep 24 = .ok (.invokevirtual 88, 3) := by decide +kernel
theorem dX7_keep_27 : decode cX7_keep 27 = .ok (.aload_n 0, 1) := by decide +kernel
theorem dX7_keep_28 : decode cX7_keep 28 = .ok (.getfield 37, 3) := by decide +kernel
theorem dX7_keep_31 : decode cX7_keep 31 = .ok (.iload_n 1, 1) := by decide +kernel
theorem dX7_keep_32 : decode cX7_keep 32 = .ok (.aload_n 0, 1) := by decide +kernel
theorem dX7_keep_33 : decode cX7_keep 33 = .ok (.getfield 10, 3) := by decide +kernel
theorem dX7_keep_36 : decode cX7_keep 36 = .ok (.invokevirtual 251, 3) := by decide +kernel
theorem dX7_keep_39 : decode cX7_keep 39 = .ok (.iastore, 1) := by decide +kernel
theorem dX7_keep_40 : decode cX7_keep 40 = .ok (.aload_n 0, 1) := by decide +kernel
theorem dX7_keep_41 : decode cX7_keep 41 = .ok (.getfield 37, 3) := by decide +kernel
theorem dX7_keep_44 : decode cX7_keep 44 = .ok (.iload_n 1, 1) := by decide +kernel
theorem dX7_keep_45 : decode cX7_keep 45 = .ok (.iaload, 1) := by decide +kernel
theorem dX7_keep_46 : decode cX7_keep 46 = .ok (.ireturn, 1) := by decide +kernel
set_option maxRecDepth 20000 in
theorem ggX7_bring_X7_isSlot : GoodIn wsX7_bring wsX7_isSlot := goodIn_r _ [9] (by decide +kernel) (by decide +kernel)
set_option maxRecDepth 20000 in
theorem gX7_bring_X7_isSlot : GoodIn wsX7_bring (va_wsS RX7 143 yX7_isSlot wsX7_isSlot) := goodIn_app (goodIn_of _ (by decide +kernel)) ggX7_bring_X7_isSlot
set_option maxRecDepth 20000 in
theorem ggX7_bring_X7_finding : GoodIn wsX7_bring wsX7_finding := goodIn_r _ [13, 14, 58, 59, 60, 61, 62, 63, 64, 65, 66, 67, 68, 69, 70] (by decide +kernel) (by decide +kernel)
set_option maxRecDepth 20000 in
theorem gX7_bring_X7_finding : GoodIn wsX7_bring (wsV RX7 84 RX7 yX7_finding wsX7_finding) := goodIn_app (goodIn_of _ (by decide +kernel)) ggX7_bring_X7_finding
set_option maxRecDepth 20000 in
theorem ggX7_bring_X1_become : GoodIn wsX7_bring wsX1_become := goodIn_r _ [19, 20, 21, 22, 23, 24, 25, 26, 27, 28, 29, 30, 31, 71, 72, 73] (by decide +kernel) (by decide +kernel)
set_option maxRecDepth 20000 in
theorem gX7_bring_X1_become : GoodIn wsX7_bring (wsV RX7 88 RX1 yX1_become wsX1_become) := goodIn_app (goodIn_of _ (by decide +kernel)) ggX7_bring_X1_become
set_option maxRecDepth 20000 in
theorem ggX7_bring_X7_takeDraft : GoodIn wsX7_bring wsX7_takeDraft := goodIn_r _ [35, 36, 37, 38, 4, 39, 40, 41, 42, 43, 44, 45, 46, 47, 48, 49, 50, 51, 52, 53, 29, 30, 31, 54, 55, 56, 57, 15, 16, 17, 18, 19, 20, 21, 22, 23, 24, 25, 26, 27, 28, 58, 59, 60, 61, 62, 63, 64, 65, 66, 67, 68, 69, 70, 74, 75, 76, 71, 72, 73, 77, 78, 79] (by decide +kernel) (by decide +kernel)
set_option maxRecDepth 20000 in
theorem gX7_bring_X7_takeDraft : GoodIn wsX7_bring (wsV RX7 101 RX7 yX7_takeDraft wsX7_takeDraft) := goodIn_app (goodIn_of _ (by decide +kernel)) ggX7_bring_X7_takeDraft
theorem dX7_bring_0 : decode cX7_bring 0 = .ok (.iload_n 1, 1) := by decide +kernel
theorem dX7_bring_1 : decode cX7_bring 1 = .ok (.invokestatic 143, 3) := by decide +kernel
theorem dX7_bring_4 : decode cX7_bring 4 = .ok (.ifCond .ne 10, 3) := by decide +kernel
theorem dX7_bring_7 : decode cX7_bring 7 = .ok (.aload_n 0, 1) := by decide +kernel
theorem dX7_bring_8 : decode cX7_bring 8 = .ok (.ldc 83, 2) := by decide +kernel
theorem dX7_bring_10 : decode cX7_bring 10 = .ok (.invokevirtual 84, 3) := by decide +kernel
theorem dX7_bring_13 : decode cX7_bring 13 = .ok (.ireturn, 1) := by decide +kernel
theorem dX7_bring_14 : decode cX7_bring 14 = .ok (.aload_n 0, 1) := by decide +kernel
theorem dX7_bring_15 : decode cX7_bring 15 = .ok (.getfield 37, 3) := by decide +kernel
theorem dX7_bring_18 : decode cX7_bring 18 = .ok (.iload_n 1, 1) := by decide +kernel
theorem dX7_bring_19 : decode cX7_bring 19 = .ok (.iaload, 1) := by decide +kernel
theorem dX7_bring_20 : decode cX7_bring 20 = .ok (.iconst (-1), 1) := by decide +kernel
theorem dX7_bring_21 : decode cX7_bring 21 = .ok (.if_icmp .ne 10, 3) := by decide +kernel
theorem dX7_bring_24 : decode cX7_bring 24 = .ok (.aload_n 0, 1) := by decide +kernel
theorem dX7_bring_25 : decode cX7_bring 25 = .ok (.ldc 146, 2) := by decide +kernel
theorem dX7_bring_27 : decode cX7_bring 27 = .ok (.invokevirtual 84, 3) := by decide +kernel
theorem dX7_bring_30 : decode cX7_bring 30 = .ok (.ireturn, 1) := by decide +kernel
theorem dX7_bring_31 : decode cX7_bring 31 = .ok (.aload_n 0, 1) := by decide +kernel
theorem dX7_bring_32 : decode cX7_bring 32 = .ok (.getfield 16, 3) := by decide +kernel
theorem dX7_bring_35 : decode cX7_bring 35 = .ok (.aload_n 0, 1) := by decide +kernel
theorem dX7_bring_36 : decode cX7_bring 36 = .ok (.getfield 33, 3) := by decide +kernel
theorem dX7_bring_39 : decode cX7_bring 39 = .ok (.iload_n 1, 1) := by decide +kernel
theorem dX7_bring_40 : decode cX7_bring 40 = .ok (.aaload, 1) := by decide +kernel
theorem dX7_bring_41 : decode cX7_bring 41 = .ok (.invokevirtual 88, 3) := by decide +kernel
theorem dX7_bring_44 : decode cX7_bring 44 = .ok (.aload_n 0, 1) := by decide +kernel
theorem dX7_bring_45 : decode cX7_bring 45 = .ok (.aload_n 0, 1) := by decide +kernel
theorem dX7_bring_46 : decode cX7_bring 46 = .ok (.getfield 37, 3) := by decide +kernel
theorem dX7_bring_49 : decode cX7_bring 49 = .ok (.iload_n 1, 1) := by decide +kernel
theorem dX7_bring_50 : decode cX7_bring 50 = .ok (.iaload, 1) := by decide +kernel
theorem dX7_bring_51 : decode cX7_bring 51 = .ok (.invokevirtual 101, 3) := by decide +kernel
theorem dX7_bring_54 : decode cX7_bring 54 = .ok (.ireturn, 1) := by decide +kernel
set_option maxRecDepth 20000 in
theorem ggX7_as_X7_isSlot : GoodIn wsX7_as wsX7_isSlot := goodIn_r _ [9] (by decide +kernel) (by decide +kernel)
set_option maxRecDepth 20000 in
theorem gX7_as_X7_isSlot : GoodIn wsX7_as (va_wsS RX7 143 yX7_isSlot wsX7_isSlot) := goodIn_app (goodIn_of _ (by decide +kernel)) ggX7_as_X7_isSlot
set_option maxRecDepth 20000 in
theorem ggX7_as_X7_finding : GoodIn wsX7_as wsX7_finding := goodIn_r _ [13, 14, 32, 33, 34, 35, 36, 37, 38, 39, 40, 41, 42, 43, 44] (by decide +kernel) (by decide +kernel)
set_option maxRecDepth 20000 in
theorem gX7_as_X7_finding : GoodIn wsX7_as (wsV RX7 84 RX7 yX7_finding wsX7_finding) := goodIn_app (goodIn_of _ (by decide +kernel)) ggX7_as_X7_finding
set_option maxRecDepth 20000 in
theorem ggX7_as_X7_isUnder : GoodIn wsX7_as wsX7_isUnder := goodIn_r _ [17, 18] (by decide +kernel) (by decide +kernel)
set_option maxRecDepth 20000 in
theorem gX7_as_X7_isUnder : GoodIn wsX7_as (va_wsS RX7 254 yX7_isUnder wsX7_isUnder) := goodIn_app (goodIn_of _ (by decide +kernel)) ggX7_as_X7_isUnder
set_option maxRecDepth 20000 in
theorem ggX7_as_X1_countNotZero : GoodIn wsX7_as wsX1_countNotZero := goodIn_r _ [23, 24, 25, 26, 27, 28, 29, 30, 31, 45, 46, 47] (by decide +kernel) (by decide +kernel)
set_option maxRecDepth 20000 in
theorem gX7_as_X1_countNotZero : GoodIn wsX7_as (wsV RX7 257 RX1 yX1_countNotZero wsX1_countNotZero) := goodIn_app (goodIn_of _ (by decide +kernel)) ggX7_as_X1_countNotZero
theorem dX7_as_0 : decode cX7_as 0 = .ok (.iload_n 1, 1) := by decide +kernel
theorem dX7_as_1 : decode cX7_as 1 = .ok (.invokestatic 143, 3) := by decide +kernel
theorem dX7_as_4 : decode cX7_as 4 = .ok (.ifCond .eq 12, 3) := by decide +kernel
theorem dX7_as_7 : decode cX7_as 7 = .ok (.iload_n 2, 1) := by decide +kernel
theorem dX7_as_8 : decode cX7_as 8 = .ok (.ifCond .lt 8, 3) := by decide +kernel
theorem dX7_as_11 : decode cX7_as 11 = .ok (.iload_n 2, 1) := by decide +kernel
theorem dX7_as_12 : decode cX7_as 12 = .ok (.iconst 3, 1) := by decide +kernel
theorem dX7_as_13 : decode cX7_as 13 = .ok (.if_icmp .le 10, 3) := by decide +kernel
theorem dX7_as_16 : decode cX7_as 16 = .ok (.aload_n 0, 1) := by decide +kernel
theorem dX7_as_17 : decode cX7_as 17 = .ok (.ldc 83, 2) := by decide +kernel
theorem dX7_as_19 : decode cX7_as 19 = .ok (.invokevirtual 84, 3) := by decide +kernel
theorem dX7_as_22 : decode cX7_as 22 = .ok (.ireturn, 1) := by decide +kernel
theorem dX7_as_23 : decode cX7_as 23 = .ok (.aload_n 0, 1) := by decide +kernel
theorem dX7_as_24 : decode cX7_as 24 = .ok (.getfield 37, 3) := by decide +kernel
theorem dX7_as_27 : decode cX7_as 27 = .ok (.iload_n 1, 1) := by decide +kernel
theorem dX7_as_28 : decode cX7_as 28 = .ok (.iaload, 1) := by decide +kernel
theorem dX7_as_29 : decode cX7_as 29 = .ok (.iconst (-1), 1) := by decide +kernel
theorem dX7_as_30 : decode cX7_as 30 = .ok (.if_icmp .ne 10, 3) := by decide +kernel
theorem dX7_as_33 : decode cX7_as 33 = .ok (.aload_n 0, 1) := by decide +kernel
theorem dX7_as_34 : decode cX7_as 34 = .ok (.ldc 146, 2) := by decide +kernel
theorem dX7_as_36 : decode cX7_as 36 = .ok (.invokevirtual 84, 3) := by decide +kernel
theorem dX7_as_39 : decode cX7_as 39 = .ok (.ireturn, 1) := by decide +kernel
theorem dX7_as_40 : decode cX7_as 40 = .ok (.aload_n 0, 1) := by decide +kernel
theorem dX7_as_41 : decode cX7_as 41 = .ok (.getfield 37, 3) := by decide +kernel
theorem dX7_as_44 : decode cX7_as 44 = .ok (.iload_n 1, 1) := by decide +kernel
theorem dX7_as_45 : decode cX7_as 45 = .ok (.iaload, 1) := by decide +kernel
theorem dX7_as_46 : decode cX7_as 46 = .ok (.iload_n 2, 1) := by decide +kernel
theorem dX7_as_47 : decode cX7_as 47 = .ok (.invokestatic 254, 3) := by decide +kernel
theorem dX7_as_50 : decode cX7_as 50 = .ok (.ifCond .ne 10, 3) := by decide +kernel
theorem dX7_as_53 : decode cX7_as 53 = .ok (.aload_n 0, 1) := by decide +kernel
theorem dX7_as_54 : decode cX7_as 54 = .ok (.ldc 182, 2) := by decide +kernel
theorem dX7_as_56 : decode cX7_as 56 = .ok (.invokevirtual 84, 3) := by decide +kernel
theorem dX7_as_59 : decode cX7_as 59 = .ok (.ireturn, 1) := by decide +kernel
theorem dX7_as_60 : decode cX7_as 60 = .ok (.aload_n 0, 1) := by decide +kernel
theorem dX7_as_61 : decode cX7_as 61 = .ok (.getfield 33, 3) := by decide +kernel
theorem dX7_as_64 : decode cX7_as 64 = .ok (.iload_n 1, 1) := by decide +kernel
theorem dX7_as_65 : decode cX7_as 65 = .ok (.aaload, 1) := by decide +kernel
theorem dX7_as_66 : decode cX7_as 66 = .ok (.invokevirtual 257, 3) := by decide +kernel
theorem dX7_as_69 : decode cX7_as 69 = .ok (.ireturn, 1) := by decide +kernel
set_option maxRecDepth 20000 in
theorem ggX7_sheet_X7_isSheet : GoodIn wsX7_sheet wsX7_isSheet := goodIn_r _ [8] (by decide +kernel) (by decide +kernel)
set_option maxRecDepth 20000 in
theorem gX7_sheet_X7_isSheet : GoodIn wsX7_sheet (va_wsS RX7 260 yX7_isSheet wsX7_isSheet) := goodIn_app (goodIn_of _ (by decide +kernel)) ggX7_sheet_X7_isSheet
set_option maxRecDepth 20000 in
theorem ggX7_sheet_X7_isBits : GoodIn wsX7_sheet wsX7_isBits := goodIn_r _ [11] (by decide +kernel) (by decide +kernel)
set_option maxRecDepth 20000 in
theorem gX7_sheet_X7_isBits : GoodIn wsX7_sheet (va_wsS RX7 263 yX7_isBits wsX7_isBits) := goodIn_app (goodIn_of _ (by decide +kernel)) ggX7_sheet_X7_isBits
set_option maxRecDepth 20000 in
theorem ggX7_sheet_X7_finding : GoodIn wsX7_sheet wsX7_finding := goodIn_r _ [15, 16, 25, 26, 27, 28, 29, 30, 31, 32, 33, 34, 35, 36, 37] (by decide +kernel) (by decide +kernel)
set_option maxRecDepth 20000 in
theorem gX7_sheet_X7_finding : GoodIn wsX7_sheet (wsV RX7 84 RX7 yX7_finding wsX7_finding) := goodIn_app (goodIn_of _ (by decide +kernel)) ggX7_sheet_X7_finding
set_option maxRecDepth 20000 in
theorem ggX7_sheet_X5_begin : GoodIn wsX7_sheet wsX5_begin := goodIn_r _ [21, 22, 23, 24, 38, 39, 40] (by decide +kernel) (by decide +kernel)
set_option maxRecDepth 20000 in
theorem gX7_sheet_X5_begin : GoodIn wsX7_sheet (wsV RX7 266 RX5 yX5_begin wsX5_begin) := goodIn_app (goodIn_of _ (by decide +kernel)) ggX7_sheet_X5_begin
theorem dX7_sheet_0 : decode cX7_sheet 0 = .ok (.iload_n 1, 1) := by decide +kernel
theorem dX7_sheet_1 : decode cX7_sheet 1 = .ok (.invokestatic 260, 3) := by decide +kernel
theorem dX7_sheet_4 : decode cX7_sheet 4 = .ok (.ifCond .eq 10, 3) := by decide +kernel
theorem dX7_sheet_7 : decode cX7_sheet 7 = .ok (.iload_n 2, 1) := by decide +kernel
theorem dX7_sheet_8 : decode cX7_sheet 8 = .ok (.invokestatic 263, 3) := by decide +kernel
theorem dX7_sheet_11 : decode cX7_sheet 11 = .ok (.ifCond .ne 10, 3) := by decide +kernel
theorem dX7_sheet_14 : decode cX7_sheet 14 = .ok (.aload_n 0, 1) := by decide +kernel
theorem dX7_sheet_15 : decode cX7_sheet 15 = .ok (.ldc 83, 2) := by decide +kernel
theorem dX7_sheet_17 : decode cX7_sheet 17 = .ok (.invokevirtual 84, 3) := by decide +kernel
theorem dX7_sheet_20 : decode cX7_sheet 20 = .ok (.ireturn, 1) := by decide +kernel
theorem dX7_sheet_21 : decode cX7_sheet 21 = .ok (.iload_n 3, 1) := by decide +kernel
theorem dX7_sheet_22 : decode cX7_sheet 22 = .ok (.ifCond .ge 10, 3) := by decide +kernel
theorem dX7_sheet_25 : decode cX7_sheet 25 = .ok (.aload_n 0, 1) := by decide +kernel
theorem dX7_sheet_26 : decode cX7_sheet 26 = .ok (.ldc 159, 2) := by decide +kernel
theorem dX7_sheet_28 : decode cX7_sheet 28 = .ok (.invokevirtual 84, 3) := by decide +kernel
theorem dX7_sheet_31 : decode cX7_sheet 31 = .ok (.ireturn, 1) := by decide +kernel
theorem dX7_sheet_32 : decode cX7_sheet 32 = .ok (.iload_n 3, 1) := by decide +kernel
theorem dX7_sheet_33 : decode cX7_sheet 33 = .ok (.bipush 16, 2) := by decide +kernel
theorem dX7_sheet_35 : decode cX7_sheet 35 = .ok (.if_icmp .le 10, 3) := by decide +kernel
theorem dX7_sheet_38 : decode cX7_sheet 38 = .ok (.aload_n 0, 1) := by decide +kernel
theorem dX7_sheet_39 : decode cX7_sheet 39 = .ok (.ldc 83, 2) := by decide +kernel
theorem dX7_sheet_41 : decode cX7_sheet 41 = .ok (.invokevirtual 84, 3) := by decide +kernel
theorem dX7_sheet_44 : decode cX7_sheet 44 = .ok (.ireturn, 1) := by decide +kernel
theorem dX7_sheet_45 : decode cX7_sheet 45 = .ok (.aload_n 0, 1) := by decide +kernel
theorem dX7_sheet_46 : decode cX7_sheet 46 = .ok (.getfield 43, 3) := by decide +kernel
theorem dX7_sheet_49 : decode cX7_sheet 49 = .ok (.iload_n 1, 1) := by decide +kernel
theorem dX7_sheet_50 : decode cX7_sheet 50 = .ok (.aaload, 1) := by decide +kernel
theorem dX7_sheet_51 : decode cX7_sheet 51 = .ok (.iload_n 2, 1) := by decide +kernel
theorem dX7_sheet_52 : decode cX7_sheet 52 = .ok (.iload_n 2, 1) := by decide +kernel
theorem dX7_sheet_53 : decode cX7_sheet 53 = .ok (.ifCond .ne 7, 3) := by decide +kernel
theorem dX7_sheet_56 : decode cX7_sheet 56 = .ok (.iconst 0, 1) := by decide +kernel
theorem dX7_sheet_57 : decode cX7_sheet 57 = .ok (.goto 4, 3) := by decide +kernel
theorem dX7_sheet_60 : decode cX7_sheet 60 = .ok (.iload_n 3, 1) := by decide +kernel
theorem dX7_sheet_61 : decode cX7_sheet 61 = .ok (.invokevirtual 266, 3) := by decide +kernel
theorem dX7_sheet_64 : decode cX7_sheet 64 = .ok (.aload_n 0, 1) := by decide +kernel
theorem dX7_sheet_65 : decode cX7_sheet 65 = .ok (.getfield 43, 3) := by decide +kernel
theorem dX7_sheet_68 : decode cX7_sheet 68 = .ok (.iload_n 1, 1) := by decide +kernel
theorem dX7_sheet_69 : decode cX7_sheet 69 = .ok (.aaload, 1) := by decide +kernel
theorem dX7_sheet_70 : decode cX7_sheet 70 = .ok (.getfield 269, 3) := by decide +kernel
theorem dX7_sheet_73 : decode cX7_sheet 73 = .ok (.ireturn, 1) := by decide +kernel
set_option maxRecDepth 20000 in
theorem ggX7_write_X7_isSheet : GoodIn wsX7_write wsX7_isSheet := goodIn_r _ [9] (by decide +kernel) (by decide +kernel)
set_option maxRecDepth 20000 in
theorem gX7_write_X7_isSheet : GoodIn wsX7_write (va_wsS RX7 260 yX7_isSheet wsX7_isSheet) := goodIn_app (goodIn_of _ (by decide +kernel)) ggX7_write_X7_isSheet
set_option maxRecDepth 20000 in
theorem ggX7_write_X7_finding : GoodIn wsX7_write wsX7_finding := goodIn_r _ [13, 14, 25, 26, 27, 28, 29, 30, 31, 32, 33, 34, 35, 36, 37] (by decide +kernel) (by decide +kernel)
set_option maxRecDepth 20000 in
theorem gX7_write_X7_finding : GoodIn wsX7_write (wsV RX7 84 RX7 yX7_finding wsX7_finding) := goodIn_app (goodIn_of _ (by decide +kernel)) ggX7_write_X7_finding
set_option maxRecDepth 20000 in
theorem ggX7_write_X5_isMissing : GoodIn wsX7_write wsX5_isMissing := goodIn_r _ [19, 20, 38, 39, 40] (by decide +kernel) (by decide +kernel)
set_option maxRecDepth 20000 in
theorem gX7_write_X5_isMissing : GoodIn wsX7_write (wsV RX7 272 RX5 yX5_isMissing wsX5_isMissing) := goodIn_app (goodIn_of _ (by decide +kernel)) ggX7_write_X5_isMissing
set_option maxRecDepth 20000 in
theorem ggX7_write_X5_lowestBits : GoodIn wsX7_write wsX5_lowestBits := goodIn_r _ [24, 20, 38, 39, 40] (by decide +kernel) (by decide +kernel)
set_option maxRecDepth 20000 in
theorem gX7_write_X5_lowestBits : GoodIn wsX7_write (wsV RX7 277 RX5 yX5_lowestBits wsX5_lowestBits) := goodIn_app (goodIn_of _ (by decide +kernel)) ggX7_write_X5_lowestBits
theorem dX7_write_0 : decode cX7_write 0 = .ok (.iload_n 1, 1) := by decide +kernel
theorem dX7_write_1 : decode cX7_write 1 = .ok (.invokestatic 260, 3) := by decide +kernel
theorem dX7_write_4 : decode cX7_write 4 = .ok (.ifCond .ne 10, 3) := by decide +kernel
theorem dX7_write_7 : decode cX7_write 7 = .ok (.aload_n 0, 1) := by decide +kernel
theorem dX7_write_8 : decode cX7_write 8 = .ok (.ldc 83, 2) := by decide +kernel
theorem dX7_write_10 : decode cX7_write 10 = .ok (.invokevirtual 84, 3) := by decide +kernel
theorem dX7_write_13 : decode cX7_write 13 = .ok (.ireturn, 1) := by decide +kernel
theorem dX7_write_14 : decode cX7_write 14 = .ok (.aload_n 0, 1) := by decide +kernel
theorem dX7_write_15 : decode cX7_write 15 = .ok (.getfield 43, 3) := by decide +kernel
theorem dX7_write_18 : decode cX7_write 18 = .ok (.iload_n 1, 1) := by decide +kernel
theorem dX7_write_19 : decode cX7_write 19 = .ok (.aaload, 1) := by decide +kernel
theorem dX7_write_20 : decode cX7_write 20 = .ok (.astore 4, 2) := by decide +kernel
theorem dX7_write_22 : decode cX7_write 22 = .ok (.aload 4, 2) := by decide +kernel
theorem dX7_write_24 : decode cX7_write 24 = .ok (.invokevirtual 272, 3) := by decide +kernel
theorem dX7_write_27 : decode cX7_write 27 = .ok (.ifCond .eq 11, 3) := by decide +kernel
theorem dX7_write_30 : decode cX7_write 30 = .ok (.aload_n 0, 1) := by decide +kernel
theorem dX7_write_31 : decode cX7_write 31 = .ok (.ldc_w 275, 3) := by decide +kernel
theorem dX7_write_34 : decode cX7_write 34 = .ok (.invokevirtual 84, 3) := by decide +kernel
theorem dX7_write_37 : decode cX7_write 37 = .ok (.ireturn, 1) := by decide +kernel
theorem dX7_write_38 : decode cX7_write 38 = .ok (.iload_n 2, 1) := by decide +kernel
theorem dX7_write_39 : decode cX7_write 39 = .ok (.ifCond .lt 12, 3) := by decide +kernel
theorem dX7_write_42 : decode cX7_write 42 = .ok (.iload_n 2, 1) := by decide +kernel
theorem dX7_write_43 : decode cX7_write 43 = .ok (.aload 4, 2) := by decide +kernel
theorem dX7_write_45 : decode cX7_write 45 = .ok (.getfield 269, 3) := by decide +kernel
theorem dX7_write_48 : decode cX7_write 48 = .ok (.if_icmp .lt 10, 3) := by decide +kernel
theorem dX7_write_51 : decode cX7_write 51 = .ok (.aload_n 0, 1) := by decide +kernel
theorem dX7_write_52 : decode cX7_write 52 = .ok (.ldc 83, 2) := by decide +kernel
theorem dX7_write_54 : decode cX7_write 54 = .ok (.invokevirtual 84, 3) := by decide +kernel
theorem dX7_write_57 : decode cX7_write 57 = .ok (.ireturn, 1) := by decide +kernel
theorem dX7_write_58 : decode cX7_write 58 = .ok (.aload 4, 2) := by decide +kernel
theorem dX7_write_60 : decode cX7_write 60 = .ok (.getfield 276, 3) := by decide +kernel
theorem dX7_write_63 : decode cX7_write 63 = .ok (.iload_n 2, 1) := by decide +kernel
theorem dX7_write_64 : decode cX7_write 64 = .ok (.aload 4, 2) := by decide +kernel
theorem dX7_write_66 : decode cX7_write 66 = .ok (.iload_n 3, 1) := by decide +kernel
theorem dX7_write_67 : decode cX7_write 67 = .ok (.invokevirtual 277, 3) := by decide +kernel
theorem dX7_write_70 : decode cX7_write 70 = .ok (.iastore, 1) := by decide +kernel
theorem dX7_write_71 : decode cX7_write 71 = .ok (.iconst 0, 1) := by decide +kernel
theorem dX7_write_72 : decode cX7_write 72 = .ok (.ireturn, 1) := by decide +kernel
set_option maxRecDepth 20000 in
theorem ggX7_copy_X7_isSheet : GoodIn wsX7_copy wsX7_isSheet := goodIn_r _ [14] (by decide +kernel) (by decide +kernel)
set_option maxRecDepth 20000 in
theorem gX7_copy_X7_isSheet : GoodIn wsX7_copy (va_wsS RX7 260 yX7_isSheet wsX7_isSheet) := goodIn_app (goodIn_of _ (by decide +kernel)) ggX7_copy_X7_isSheet
set_option maxRecDepth 20000 in
theorem ggX7_copy_X7_finding : GoodIn wsX7_copy wsX7_finding := goodIn_r _ [18, 19, 31, 32, 33, 34, 35, 36, 37, 38, 39, 40, 41, 42, 43] (by decide +kernel) (by decide +kernel)
set_option maxRecDepth 20000 in
theorem gX7_copy_X7_finding : GoodIn wsX7_copy (wsV RX7 84 RX7 yX7_finding wsX7_finding) := goodIn_app (goodIn_of _ (by decide +kernel)) ggX7_copy_X7_finding
set_option maxRecDepth 20000 in
theorem ggX7_copy_X5_isMissing : GoodIn wsX7_copy wsX5_isMissing := goodIn_r _ [24, 25, 44, 45, 46] (by decide +kernel) (by decide +kernel)
set_option maxRecDepth 20000 in
theorem gX7_copy_X5_isMissing : GoodIn wsX7_copy (wsV RX7 272 RX5 yX5_isMissing wsX5_isMissing) := goodIn_app (goodIn_of _ (by decide +kernel)) ggX7_copy_X5_isMissing
set_option maxRecDepth 20000 in
theorem ggX7_copy_X5_hasRange : GoodIn wsX7_copy wsX5_hasRange := goodIn_r _ [29, 30, 44, 45, 46] (by decide +kernel) (by decide +kernel)
set_option maxRecDepth 20000 in
theorem gX7_copy_X5_hasRange : GoodIn wsX7_copy (wsV RX7 283 RX5 yX5_hasRange wsX5_hasRange) := goodIn_app (goodIn_of _ (by decide +kernel)) ggX7_copy_X5_hasRange
theorem dX7_copy_0 : decode cX7_copy 0 = .ok (.iload_n 1, 1) := by decide +kernel
theorem dX7_copy_1 : decode cX7_copy 1 = .ok (.invokestatic 260, 3) := by decide +kernel
theorem dX7_copy_4 : decode cX7_copy 4 = .ok (.ifCond .eq 10, 3) := by decide +kernel
theorem dX7_copy_7 : decode cX7_copy 7 = .ok (.iload_n 3, 1) := by decide +kernel
theorem dX7_copy_8 : decode cX7_copy 8 = .ok (.invokestatic 260, 3) := by decide +kernel
theorem dX7_copy_11 : decode cX7_copy 11 = .ok (.ifCond .ne 10, 3) := by decide +kernel
theorem dX7_copy_14 : decode cX7_copy 14 = .ok (.aload_n 0, 1) := by decide +kernel
theorem dX7_copy_15 : decode cX7_copy 15 = .ok (.ldc 83, 2) := by decide +kernel
theorem dX7_copy_17 : decode cX7_copy 17 = .ok (.invokevirtual 84, 3) := by decide +kernel
theorem dX7_copy_20 : decode cX7_copy 20 = .ok (.ireturn, 1) := by decide +kernel
theorem dX7_copy_21 : decode cX7_copy 21 = .ok (.aload_n 0, 1) := by decide +kernel
theorem dX7_copy_22 : decode cX7_copy 22 = .ok (.getfield 43, 3) := by decide +kernel
theorem dX7_copy_25 : decode cX7_copy 25 = .ok (.iload_n 1, 1) := by decide +kernel
theorem dX7_copy_26 : decode cX7_copy 26 = .ok (.aaload, 1) := by decide +kernel
theorem dX7_copy_27 : decode cX7_copy 27 = .ok (.astore 6, 2) := by decide +kernel
theorem dX7_copy_29 : decode cX7_copy 29 = .ok (.aload_n 0, 1) := by decide +kernel
theorem dX7_copy_30 : decode cX7_copy 30 = .ok (.getfield 43, 3) := by decide +kernel
theorem dX7_copy_33 : decode cX7_copy 33 = .ok (.iload_n 3, 1) := by decide +kernel
theorem dX7_copy_34 : decode cX7_copy 34 = .ok (.aaload, 1) := by decide +kernel
theorem dX7_copy_35 : decode cX7_copy 35 = .ok (.astore 7, 2) := by decide +kernel
theorem dX7_copy_37 : decode cX7_copy 37 = .ok (.aload 6, 2) := by decide +kernel
theorem dX7_copy_39 : decode cX7_copy 39 = .ok (.invokevirtual 272, 3) := by decide +kernel
theorem dX7_copy_42 : decode cX7_copy 42 = .ok (.ifCond .ne 11, 3) := by decide +kernel
theorem dX7_copy_45 : decode cX7_copy 45 = .ok (.aload 7, 2) := by decide +kernel
theorem dX7_copy_47 : decode cX7_copy 47 = .ok (.invokevirtual 272, 3) := by decide +kernel
theorem dX7_copy_50 : decode cX7_copy 50 = .ok (.ifCond .eq 11, 3) := by decide +kernel
theorem dX7_copy_53 : decode cX7_copy 53 = .ok (.aload_n 0, 1) := by decide +kernel
theorem dX7_copy_54 : decode cX7_copy 54 = .ok (.ldc_w 275, 3) := by decide +kernel
theorem dX7_copy_57 : decode cX7_copy 57 = .ok (.invokevirtual 84, 3) := by decide +kernel
theorem dX7_copy_60 : decode cX7_copy 60 = .ok (.ireturn, 1) := by decide +kernel
theorem dX7_copy_61 : decode cX7_copy 61 = .ok (.aload 6, 2) := by decide +kernel
theorem dX7_copy_63 : decode cX7_copy 63 = .ok (.getfield 280, 3) := by decide +kernel
theorem dX7_copy_66 : decode cX7_copy 66 = .ok (.aload 7, 2) := by decide +kernel
theorem dX7_copy_68 : decode cX7_copy 68 = .ok (.getfield 280, 3) := by decide +kernel
theorem dX7_copy_71 : decode cX7_copy 71 = .ok (.if_icmp .eq 10, 3) := by decide +kernel
theorem dX7_copy_74 : decode cX7_copy 74 = .ok (.aload_n 0, 1) := by decide +kernel
theorem dX7_copy_75 : decode cX7_copy 75 = .ok (.ldc 182, 2) := by decide +kernel
theorem dX7_copy_77 : decode cX7_copy 77 = .ok (.invokevirtual 84, 3) := by decide +kernel
theorem dX7_copy_80 : decode cX7_copy 80 = .ok (.ireturn, 1) := by decide +kernel
theorem dX7_copy_81 : decode cX7_copy 81 = .ok (.aload 6, 2) := by decide +kernel
theorem dX7_copy_83 : decode cX7_copy 83 = .ok (.iload_n 2, 1) := by decide +kernel
theorem dX7_copy_84 : decode cX7_copy 84 = .ok (.iload 5, 2) := by decide +kernel
theorem dX7_copy_86 : decode cX7_copy 86 = .ok (.invokevirtual 283, 3) := by decide +kernel
theorem dX7_copy_89 : decode cX7_copy 89 = .ok (.ifCond .eq 15, 3) := by decide +kernel
theorem dX7_copy_92 : decode cX7_copy 92 = .ok (.aload 7, 2) := by decide +kernel
theorem dX7_copy_94 : decode cX7_copy 94 = .ok (.iload 4, 2) := by decide +kernel
theorem dX7_copy_96 : decode cX7_copy 96 = .ok (.iload 5, 2) := by decide +kernel
theorem dX7_copy_98 : decode cX7_copy 98 = .ok (.invokevirtual 283, 3) := by decide +kernel
theorem dX7_copy_101 : decode cX7_copy 101 = .ok (.ifCond .ne 10, 3) := by decide +kernel
theorem dX7_copy_104 : decode cX7_copy 104 = .ok (.aload_n 0, 1) := by decide +kernel
theorem dX7_copy_105 : decode cX7_copy 105 = .ok (.ldc 83, 2) := by decide +kernel
theorem dX7_copy_107 : decode cX7_copy 107 = .ok (.invokevirtual 84, 3) := by decide +kernel
theorem dX7_copy_110 : decode cX7_copy 110 = .ok (.ireturn, 1) := by decide +kernel
theorem dX7_copy_111 : decode cX7_copy 111 = .ok (.aload 6, 2) := by decide +kernel
theorem dX7_copy_113 : decode cX7_copy 113 = .ok (.getfield 276, 3) := by decide +kernel
theorem dX7_copy_116 : decode cX7_copy 116 = .ok (.iload_n 2, 1) := by decide +kernel
theorem dX7_copy_117 : decode cX7_copy 117 = .ok (.aload 7, 2) := by decide +kernel
theorem dX7_copy_119 : decode cX7_copy 119 = .ok (.getfield 276, 3) := by decide +kernel
theorem dX7_copy_122 : decode cX7_copy 122 = .ok (.iload 4, 2) := by decide +kernel
theorem dX7_copy_124 : decode cX7_copy 124 = .ok (.iload 5, 2) := by decide +kernel
theorem dX7_copy_126 : decode cX7_copy 126 = .ok (.invokestatic 286, 3) := by decide +kernel
theorem dX7_copy_129 : decode cX7_copy 129 = .ok (.iload 5, 2) := by decide +kernel
theorem dX7_copy_131 : decode cX7_copy 131 = .ok (.ireturn, 1) := by decide +kernel
set_option maxRecDepth 20000 in
theorem ggX7_lay_X7_isSheet : GoodIn wsX7_lay wsX7_isSheet := goodIn_r _ [15] (by decide +kernel) (by decide +kernel)
set_option maxRecDepth 20000 in
theorem gX7_lay_X7_isSheet : GoodIn wsX7_lay (va_wsS RX7 260 yX7_isSheet wsX7_isSheet) := goodIn_app (goodIn_of _ (by decide +kernel)) ggX7_lay_X7_isSheet
set_option maxRecDepth 20000 in
theorem ggX7_lay_X7_finding : GoodIn wsX7_lay wsX7_finding := goodIn_r _ [19, 20, 81, 82, 83, 84, 85, 86, 87, 88, 89, 90, 91, 92, 93] (by decide +kernel) (by decide +kernel)
set_option maxRecDepth 20000 in
theorem gX7_lay_X7_finding : GoodIn wsX7_lay (wsV RX7 84 RX7 yX7_finding wsX7_finding) := goodIn_app (goodIn_of _ (by decide +kernel)) ggX7_lay_X7_finding
set_option maxRecDepth 20000 in
theorem ggX7_lay_X5_isMissing : GoodIn wsX7_lay wsX5_isMissing := goodIn_r _ [25, 26, 94, 95, 96] (by decide +kernel) (by decide +kernel)
set_option maxRecDepth 20000 in
theorem gX7_lay_X5_isMissing : GoodIn wsX7_lay (wsV RX7 272 RX5 yX5_isMissing wsX5_isMissing) := goodIn_app (goodIn_of _ (by decide +kernel)) ggX7_lay_X5_isMissing
set_option maxRecDepth 20000 in
theorem ggX7_lay_X1_part : GoodIn wsX7_lay wsX1_part := goodIn_r _ [31, 32, 33, 98, 99] (by decide +kernel) (by decide +kernel)
set_option maxRecDepth 20000 in
theorem gX7_lay_X1_part : GoodIn wsX7_lay (wsV RX7 92 RX1 yX1_part wsX1_part) := goodIn_app (goodIn_of _ (by decide +kernel)) ggX7_lay_X1_part
set_option maxRecDepth 20000 in
theorem ggX7_lay_X1_fits : GoodIn wsX7_lay wsX1_fits := goodIn_r _ [37, 33, 32, 38, 39, 40, 41, 42, 43, 44, 14, 45, 98, 99, 97] (by decide +kernel) (by decide +kernel)
set_option maxRecDepth 20000 in
theorem gX7_lay_X1_fits : GoodIn wsX7_lay (wsV RX7 292 RX1 yX1_fits wsX1_fits) := goodIn_app (goodIn_of _ (by decide +kernel)) ggX7_lay_X1_fits
set_option maxRecDepth 20000 in
theorem ggX7_lay_X7_takeDraft : GoodIn wsX7_lay wsX7_takeDraft := goodIn_r _ [49, 50, 51, 52, 6, 53, 54, 55, 56, 57, 58, 59, 60, 9, 10, 11, 61, 62, 63, 64, 65, 66, 67, 68, 69, 70, 71, 72, 73, 74, 30, 75, 33, 32, 76, 77, 78, 41, 79, 43, 80, 81, 82, 83, 84, 85, 86, 87, 88, 89, 90, 91, 92, 93, 100, 101, 102, 98, 99, 97, 103, 104, 105] (by decide +kernel) (by decide +kernel)
set_option maxRecDepth 20000 in
theorem gX7_lay_X7_takeDraft : GoodIn wsX7_lay (wsV RX7 101 RX7 yX7_takeDraft wsX7_takeDraft) := goodIn_app (goodIn_of _ (by decide +kernel)) ggX7_lay_X7_takeDraft

theorem dX7_lay_0 : decode cX7_lay 0 = .ok (.iload_n 1, 1) := by decide +kernel
theorem dX7_lay_1 : decode cX7_lay 1 = .ok (.invokestatic 260, 3) := by decide +kernel
theorem dX7_lay_4 : decode cX7_lay 4 = .ok (.ifCond .ne 10, 3) := by decide +kernel
theorem dX7_lay_7 : decode cX7_lay 7 = .ok (.aload_n 0, 1) := by decide +kernel
theorem dX7_lay_8 : decode cX7_lay 8 = .ok (.ldc 83, 2) := by decide +kernel
theorem dX7_lay_10 : decode cX7_lay 10 = .ok (.invokevirtual 84, 3) := by decide +kernel
theorem dX7_lay_13 : decode cX7_lay 13 = .ok (.ireturn, 1) := by decide +kernel
theorem dX7_lay_14 : decode cX7_lay 14 = .ok (.aload_n 0, 1) := by decide +kernel
theorem dX7_lay_15 : decode cX7_lay 15 = .ok (.getfield 43, 3) := by decide +kernel
theorem dX7_lay_18 : decode cX7_lay 18 = .ok (.iload_n 1, 1) := by decide +kernel
theorem dX7_lay_19 : decode cX7_lay 19 = .ok (.aaload, 1) := by decide +kernel
theorem dX7_lay_20 : decode cX7_lay 20 = .ok (.astore_n 2, 1) := by decide +kernel
theorem dX7_lay_21 : decode cX7_lay 21 = .ok (.aload_n 2, 1) := by decide +kernel
theorem dX7_lay_22 : decode cX7_lay 22 = .ok (.invokevirtual 272, 3) := by decide +kernel
theorem dX7_lay_25 : decode cX7_lay 25 = .ok (.ifCond .eq 11, 3) := by decide +kernel
theorem dX7_lay_28 : decode cX7_lay 28 = .ok (.aload_n 0, 1) := by decide +kernel
theorem dX7_lay_29 : decode cX7_lay 29 = .ok (.ldc_w 275, 3) := by decide +kernel
theorem dX7_lay_32 : decode cX7_lay 32 = .ok (.invokevirtual 84, 3) := by decide +kernel
theorem dX7_lay_35 : decode cX7_lay 35 = .ok (.ireturn, 1) := by decide +kernel
theorem dX7_lay_36 : decode cX7_lay 36 = .ok (.iconst 0, 1) := by decide +kernel
theorem dX7_lay_37 : decode cX7_lay 37 = .ok (.istore_n 3, 1) := by decide +kernel
theorem dX7_lay_38 : decode cX7_lay 38 = .ok (.iload_n 3, 1) := by decide +kernel
theorem dX7_lay_39 : decode cX7_lay 39 = .ok (.bipush 12, 2) := by decide +kernel
theorem dX7_lay_41 : decode cX7_lay 41 = .ok (.if_icmp .ge 57, 3) := by decide +kernel
theorem dX7_lay_44 : decode cX7_lay 44 = .ok (.iload_n 3, 1) := by decide +kernel
theorem dX7_lay_45 : decode cX7_lay 45 = .ok (.aload_n 2, 1) := by decide +kernel
theorem dX7_lay_46 : decode cX7_lay 46 = .ok (.getfield 269, 3) := by decide +kernel
theorem dX7_lay_49 : decode cX7_lay 49 = .ok (.if_icmp .ge 12, 3) := by decide +kernel
theorem dX7_lay_52 : decode cX7_lay 52 = .ok (.aload_n 2, 1) := by decide +kernel
theorem dX7_lay_53 : decode cX7_lay 53 = .ok (.getfield 276, 3) := by decide +kernel
theorem dX7_lay_56 : decode cX7_lay 56 = .ok (.iload_n 3, 1) := by decide +kernel
theorem dX7_lay_57 : decode cX7_lay 57 = .ok (.iaload, 1) := by decide +kernel
theorem dX7_lay_58 : decode cX7_lay 58 = .ok (.goto 4, 3) := by decide +kernel
theorem dX7_lay_61 : decode cX7_lay 61 = .ok (.iconst 0, 1) := by decide +kernel
theorem dX7_lay_62 : decode cX7_lay 62 = .ok (.istore 4, 2) := by decide +kernel
theorem dX7_lay_64 : decode cX7_lay 64 = .ok (.aload_n 0, 1) := by decide +kernel
theorem dX7_lay_65 : decode cX7_lay 65 = .ok (.getfield 16, 3) := by decide +kernel
theorem dX7_lay_68 : decode cX7_lay 68 = .ok (.iload_n 3, 1) := by decide +kernel
theorem dX7_lay_69 : decode cX7_lay 69 = .ok (.bipush 6, 2) := by decide +kernel
theorem dX7_lay_71 : decode cX7_lay 71 = .ok (.if_icmp .lt 7, 3) := by decide +kernel
theorem dX7_lay_74 : decode cX7_lay 74 = .ok (.iconst 1, 1) := by decide +kernel
theorem dX7_lay_75 : decode cX7_lay 75 = .ok (.goto 4, 3) := by decide +kernel
theorem dX7_lay_78 : decode cX7_lay 78 = .ok (.iconst 0, 1) := by decide +kernel
theorem dX7_lay_79 : decode cX7_lay 79 = .ok (.invokevirtual 92, 3) := by decide +kernel
theorem dX7_lay_82 : decode cX7_lay 82 = .ok (.getfield 96, 3) := by decide +kernel
theorem dX7_lay_85 : decode cX7_lay 85 = .ok (.iload_n 3, 1) := by decide +kernel
theorem dX7_lay_86 : decode cX7_lay 86 = .ok (.bipush 6, 2) := by decide +kernel
theorem dX7_lay_88 : decode cX7_lay 88 = .ok (.irem, 1) := by decide +kernel
theorem dX7_lay_89 : decode cX7_lay 89 = .ok (.iload 4, 2) := by decide +kernel
theorem dX7_lay_91 : decode cX7_lay 91 = .ok (.iastore, 1) := by decide +kernel
theorem dX7_lay_92 : decode cX7_lay 92 = .ok (.iinc 3 1, 3) := by decide +kernel
theorem dX7_lay_95 : decode cX7_lay 95 = .ok (.goto (-57), 3) := by decide +kernel
theorem dX7_lay_98 : decode cX7_lay 98 = .ok (.aload_n 0, 1) := by decide +kernel
theorem dX7_lay_99 : decode cX7_lay 99 = .ok (.getfield 16, 3) := by decide +kernel
theorem dX7_lay_102 : decode cX7_lay 102 = .ok (.invokevirtual 292, 3) := by decide +kernel
theorem dX7_lay_105 : decode cX7_lay 105 = .ok (.ifCond .ne 10, 3) := by decide +kernel
theorem dX7_lay_108 : decode cX7_lay 108 = .ok (.aload_n 0, 1) := by decide +kernel
theorem dX7_lay_109 : decode cX7_lay 109 = .ok (.ldc 83, 2) := by decide +kernel
theorem dX7_lay_111 : decode cX7_lay 111 = .ok (.invokevirtual 84, 3) := by decide +kernel
theorem dX7_lay_114 : decode cX7_lay 114 = .ok (.ireturn, 1) := by decide +kernel
theorem dX7_lay_115 : decode cX7_lay 115 = .ok (.aload_n 0, 1) := by decide +kernel
theorem dX7_lay_116 : decode cX7_lay 116 = .ok (.aload_n 2, 1) := by decide +kernel
theorem dX7_lay_117 : decode cX7_lay 117 = .ok (.getfield 269, 3) := by decide +kernel
theorem dX7_lay_120 : decode cX7_lay 120 = .ok (.bipush 12, 2) := by decide +kernel
theorem dX7_lay_122 : decode cX7_lay 122 = .ok (.invokestatic 236, 3) := by decide +kernel
theorem dX7_lay_125 : decode cX7_lay 125 = .ok (.invokevirtual 101, 3) := by decide +kernel
theorem dX7_lay_128 : decode cX7_lay 128 = .ok (.ireturn, 1) := by decide +kernel
set_option maxRecDepth 20000 in
theorem ggX7_undo_X7_finding : GoodIn wsX7_undo wsX7_finding := goodIn_r _ [10, 11, 30, 31, 32, 33, 34, 35, 36, 37, 38, 39, 40, 41, 42] (by decide +kernel) (by decide +kernel)
set_option maxRecDepth 20000 in
theorem gX7_undo_X7_finding : GoodIn wsX7_undo (wsV RX7 84 RX7 yX7_finding wsX7_finding) := goodIn_app (goodIn_of _ (by decide +kernel)) ggX7_undo_X7_finding
set_option maxRecDepth 20000 in
theorem ggX7_undo_X2_bringBack : GoodIn wsX7_undo wsX2_bringBack := goodIn_r _ [16, 17, 18, 19, 20, 21, 22, 23, 24, 25, 26, 27, 28, 29, 43, 44, 45, 46, 47, 48, 49, 50, 51] (by decide +kernel) (by decide +kernel)
set_option maxRecDepth 20000 in
theorem gX7_undo_X2_bringBack : GoodIn wsX7_undo (wsV RX7 296 RX2 yX2_bringBack wsX2_bringBack) := goodIn_app (goodIn_of _ (by decide +kernel)) ggX7_undo_X2_bringBack
theorem dX7_undo_0 : decode cX7_undo 0 = .ok (.aload_n 0, 1) := by decide +kernel
theorem dX7_undo_1 : decode cX7_undo 1 = .ok (.getfield 29, 3) := by decide +kernel
theorem dX7_undo_4 : decode cX7_undo 4 = .ok (.getfield 295, 3) := by decide +kernel
theorem dX7_undo_7 : decode cX7_undo 7 = .ok (.ifCond .ne 10, 3) := by decide +kernel
theorem dX7_undo_10 : decode cX7_undo 10 = .ok (.aload_n 0, 1) := by decide +kernel
theorem dX7_undo_11 : decode cX7_undo 11 = .ok (.ldc 146, 2) := by decide +kernel
theorem dX7_undo_13 : decode cX7_undo 13 = .ok (.invokevirtual 84, 3) := by decide +kernel
theorem dX7_undo_16 : decode cX7_undo 16 = .ok (.ireturn, 1) := by decide +kernel
theorem dX7_undo_17 : decode cX7_undo 17 = .ok (.aload_n 0, 1) := by decide +kernel
theorem dX7_undo_18 : decode cX7_undo 18 = .ok (.getfield 29, 3) := by decide +kernel
theorem dX7_undo_21 : decode cX7_undo 21 = .ok (.aload_n 0, 1) := by decide +kernel
theorem dX7_undo_22 : decode cX7_undo 22 = .ok (.getfield 10, 3) := by decide +kernel
theorem dX7_undo_25 : decode cX7_undo 25 = .ok (.aload_n 0, 1) := by decide +kernel
theorem dX7_undo_26 : decode cX7_undo 26 = .ok (.getfield 22, 3) := by decide +kernel
theorem dX7_undo_29 : decode cX7_undo 29 = .ok (.invokevirtual 296, 3) := by decide +kernel
theorem dX7_undo_32 : decode cX7_undo 32 = .ok (.aload_n 0, 1) := by decide +kernel
theorem dX7_undo_33 : decode cX7_undo 33 = .ok (.getfield 29, 3) := by decide +kernel
theorem dX7_undo_36 : decode cX7_undo 36 = .ok (.getfield 295, 3) := by decide +kernel
theorem dX7_undo_39 : decode cX7_undo 39 = .ok (.ireturn, 1) := by decide +kernel
set_option maxRecDepth 20000 in
theorem ggX7_told_X1_countNotZero : GoodIn wsX7_told wsX1_countNotZero := goodIn_r _ [10, 11, 12, 13, 14, 15, 16, 17, 18, 45, 46, 47] (by decide +kernel) (by decide +kernel)
set_option maxRecDepth 20000 in
theorem gX7_told_X1_countNotZero : GoodIn wsX7_told (wsV RX7 257 RX1 yX1_countNotZero wsX1_countNotZero) := goodIn_app (goodIn_of _ (by decide +kernel)) ggX7_told_X1_countNotZero
set_option maxRecDepth 20000 in
theorem ggX7_told_X7_countFilledSlots : GoodIn wsX7_told wsX7_countFilledSlots := goodIn_r _ [23, 24, 29, 30, 31, 32, 33, 34, 35, 36, 37, 38, 39, 40, 41] (by decide +kernel) (by decide +kernel)
set_option maxRecDepth 20000 in
theorem gX7_told_X7_countFilledSlots : GoodIn wsX7_told (wsV RX7 299 RX7 yX7_countFilledSlots wsX7_countFilledSlots) := goodIn_app (goodIn_of _ (by decide +kernel)) ggX7_told_X7_countFilledSlots
set_option maxRecDepth 20000 in
theorem ggX7_told_X7_finding : GoodIn wsX7_told wsX7_finding := goodIn_r _ [28, 4, 29, 30, 31, 32, 33, 34, 35, 36, 37, 38, 39, 40, 41] (by decide +kernel) (by decide +kernel)
set_option maxRecDepth 20000 in
theorem gX7_told_X7_finding : GoodIn wsX7_told (wsV RX7 84 RX7 yX7_finding wsX7_finding) := goodIn_app (goodIn_of _ (by decide +kernel)) ggX7_told_X7_finding
theorem dX7_told_0 : decode cX7_told 0 = .ok (.iload_n 1, 1) := by decide +kernel
theorem dX7_told_1 : decode cX7_told 1 = .ok (.tableswitch 57 0 3 #[31, 39, 47, 52], 31) := by decide +kernel
theorem dX7_told_32 : decode cX7_told 32 = .ok (.aload_n 0, 1) := by decide +kernel
theorem dX7_told_33 : decode cX7_told 33 = .ok (.getfield 22, 3) := by decide +kernel
theorem dX7_told_36 : decode cX7_told 36 = .ok (.getfield 160, 3) := by decide +kernel
theorem dX7_told_39 : decode cX7_told 39 = .ok (.ireturn, 1) := by decide +kernel
theorem dX7_told_40 : decode cX7_told 40 = .ok (.aload_n 0, 1) := by decide +kernel
theorem dX7_told_41 : decode cX7_told 41 = .ok (.getfield 10, 3) := by decide +kernel
theorem dX7_told_44 : decode cX7_told 44 = .ok (.invokevirtual 257, 3) := by decide +kernel
theorem dX7_told_47 : decode cX7_told 47 = .ok (.ireturn, 1) := by decide +kernel
theorem dX7_told_48 : decode cX7_told 48 = .ok (.aload_n 0, 1) := by decide +kernel
theorem dX7_told_49 : decode cX7_told 49 = .ok (.invokevirtual 299, 3) := by decide +kernel
theorem dX7_told_52 : decode cX7_told 52 = .ok (.ireturn, 1) := by decide +kernel
theorem dX7_told_53 : decode cX7_told 53 = .ok (.aload_n 0, 1) := by decide +kernel
theorem dX7_told_54 : decode cX7_told 54 = .ok (.getfield 71, 3) := by decide +kernel
theorem dX7_told_57 : decode cX7_told 57 = .ok (.ireturn, 1) := by decide +kernel
theorem dX7_told_58 : decode cX7_told 58 = .ok (.aload_n 0, 1) := by decide +kernel
theorem dX7_told_59 : decode cX7_told 59 = .ok (.ldc 83, 2) := by decide +kernel
theorem dX7_told_61 : decode cX7_told 61 = .ok (.invokevirtual 84, 3) := by decide +kernel
theorem dX7_told_64 : decode cX7_told 64 = .ok (.ireturn, 1) := by decide +kernel
theorem dX7_finding_0 : decode cX7_finding 0 = .ok (.aload_n 0, 1) := by decide +kernel
theorem dX7_finding_1 : decode cX7_finding 1 = .ok (.dup, 1) := by decide +kernel
theorem dX7_finding_2 : decode cX7_finding 2 = .ok (.getfield 71, 3) := by decide +kernel
theorem dX7_finding_5 : decode cX7_finding 5 = .ok (.iconst 1, 1) := by decide +kernel
theorem dX7_finding_6 : decode cX7_finding 6 = .ok (.iadd, 1) := by decide +kernel
theorem dX7_finding_7 : decode cX7_finding 7 = .ok (.putfield 71, 3) := by decide +kernel
theorem dX7_finding_10 : decode cX7_finding 10 = .ok (.iload_n 1, 1) := by decide +kernel
theorem dX7_finding_11 : decode cX7_finding 11 = .ok (.ireturn, 1) := by decide +kernel
set_option maxRecDepth 20000 in
theorem ggX7_takeDraft_X2_remember : GoodIn wsX7_takeDraft wsX2_remember := goodIn_r _ [9, 10, 11, 12, 13, 14, 15, 16, 17, 18, 19, 20, 21, 22, 23, 24, 25, 26, 54, 55, 56, 57, 58, 59, 60, 61, 62] (by decide +kernel) (by decide +kernel)
set_option maxRecDepth 20000 in
theorem gX7_takeDraft_X2_remember : GoodIn wsX7_takeDraft (wsV RX7 164 RX2 yX2_remember wsX2_remember) := goodIn_app (goodIn_of _ (by decide +kernel)) ggX7_takeDraft_X2_remember
set_option maxRecDepth 20000 in
theorem ggX7_takeDraft_X1_become : GoodIn wsX7_takeDraft wsX1_become := goodIn_r _ [31, 32, 33, 34, 35, 36, 37, 38, 39, 40, 20, 21, 22, 57, 58, 59] (by decide +kernel) (by decide +kernel)
set_option maxRecDepth 20000 in
theorem gX7_takeDraft_X1_become : GoodIn wsX7_takeDraft (wsV RX7 88 RX1 yX1_become wsX1_become) := goodIn_app (goodIn_of _ (by decide +kernel)) ggX7_takeDraft_X1_become
theorem dX7_takeDraft_0 : decode cX7_takeDraft 0 = .ok (.aload_n 0, 1) := by decide +kernel
theorem dX7_takeDraft_1 : decode cX7_takeDraft 1 = .ok (.getfield 29, 3) := by decide +kernel
theorem dX7_takeDraft_4 : decode cX7_takeDraft 4 = .ok (.aload_n 0, 1) := by decide +kernel
theorem dX7_takeDraft_5 : decode cX7_takeDraft 5 = .ok (.getfield 10, 3) := by decide +kernel
theorem dX7_takeDraft_8 : decode cX7_takeDraft 8 = .ok (.aload_n 0, 1) := by decide +kernel
theorem dX7_takeDraft_9 : decode cX7_takeDraft 9 = .ok (.getfield 22, 3) := by decide +kernel
theorem dX7_takeDraft_12 : decode cX7_takeDraft 12 = .ok (.invokevirtual 164, 3) := by decide +kernel
theorem dX7_takeDraft_15 : decode cX7_takeDraft 15 = .ok (.aload_n 0, 1) := by decide +kernel
theorem dX7_takeDraft_16 : decode cX7_takeDraft 16 = .ok (.getfield 10, 3) := by decide +kernel
theorem dX7_takeDraft_19 : decode cX7_takeDraft 19 = .ok (.aload_n 0, 1) := by decide +kernel
theorem dX7_takeDraft_20 : decode cX7_takeDraft 20 = .ok (.getfield 16, 3) := by decide +kernel
theorem dX7_takeDraft_23 : decode cX7_takeDraft 23 = .ok (.invokevirtual 88, 3) := by decide +kernel
theorem dX7_takeDraft_26 : decode cX7_takeDraft 26 = .ok (.iload_n 1, 1) := by decide +kernel
theorem dX7_takeDraft_27 : decode cX7_takeDraft 27 = .ok (.ireturn, 1) := by decide +kernel
set_option maxRecDepth 20000 in
theorem ggX7_takeDraftIfItFits_X1_fits : GoodIn wsX7_takeDraftIfItFits wsX1_fits := goodIn_r _ [7, 8, 9, 10, 11, 12, 13, 14, 15, 16, 17, 18, 75, 76, 77] (by decide +kernel) (by decide +kernel)
set_option maxRecDepth 20000 in
theorem gX7_takeDraftIfItFits_X1_fits : GoodIn wsX7_takeDraftIfItFits (wsV RX7 292 RX1 yX1_fits wsX1_fits) := goodIn_app (goodIn_of _ (by decide +kernel)) ggX7_takeDraftIfItFits_X1_fits
set_option maxRecDepth 20000 in
theorem ggX7_takeDraftIfItFits_X7_takeDraft : GoodIn wsX7_takeDraftIfItFits wsX7_takeDraft := goodIn_r _ [22, 23, 24, 25, 1, 26, 27, 28, 29, 30, 31, 32, 33, 34, 35, 36, 37, 38, 39, 40, 41, 42, 43, 44, 45, 46, 47, 48, 49, 50, 6, 51, 8, 9, 52, 53, 54, 13, 55, 15, 56, 62, 63, 64, 65, 66, 67, 68, 69, 70, 71, 72, 73, 74, 78, 79, 80, 75, 76, 77, 81, 82, 83] (by decide +kernel) (by decide +kernel)
set_option maxRecDepth 20000 in
theorem gX7_takeDraftIfItFits_X7_takeDraft : GoodIn wsX7_takeDraftIfItFits (wsV RX7 101 RX7 yX7_takeDraft wsX7_takeDraft) := goodIn_app (goodIn_of _ (by decide +kernel)) ggX7_takeDraftIfItFits_X7_takeDraft
set_option maxRecDepth 20000 in
theorem ggX7_takeDraftIfItFits_X7_finding : GoodIn wsX7_takeDraftIfItFits wsX7_finding := goodIn_r _ [60, 61, 62, 63, 64, 65, 66, 67, 68, 69, 70, 71, 72, 73, 74] (by decide +kernel) (by decide +kernel)
set_option maxRecDepth 20000 in
theorem gX7_takeDraftIfItFits_X7_finding : GoodIn wsX7_takeDraftIfItFits (wsV RX7 84 RX7 yX7_finding wsX7_finding) := goodIn_app (goodIn_of _ (by decide +kernel)) ggX7_takeDraftIfItFits_X7_finding
theorem dX7_takeDraftIfItFits_0 : decode cX7_takeDraftIfItFits 0 = .ok (.aload_n 0, 1) := by decide +kernel
theorem dX7_takeDraftIfItFits_1 : decode cX7_takeDraftIfItFits 1 = .ok (.getfield 16, 3) := by decide +kernel
theorem dX7_takeDraftIfItFits_4 : decode cX7_takeDraftIfItFits 4 = .ok (.invokevirtual 292, 3) := by decide +kernel
theorem dX7_takeDraftIfItFits_7 : decode cX7_takeDraftIfItFits 7 = .ok (.ifCond .eq 11, 3) := by decide +kernel
theorem dX7_takeDraftIfItFits_10 : decode cX7_takeDraftIfItFits 10 = .ok (.aload_n 0, 1) := by decide +kernel
theorem dX7_takeDraftIfItFits_11 : decode cX7_takeDraftIfItFits 11 = .ok (.iconst 1, 1) := by decide +kernel
theorem dX7_takeDraftIfItFits_12 : decode cX7_takeDraftIfItFits 12 = .ok (.invokevirtual 101, 3) := by decide +kernel
theorem dX7_takeDraftIfItFits_15 : decode cX7_takeDraftIfItFits 15 = .ok (.goto 9, 3) := by decide +kernel
theorem dX7_takeDraftIfItFits_18 : decode cX7_takeDraftIfItFits 18 = .ok (.aload_n 0, 1) := by decide +kernel
theorem dX7_takeDraftIfItFits_19 : decode cX7_takeDraftIfItFits 19 = .ok (.ldc 159, 2) := by decide +kernel
theorem dX7_takeDraftIfItFits_21 : decode cX7_takeDraftIfItFits 21 = .ok (.invokevirtual 84, 3) := by decide +kernel
theorem dX7_takeDraftIfItFits_24 : decode cX7_takeDraftIfItFits 24 = .ok (.ireturn, 1) := by decide +kernel
set_option maxRecDepth 20000 in
theorem ggX7_refusalOfPiece_X0_stepX : GoodIn wsX7_refusalOfPiece wsX0_stepX := goodIn_r _ [9, 10, 29, 30, 31] (by decide +kernel) (by decide +kernel)
set_option maxRecDepth 20000 in
theorem gX7_refusalOfPiece_X0_stepX : GoodIn wsX7_refusalOfPiece (wsV RX7 302 RX0 yX0_stepX wsX0_stepX) := goodIn_app (goodIn_of _ (by decide +kernel)) ggX7_refusalOfPiece_X0_stepX
set_option maxRecDepth 20000 in
theorem ggX7_refusalOfPiece_X0_stepY : GoodIn wsX7_refusalOfPiece wsX0_stepY := goodIn_r _ [14, 15, 29, 30, 31] (by decide +kernel) (by decide +kernel)
set_option maxRecDepth 20000 in
theorem gX7_refusalOfPiece_X0_stepY : GoodIn wsX7_refusalOfPiece (wsV RX7 305 RX0 yX0_stepY wsX0_stepY) := goodIn_app (goodIn_of _ (by decide +kernel)) ggX7_refusalOfPiece_X0_stepY
theorem dX7_refusalOfPiece_0 : decode cX7_refusalOfPiece 0 = .ok (.iload_n 1, 1) := by decide +kernel
theorem dX7_refusalOfPiece_1 : decode cX7_refusalOfPiece 1 = .ok (.ifCond .lt 14, 3) := by decide +kernel
theorem dX7_refusalOfPiece_4 : decode cX7_refusalOfPiece 4 = .ok (.iload_n 1, 1) := by decide +kernel
theorem dX7_refusalOfPiece_5 : decode cX7_refusalOfPiece 5 = .ok (.aload_n 0, 1) := by decide +kernel
theorem dX7_refusalOfPiece_6 : decode cX7_refusalOfPiece 6 = .ok (.getfield 22, 3) := by decide +kernel
theorem dX7_refusalOfPiece_9 : decode cX7_refusalOfPiece 9 = .ok (.getfield 160, 3) := by decide +kernel
theorem dX7_refusalOfPiece_12 : decode cX7_refusalOfPiece 12 = .ok (.if_icmp .lt 6, 3) := by decide +kernel
theorem dX7_refusalOfPiece_15 : decode cX7_refusalOfPiece 15 = .ok (.ldc 83, 2) := by decide +kernel
theorem dX7_refusalOfPiece_17 : decode cX7_refusalOfPiece 17 = .ok (.ireturn, 1) := by decide +kernel
theorem dX7_refusalOfPiece_18 : decode cX7_refusalOfPiece 18 = .ok (.aload_n 0, 1) := by decide +kernel
theorem dX7_refusalOfPiece_19 : decode cX7_refusalOfPiece 19 = .ok (.getfield 22, 3) := by decide +kernel
theorem dX7_refusalOfPiece_22 : decode cX7_refusalOfPiece 22 = .ok (.iload_n 1, 1) := by decide +kernel
theorem dX7_refusalOfPiece_23 : decode cX7_refusalOfPiece 23 = .ok (.invokevirtual 302, 3) := by decide +kernel
theorem dX7_refusalOfPiece_26 : decode cX7_refusalOfPiece 26 = .ok (.ifCond .ne 19, 3) := by decide +kernel
theorem dX7_refusalOfPiece_29 : decode cX7_refusalOfPiece 29 = .ok (.aload_n 0, 1) := by decide +kernel
theorem dX7_refusalOfPiece_30 : decode cX7_refusalOfPiece 30 = .ok (.getfield 22, 3) := by decide +kernel
theorem dX7_refusalOfPiece_33 : decode cX7_refusalOfPiece 33 = .ok (.iload_n 1, 1) := by decide +kernel
theorem dX7_refusalOfPiece_34 : decode cX7_refusalOfPiece 34 = .ok (.invokevirtual 305, 3) := by decide +kernel
theorem dX7_refusalOfPiece_37 : decode cX7_refusalOfPiece 37 = .ok (.ifCond .ne 8, 3) := by decide +kernel
theorem dX7_refusalOfPiece_40 : decode cX7_refusalOfPiece 40 = .ok (.ldc 159, 2) := by decide +kernel
theorem dX7_refusalOfPiece_42 : decode cX7_refusalOfPiece 42 = .ok (.goto 4, 3) := by decide +kernel
theorem dX7_refusalOfPiece_45 : decode cX7_refusalOfPiece 45 = .ok (.iconst 0, 1) := by decide +kernel
theorem dX7_refusalOfPiece_46 : decode cX7_refusalOfPiece 46 = .ok (.ireturn, 1) := by decide +kernel
set_option maxRecDepth 20000 in
theorem ggX7_followSpeeds_X4_follow : GoodIn wsX7_followSpeeds wsX4_follow := goodIn_r _ [11, 12, 13, 14, 15, 16, 17, 18, 19, 20, 21, 22, 23, 24, 25, 26, 27, 28, 29, 30, 31, 32, 33, 34, 35, 36, 37, 38, 39, 40, 41, 42, 43, 44, 45, 46, 62, 63, 64, 65, 66, 67, 68] (by decide +kernel) (by decide +kernel)
set_option maxRecDepth 20000 in
theorem gX7_followSpeeds_X4_follow : GoodIn wsX7_followSpeeds (wsV RX7 308 RX4 yX4_follow wsX4_follow) := goodIn_app (goodIn_of _ (by decide +kernel)) ggX7_followSpeeds_X4_follow
theorem dX7_followSpeeds_0 : decode cX7_followSpeeds 0 = .ok (.aload_n 0, 1) := by decide +kernel
theorem dX7_followSpeeds_1 : decode cX7_followSpeeds 1 = .ok (.getfield 51, 3) := by decide +kernel
theorem dX7_followSpeeds_4 : decode cX7_followSpeeds 4 = .ok (.aload_n 0, 1) := by decide +kernel
theorem dX7_followSpeeds_5 : decode cX7_followSpeeds 5 = .ok (.getfield 10, 3) := by decide +kernel
theorem dX7_followSpeeds_8 : decode cX7_followSpeeds 8 = .ok (.getfield 117, 3) := by decide +kernel
theorem dX7_followSpeeds_11 : decode cX7_followSpeeds 11 = .ok (.aload_n 0, 1) := by decide +kernel
theorem dX7_followSpeeds_12 : decode cX7_followSpeeds 12 = .ok (.getfield 22, 3) := by decide +kernel
theorem dX7_followSpeeds_15 : decode cX7_followSpeeds 15 = .ok (.iload_n 1, 1) := by decide +kernel
theorem dX7_followSpeeds_16 : decode cX7_followSpeeds 16 = .ok (.invokevirtual 308, 3) := by decide +kernel
theorem dX7_followSpeeds_19 : decode cX7_followSpeeds 19 = .ok (.aload_n 0, 1) := by decide +kernel
theorem dX7_followSpeeds_20 : decode cX7_followSpeeds 20 = .ok (.getfield 55, 3) := by decide +kernel
theorem dX7_followSpeeds_23 : decode cX7_followSpeeds 23 = .ok (.aload_n 0, 1) := by decide +kernel
theorem dX7_followSpeeds_24 : decode cX7_followSpeeds 24 = .ok (.getfield 10, 3) := by decide +kernel
theorem dX7_followSpeeds_27 : decode cX7_followSpeeds 27 = .ok (.getfield 125, 3) := by decide +kernel
theorem dX7_followSpeeds_30 : decode cX7_followSpeeds 30 = .ok (.aload_n 0, 1) := by decide +kernel
theorem dX7_followSpeeds_31 : decode cX7_followSpeeds 31 = .ok (.getfield 22, 3) := by decide +kernel
theorem dX7_followSpeeds_34 : decode cX7_followSpeeds 34 = .ok (.iload_n 1, 1) := by decide +kernel
theorem dX7_followSpeeds_35 : decode cX7_followSpeeds 35 = .ok (.invokevirtual 308, 3) := by decide +kernel
theorem dX7_followSpeeds_38 : decode cX7_followSpeeds 38 = .ok (.return_, 1) := by decide +kernel
set_option maxRecDepth 20000 in
theorem ggX7_followAcross_X7_followSpeeds : GoodIn wsX7_followAcross wsX7_followSpeeds := goodIn_r _ [9, 4, 10, 11, 2, 3, 12, 13, 14, 15, 16, 17, 18, 19, 20, 21, 22, 23, 24, 25, 26, 27, 28, 29, 30, 31, 32, 33, 34, 35, 36, 37, 38, 39, 40, 41, 42, 43, 44, 45, 46, 47, 48, 49, 50, 51, 52, 59, 60, 61, 62, 63, 64, 65, 66, 67, 68, 69, 70, 71, 72, 73, 74, 75, 76, 77, 78, 79, 80] (by decide +kernel) (by decide +kernel)
set_option maxRecDepth 20000 in
theorem gX7_followAcross_X7_followSpeeds : GoodIn wsX7_followAcross (wsV RX7 199 RX7 yX7_followSpeeds wsX7_followSpeeds) := goodIn_app (goodIn_of _ (by decide +kernel)) ggX7_followAcross_X7_followSpeeds
set_option maxRecDepth 20000 in
theorem ggX7_followAcross_X0_stepX : GoodIn wsX7_followAcross wsX0_stepX := goodIn_r _ [27, 28, 74, 75, 76] (by decide +kernel) (by decide +kernel)
set_option maxRecDepth 20000 in
theorem gX7_followAcross_X0_stepX : GoodIn wsX7_followAcross (wsV RX7 302 RX0 yX0_stepX wsX0_stepX) := goodIn_app (goodIn_of _ (by decide +kernel)) ggX7_followAcross_X0_stepX
set_option maxRecDepth 20000 in
theorem ggX7_followAcross_X0_stepY : GoodIn wsX7_followAcross wsX0_stepY := goodIn_r _ [32, 33, 74, 75, 76] (by decide +kernel) (by decide +kernel)
set_option maxRecDepth 20000 in
theorem gX7_followAcross_X0_stepY : GoodIn wsX7_followAcross (wsV RX7 305 RX0 yX0_stepY wsX0_stepY) := goodIn_app (goodIn_of _ (by decide +kernel)) ggX7_followAcross_X0_stepY
set_option maxRecDepth 20000 in
theorem ggX7_followAcross_X4_combine : GoodIn wsX7_followAcross wsX4_combine := goodIn_r _ [58, 20, 21, 22, 77, 78, 79] (by decide +kernel) (by decide +kernel)
set_option maxRecDepth 20000 in
theorem gX7_followAcross_X4_combine : GoodIn wsX7_followAcross (wsV RX7 312 RX4 yX4_combine wsX4_combine) := goodIn_app (goodIn_of _ (by decide +kernel)) ggX7_followAcross_X4_combine
theorem dX7_followAcross_0 : decode cX7_followAcross 0 = .ok (.aload_n 0, 1) := by decide +kernel
theorem dX7_followAcross_1 : decode cX7_followAcross 1 = .ok (.iload_n 1, 1) := by decide +kernel
theorem dX7_followAcross_2 : decode cX7_followAcross 2 = .ok (.invokevirtual 199, 3) := by decide +kernel
theorem dX7_followAcross_5 : decode cX7_followAcross 5 = .ok (.aload_n 0, 1) := by decide +kernel
theorem dX7_followAcross_6 : decode cX7_followAcross 6 = .ok (.getfield 58, 3) := by decide +kernel
theorem dX7_followAcross_9 : decode cX7_followAcross 9 = .ok (.aload_n 0, 1) := by decide +kernel
theorem dX7_followAcross_10 : decode cX7_followAcross 10 = .ok (.getfield 22, 3) := by decide +kernel
theorem dX7_followAcross_13 : decode cX7_followAcross 13 = .ok (.iload_n 1, 1) := by decide +kernel
theorem dX7_followAcross_14 : decode cX7_followAcross 14 = .ok (.invokevirtual 302, 3) := by decide +kernel
theorem dX7_followAcross_17 : decode cX7_followAcross 17 = .ok (.i2l, 1) := by decide +kernel
theorem dX7_followAcross_18 : decode cX7_followAcross 18 = .ok (.aload_n 0, 1) := by decide +kernel
theorem dX7_followAcross_19 : decode cX7_followAcross 19 = .ok (.getfield 55, 3) := by decide +kernel
theorem dX7_followAcross_22 : decode cX7_followAcross 22 = .ok (.aload_n 0, 1) := by decide +kernel
theorem dX7_followAcross_23 : decode cX7_followAcross 23 = .ok (.getfield 22, 3) := by decide +kernel
theorem dX7_followAcross_26 : decode cX7_followAcross 26 = .ok (.iload_n 1, 1) := by decide +kernel
theorem dX7_followAcross_27 : decode cX7_followAcross 27 = .ok (.invokevirtual 305, 3) := by decide +kernel
theorem dX7_followAcross_30 : decode cX7_followAcross 30 = .ok (.ineg, 1) := by decide +kernel
theorem dX7_followAcross_31 : decode cX7_followAcross 31 = .ok (.i2l, 1) := by decide +kernel
theorem dX7_followAcross_32 : decode cX7_followAcross 32 = .ok (.aload_n 0, 1) := by decide +kernel
theorem dX7_followAcross_33 : decode cX7_followAcross 33 = .ok (.getfield 51, 3) := by decide +kernel
theorem dX7_followAcross_36 : decode cX7_followAcross 36 = .ok (.invokevirtual 312, 3) := by decide +kernel
theorem dX7_followAcross_39 : decode cX7_followAcross 39 = .ok (.return_, 1) := by decide +kernel
set_option maxRecDepth 20000 in
theorem ggX7_signAcross_X7_followAcross : GoodIn wsX7_signAcross wsX7_followAcross := goodIn_r _ [7, 1, 8, 9, 10, 11, 12, 13, 6, 14, 15, 16, 17, 18, 19, 20, 21, 22, 23, 24, 25, 26, 27, 28, 29, 30, 31, 32, 33, 34, 35, 36, 37, 38, 39, 40, 41, 42, 43, 44, 45, 46, 47, 48, 49, 50, 51, 52, 53, 54, 55, 56, 57, 58, 59, 60, 61, 62, 63, 108, 109, 110, 111, 112, 113, 114, 115, 116, 117, 118, 119, 120, 124, 125, 126, 127, 128, 121, 122, 123, 129] (by decide +kernel) (by decide +kernel)
set_option maxRecDepth 20000 in
theorem gX7_signAcross_X7_followAcross : GoodIn wsX7_signAcross (wsV RX7 192 RX7 yX7_followAcross wsX7_followAcross) := goodIn_app (goodIn_of _ (by decide +kernel)) ggX7_signAcross_X7_followAcross
set_option maxRecDepth 20000 in
theorem ggX7_signAcross_X4_zerosOnPiece : GoodIn wsX7_signAcross wsX4_zerosOnPiece := goodIn_r _ [67, 68, 69, 70, 21, 71, 25, 26, 27, 72, 73, 74, 75, 76, 77, 78, 79, 80, 81, 82, 83, 84, 85, 86, 87, 88, 89, 90, 91, 92, 93, 94, 95, 96, 97, 98, 99, 100, 101, 102, 103, 104, 105, 106, 121, 122, 123] (by decide +kernel) (by decide +kernel)
set_option maxRecDepth 20000 in
theorem gX7_signAcross_X4_zerosOnPiece : GoodIn wsX7_signAcross (wsV RX7 196 RX4 yX4_zerosOnPiece wsX4_zerosOnPiece) := goodIn_app (goodIn_of _ (by decide +kernel)) ggX7_signAcross_X4_zerosOnPiece
set_option maxRecDepth 20000 in
theorem ggX7_signAcross_J13_signum_95d88 : GoodIn wsX7_signAcross wsJ13_signum_95d88 := goodIn_r _ [97] (by decide +kernel) (by decide +kernel)
set_option maxRecDepth 20000 in
theorem gX7_signAcross_J13_signum_95d88 : GoodIn wsX7_signAcross (va_wsS RX7 320 yJ13_signum_95d88 wsJ13_signum_95d88) := goodIn_app (goodIn_of _ (by decide +kernel)) ggX7_signAcross_J13_signum_95d88
theorem dX7_signAcross_0 : decode cX7_signAcross 0 = .ok (.aload_n 0, 1) := by decide +kernel
theorem dX7_signAcross_1 : decode cX7_signAcross 1 = .ok (.iload_n 1, 1) := by decide +kernel
theorem dX7_signAcross_2 : decode cX7_signAcross 2 = .ok (.invokevirtual 192, 3) := by decide +kernel
theorem dX7_signAcross_5 : decode cX7_signAcross 5 = .ok (.aload_n 0, 1) := by decide +kernel
theorem dX7_signAcross_6 : decode cX7_signAcross 6 = .ok (.getfield 58, 3) := by decide +kernel
theorem dX7_signAcross_9 : decode cX7_signAcross 9 = .ok (.invokevirtual 196, 3) := by decide +kernel
theorem dX7_signAcross_12 : decode cX7_signAcross 12 = .ok (.ifCond .le 7, 3) := by decide +kernel
theorem dX7_signAcross_15 : decode cX7_signAcross 15 = .ok (.iconst 0, 1) := by decide +kernel
theorem dX7_signAcross_16 : decode cX7_signAcross 16 = .ok (.goto 13, 3) := by decide +kernel
theorem dX7_signAcross_19 : decode cX7_signAcross 19 = .ok (.aload_n 0, 1) := by decide +kernel
theorem dX7_signAcross_20 : decode cX7_signAcross 20 = .ok (.getfield 58, 3) := by decide +kernel
theorem dX7_signAcross_23 : decode cX7_signAcross 23 = .ok (.getfield 316, 3) := by decide +kernel
theorem dX7_signAcross_26 : decode cX7_signAcross 26 = .ok (.invokestatic 320, 3) := by decide +kernel
theorem dX7_signAcross_29 : decode cX7_signAcross 29 = .ok (.ireturn, 1) := by decide +kernel
theorem dX7_clearChange_0 : decode cX7_clearChange 0 = .ok (.iconst 0, 1) := by decide +kernel
theorem dX7_clearChange_1 : decode cX7_clearChange 1 = .ok (.istore_n 1, 1) := by decide +kernel
theorem dX7_clearChange_2 : decode cX7_clearChange 2 = .ok (.iload_n 1, 1) := by decide +kernel
theorem dX7_clearChange_3 : decode cX7_clearChange 3 = .ok (.bipush 10, 2) := by decide +kernel
theorem dX7_clearChange_5 : decode cX7_clearChange 5 = .ok (.if_icmp .ge 16, 3) := by decide +kernel
theorem dX7_clearChange_8 : decode cX7_clearChange 8 = .ok (.aload_n 0, 1) := by decide +kernel
theorem dX7_clearChange_9 : decode cX7_clearChange 9 = .ok (.getfield 61, 3) := by decide +kernel
theorem dX7_clearChange_12 : decode cX7_clearChange 12 = .ok (.iload_n 1, 1) := by decide +kernel
theorem dX7_clearChange_13 : decode cX7_clearChange 13 = .ok (.iconst 0, 1) := by decide +kernel
theorem dX7_clearChange_14 : decode cX7_clearChange 14 = .ok (.iastore, 1) := by decide +kernel
theorem dX7_clearChange_15 : decode cX7_clearChange 15 = .ok (.iinc 1 1, 3) := by decide +kernel
theorem dX7_clearChange_18 : decode cX7_clearChange 18 = .ok (.goto (-16), 3) := by decide +kernel
theorem dX7_clearChange_21 : decode cX7_clearChange 21 = .ok (.return_, 1) := by decide +kernel
theorem dX7_addChange_0 : decode cX7_addChange 0 = .ok (.iconst 0, 1) := by decide +kernel
theorem dX7_addChange_1 : decode cX7_addChange 1 = .ok (.istore 5, 2) := by decide +kernel
theorem dX7_addChange_3 : decode cX7_addChange 3 = .ok (.iload 5, 2) := by decide +kernel
theorem dX7_addChange_5 : decode cX7_addChange 5 = .ok (.bipush 6, 2) := by decide +kernel
theorem dX7_addChange_7 : decode cX7_addChange 7 = .ok (.if_icmp .ge 69, 3) := by decide +kernel
theorem dX7_addChange_10 : decode cX7_addChange 10 = .ok (.aload_n 1, 1) := by decide +kernel
theorem dX7_addChange_11 : decode cX7_addChange 11 = .ok (.getfield 96, 3) := by decide +kernel
theorem dX7_addChange_14 : decode cX7_addChange 14 = .ok (.iload 5, 2) := by decide +kernel
theorem dX7_addChange_16 : decode cX7_addChange 16 = .ok (.iaload, 1) := by decide +kernel
theorem dX7_addChange_17 : decode cX7_addChange 17 = .ok (.istore 6, 2) := by decide +kernel
theorem dX7_addChange_19 : decode cX7_addChange 19 = .ok (.aload_n 0, 1) := by decide +kernel
theorem dX7_addChange_20 : decode cX7_addChange 20 = .ok (.getfield 61, 3) := by decide +kernel
theorem dX7_addChange_23 : decode cX7_addChange 23 = .ok (.iload 5, 2) := by decide +kernel
theorem dX7_addChange_25 : decode cX7_addChange 25 = .ok (.dup2, 1) := by decide +kernel
theorem dX7_addChange_26 : decode cX7_addChange 26 = .ok (.iaload, 1) := by decide +kernel
theorem dX7_addChange_27 : decode cX7_addChange 27 = .ok (.iload_n 2, 1) := by decide +kernel
theorem dX7_addChange_28 : decode cX7_addChange 28 = .ok (.iload 6, 2) := by decide +kernel
theorem dX7_addChange_30 : decode cX7_addChange 30 = .ok (.imul, 1) := by decide +kernel
theorem dX7_addChange_31 : decode cX7_addChange 31 = .ok (.iadd, 1) := by decide +kernel
theorem dX7_addChange_32 : decode cX7_addChange 32 = .ok (.iastore, 1) := by decide +kernel
theorem dX7_addChange_33 : decode cX7_addChange 33 = .ok (.aload_n 0, 1) := by decide +kernel
theorem dX7_addChange_34 : decode cX7_addChange 34 = .ok (.getfield 61, 3) := by decide +kernel
theorem dX7_addChange_37 : decode cX7_addChange 37 = .ok (.getstatic 326, 3) := by decide +kernel
theorem dX7_addChange_40 : decode cX7_addChange 40 = .ok (.iload 5, 2) := by decide +kernel
theorem dX7_addChange_42 : decode cX7_addChange 42 = .ok (.iaload, 1) := by decide +kernel
theorem dX7_addChange_43 : decode cX7_addChange 43 = .ok (.dup2, 1) := by decide +kernel
theorem dX7_addChange_44 : decode cX7_addChange 44 = .ok (.iaload, 1) := by decide +kernel
theorem dX7_addChange_45 : decode cX7_addChange 45 = .ok (.iload_n 3, 1) := by decide +kernel
theorem dX7_addChange_46 : decode cX7_addChange 46 = .ok (.iload 6, 2) := by decide +kernel
theorem dX7_addChange_48 : decode cX7_addChange 48 = .ok (.imul, 1) := by decide +kernel
theorem dX7_addChange_49 : decode cX7_addChange 49 = .ok (.iadd, 1) := by decide +kernel
theorem dX7_addChange_50 : decode cX7_addChange 50 = .ok (.iastore, 1) := by decide +kernel
theorem dX7_addChange_51 : decode cX7_addChange 51 = .ok (.aload_n 0, 1) := by decide +kernel
theorem dX7_addChange_52 : decode cX7_addChange 52 = .ok (.getfield 61, 3) := by decide +kernel
theorem dX7_addChange_55 : decode cX7_addChange 55 = .ok (.getstatic 329, 3) := by decide +kernel
theorem dX7_addChange_58 : decode cX7_addChange 58 = .ok (.iload 5, 2) := by decide +kernel
theorem dX7_addChange_60 : decode cX7_addChange 60 = .ok (.iaload, 1) := by decide +kernel
theorem dX7_addChange_61 : decode cX7_addChange 61 = .ok (.dup2, 1) := by decide +kernel
theorem dX7_addChange_62 : decode cX7_addChange 62 = .ok (.iaload, 1) := by decide +kernel
theorem dX7_addChange_63 : decode cX7_addChange 63 = .ok (.iload 4, 2) := by decide +kernel
theorem dX7_addChange_65 : decode cX7_addChange 65 = .ok (.iload 6, 2) := by decide +kernel
theorem dX7_addChange_67 : decode cX7_addChange 67 = .ok (.imul, 1) := by decide +kernel
theorem dX7_addChange_68 : decode cX7_addChange 68 = .ok (.iadd, 1) := by decide +kernel
theorem dX7_addChange_69 : decode cX7_addChange 69 = .ok (.iastore, 1) := by decide +kernel
theorem dX7_addChange_70 : decode cX7_addChange 70 = .ok (.iinc 5 1, 3) := by decide +kernel
theorem dX7_addChange_73 : decode cX7_addChange 73 = .ok (.goto (-70), 3) := by decide +kernel
theorem dX7_addChange_76 : decode cX7_addChange 76 = .ok (.return_, 1) := by decide +kernel
theorem dX7_countFilledSlots_0 : decode cX7_countFilledSlots 0 = .ok (.iconst 0, 1) := by decide +kernel
theorem dX7_countFilledSlots_1 : decode cX7_countFilledSlots 1 = .ok (.istore_n 1, 1) := by decide +kernel
theorem dX7_countFilledSlots_2 : decode cX7_countFilledSlots 2 = .ok (.iconst 0, 1) := by decide +kernel
theorem dX7_countFilledSlots_3 : decode cX7_countFilledSlots 3 = .ok (.istore_n 2, 1) := by decide +kernel
theorem dX7_countFilledSlots_4 : decode cX7_countFilledSlots 4 = .ok (.iload_n 2, 1) := by decide +kernel
theorem dX7_countFilledSlots_5 : decode cX7_countFilledSlots 5 = .ok (.iconst 4, 1) := by decide +kernel
theorem dX7_countFilledSlots_6 : decode cX7_countFilledSlots 6 = .ok (.if_icmp .ge 22, 3) := by decide +kernel
theorem dX7_countFilledSlots_9 : decode cX7_countFilledSlots 9 = .ok (.aload_n 0, 1) := by decide +kernel
theorem dX7_countFilledSlots_10 : decode cX7_countFilledSlots 10 = .ok (.getfield 37, 3) := by decide +kernel
theorem dX7_countFilledSlots_13 : decode cX7_countFilledSlots 13 = .ok (.iload_n 2, 1) := by decide +kernel
theorem dX7_countFilledSlots_14 : decode cX7_countFilledSlots 14 = .ok (.iaload, 1) := by decide +kernel
theorem dX7_countFilledSlots_15 : decode cX7_countFilledSlots 15 = .ok (.iconst (-1), 1) := by decide +kernel
theorem dX7_countFilledSlots_16 : decode cX7_countFilledSlots 16 = .ok (.if_icmp .eq 6, 3) := by decide +kernel
theorem dX7_countFilledSlots_19 : decode cX7_countFilledSlots 19 = .ok (.iinc 1 1, 3) := by decide +kernel
theorem dX7_countFilledSlots_22 : decode cX7_countFilledSlots 22 = .ok (.iinc 2 1, 3) := by decide +kernel
theorem dX7_countFilledSlots_25 : decode cX7_countFilledSlots 25 = .ok (.goto (-21), 3) := by decide +kernel
theorem dX7_countFilledSlots_28 : decode cX7_countFilledSlots 28 = .ok (.iload_n 1, 1) := by decide +kernel
theorem dX7_countFilledSlots_29 : decode cX7_countFilledSlots 29 = .ok (.ireturn, 1) := by decide +kernel
theorem dX7_linesOfCubic_0 : decode cX7_linesOfCubic 0 = .ok (.iload_n 0, 1) := by decide +kernel
theorem dX7_linesOfCubic_1 : decode cX7_linesOfCubic 1 = .ok (.ifCond .ne 17, 3) := by decide +kernel
theorem dX7_linesOfCubic_4 : decode cX7_linesOfCubic 4 = .ok (.iload_n 1, 1) := by decide +kernel
theorem dX7_linesOfCubic_5 : decode cX7_linesOfCubic 5 = .ok (.ifCond .ne 13, 3) := by decide +kernel
theorem dX7_linesOfCubic_8 : decode cX7_linesOfCubic 8 = .ok (.iload_n 2, 1) := by decide +kernel
theorem dX7_linesOfCubic_9 : decode cX7_linesOfCubic 9 = .ok (.ifCond .ne 9, 3) := by decide +kernel
theorem dX7_linesOfCubic_12 : decode cX7_linesOfCubic 12 = .ok (.iload_n 3, 1) := by decide +kernel
theorem dX7_linesOfCubic_13 : decode cX7_linesOfCubic 13 = .ok (.ifCond .ne 5, 3) := by decide +kernel
theorem dX7_linesOfCubic_16 : decode cX7_linesOfCubic 16 = .ok (.iconst 4, 1) := by decide +kernel
theorem dX7_linesOfCubic_17 : decode cX7_linesOfCubic 17 = .ok (.ireturn, 1) := by decide +kernel
theorem dX7_linesOfCubic_18 : decode cX7_linesOfCubic 18 = .ok (.iload_n 1, 1) := by decide +kernel
theorem dX7_linesOfCubic_19 : decode cX7_linesOfCubic 19 = .ok (.iload_n 1, 1) := by decide +kernel
theorem dX7_linesOfCubic_20 : decode cX7_linesOfCubic 20 = .ok (.imul, 1) := by decide +kernel
theorem dX7_linesOfCubic_21 : decode cX7_linesOfCubic 21 = .ok (.iload_n 2, 1) := by decide +kernel
theorem dX7_linesOfCubic_22 : decode cX7_linesOfCubic 22 = .ok (.imul, 1) := by decide +kernel
theorem dX7_linesOfCubic_23 : decode cX7_linesOfCubic 23 = .ok (.iload_n 2, 1) := by decide +kernel
theorem dX7_linesOfCubic_24 : decode cX7_linesOfCubic 24 = .ok (.imul, 1) := by decide +kernel
theorem dX7_linesOfCubic_25 : decode cX7_linesOfCubic 25 = .ok (.iconst 4, 1) := by decide +kernel
theorem dX7_linesOfCubic_26 : decode cX7_linesOfCubic 26 = .ok (.iload_n 0, 1) := by decide +kernel
theorem dX7_linesOfCubic_27 : decode cX7_linesOfCubic 27 = .ok (.imul, 1) := by decide +kernel
theorem dX7_linesOfCubic_28 : decode cX7_linesOfCubic 28 = .ok (.iload_n 2, 1) := by decide +kernel
theorem dX7_linesOfCubic_29 : decode cX7_linesOfCubic 29 = .ok (.imul, 1) := by decide +kernel
theorem dX7_linesOfCubic_30 : decode cX7_linesOfCubic 30 = .ok (.iload_n 2, 1) := by decide +kernel
theorem dX7_linesOfCubic_31 : decode cX7_linesOfCubic 31 = .ok (.imul, 1) := by decide +kernel
theorem dX7_linesOfCubic_32 : decode cX7_linesOfCubic 32 = .ok (.iload_n 2, 1) := by decide +kernel
theorem dX7_linesOfCubic_33 : decode cX7_linesOfCubic 33 = .ok (.imul, 1) := by decide +kernel
theorem dX7_linesOfCubic_34 : decode cX7_linesOfCubic 34 = .ok (.isub, 1) := by decide +kernel
theorem dX7_linesOfCubic_35 : decode cX7_linesOfCubic 35 = .ok (.iconst 4, 1) := by decide +kernel
theorem dX7_linesOfCubic_36 : decode cX7_linesOfCubic 36 = .ok (.iload_n 1, 1) := by decide +kernel
theorem dX7_linesOfCubic_37 : decode cX7_linesOfCubic 37 = .ok (.imul, 1) := by decide +kernel
theorem dX7_linesOfCubic_38 : decode cX7_linesOfCubic 38 = .ok (.iload_n 1, 1) := by decide +kernel
theorem dX7_linesOfCubic_39 : decode cX7_linesOfCubic 39 = .ok (.imul, 1) := by decide +kernel
theorem dX7_linesOfCubic_40 : decode cX7_linesOfCubic 40 = .ok (.iload_n 1, 1) := by decide +kernel
theorem dX7_linesOfCubic_41 : decode cX7_linesOfCubic 41 = .ok (.imul, 1) := by decide +kernel
theorem dX7_linesOfCubic_42 : decode cX7_linesOfCubic 42 = .ok (.iload_n 3, 1) := by decide +kernel
theorem dX7_linesOfCubic_43 : decode cX7_linesOfCubic 43 = .ok (.imul, 1) := by decide +kernel
theorem dX7_linesOfCubic_44 : decode cX7_linesOfCubic 44 = .ok (.isub, 1) := by decide +kernel
theorem dX7_linesOfCubic_45 : decode cX7_linesOfCubic 45 = .ok (.bipush 27, 2) := by decide +kernel
theorem dX7_linesOfCubic_47 : decode cX7_linesOfCubic 47 = .ok (.iload_n 0, 1) := by decide +kernel
theorem dX7_linesOfCubic_48 : decode cX7_linesOfCubic 48 = .ok (.imul, 1) := by decide +kernel
theorem dX7_linesOfCubic_49 : decode cX7_linesOfCubic 49 = .ok (.iload_n 0, 1) := by decide +kernel
theorem dX7_linesOfCubic_50 : decode cX7_linesOfCubic 50 = .ok (.imul, 1) := by decide +kernel
theorem dX7_linesOfCubic_51 : decode cX7_linesOfCubic 51 = .ok (.iload_n 3, 1) := by decide +kernel
theorem dX7_linesOfCubic_52 : decode cX7_linesOfCubic 52 = .ok (.imul, 1) := by decide +kernel
theorem dX7_linesOfCubic_53 : decode cX7_linesOfCubic 53 = .ok (.iload_n 3, 1) := by decide +kernel
theorem dX7_linesOfCubic_54 : decode cX7_linesOfCubic 54 = .ok (.imul, 1) := by decide +kernel
theorem dX7_linesOfCubic_55 : decode cX7_linesOfCubic 55 = .ok (.isub, 1) := by decide +kernel
theorem dX7_linesOfCubic_56 : decode cX7_linesOfCubic 56 = .ok (.bipush 18, 2) := by decide +kernel
theorem dX7_linesOfCubic_58 : decode cX7_linesOfCubic 58 = .ok (.iload_n 0, 1) := by decide +kernel
theorem dX7_linesOfCubic_59 : decode cX7_linesOfCubic 59 = .ok (.imul, 1) := by decide +kernel
theorem dX7_linesOfCubic_60 : decode cX7_linesOfCubic 60 = .ok (.iload_n 1, 1) := by decide +kernel
theorem dX7_linesOfCubic_61 : decode cX7_linesOfCubic 61 = .ok (.imul, 1) := by decide +kernel
theorem dX7_linesOfCubic_62 : decode cX7_linesOfCubic 62 = .ok (.iload_n 2, 1) := by decide +kernel
theorem dX7_linesOfCubic_63 : decode cX7_linesOfCubic 63 = .ok (.imul, 1) := by decide +kernel
theorem dX7_linesOfCubic_64 : decode cX7_linesOfCubic 64 = .ok (.iload_n 3, 1) := by decide +kernel
theorem dX7_linesOfCubic_65 : decode cX7_linesOfCubic 65 = .ok (.imul, 1) := by decide +kernel
theorem dX7_linesOfCubic_66 : decode cX7_linesOfCubic 66 = .ok (.iadd, 1) := by decide +kernel
theorem dX7_linesOfCubic_67 : decode cX7_linesOfCubic 67 = .ok (.istore 4, 2) := by decide +kernel
theorem dX7_linesOfCubic_69 : decode cX7_linesOfCubic 69 = .ok (.iload 4, 2) := by decide +kernel
theorem dX7_linesOfCubic_71 : decode cX7_linesOfCubic 71 = .ok (.ifCond .eq 14, 3) := by decide +kernel
theorem dX7_linesOfCubic_74 : decode cX7_linesOfCubic 74 = .ok (.iload 4, 2) := by decide +kernel
theorem dX7_linesOfCubic_76 : decode cX7_linesOfCubic 76 = .ok (.ifCond .le 7, 3) := by decide +kernel
theorem dX7_linesOfCubic_79 : decode cX7_linesOfCubic 79 = .ok (.iconst 3, 1) := by decide +kernel
theorem dX7_linesOfCubic_80 : decode cX7_linesOfCubic 80 = .ok (.goto 4, 3) := by decide +kernel
theorem dX7_linesOfCubic_83 : decode cX7_linesOfCubic 83 = .ok (.iconst 1, 1) := by decide +kernel
theorem dX7_linesOfCubic_84 : decode cX7_linesOfCubic 84 = .ok (.ireturn, 1) := by decide +kernel
theorem dX7_linesOfCubic_85 : decode cX7_linesOfCubic 85 = .ok (.iload_n 1, 1) := by decide +kernel
theorem dX7_linesOfCubic_86 : decode cX7_linesOfCubic 86 = .ok (.iload_n 1, 1) := by decide +kernel
theorem dX7_linesOfCubic_87 : decode cX7_linesOfCubic 87 = .ok (.imul, 1) := by decide +kernel
theorem dX7_linesOfCubic_88 : decode cX7_linesOfCubic 88 = .ok (.iconst 3, 1) := by decide +kernel
theorem dX7_linesOfCubic_89 : decode cX7_linesOfCubic 89 = .ok (.iload_n 0, 1) := by decide +kernel
theorem dX7_linesOfCubic_90 : decode cX7_linesOfCubic 90 = .ok (.imul, 1) := by decide +kernel
theorem dX7_linesOfCubic_91 : decode cX7_linesOfCubic 91 = .ok (.iload_n 2, 1) := by decide +kernel
theorem dX7_linesOfCubic_92 : decode cX7_linesOfCubic 92 = .ok (.imul, 1) := by decide +kernel
theorem dX7_linesOfCubic_93 : decode cX7_linesOfCubic 93 = .ok (.if_icmp .ne 30, 3) := by decide +kernel
theorem dX7_linesOfCubic_96 : decode cX7_linesOfCubic 96 = .ok (.iload_n 2, 1) := by decide +kernel
theorem dX7_linesOfCubic_97 : decode cX7_linesOfCubic 97 = .ok (.iload_n 2, 1) := by decide +kernel
theorem dX7_linesOfCubic_98 : decode cX7_linesOfCubic 98 = .ok (.imul, 1) := by decide +kernel
theorem dX7_linesOfCubic_99 : decode cX7_linesOfCubic 99 = .ok (.iconst 3, 1) := by decide +kernel
theorem dX7_linesOfCubic_100 : decode cX7_linesOfCubic 100 = .ok (.iload_n 1, 1) := by decide +kernel
theorem dX7_linesOfCubic_101 : decode cX7_linesOfCubic 101 = .ok (.imul, 1) := by decide +kernel
theorem dX7_linesOfCubic_102 : decode cX7_linesOfCubic 102 = .ok (.iload_n 3, 1) := by decide +kernel
theorem dX7_linesOfCubic_103 : decode cX7_linesOfCubic 103 = .ok (.imul, 1) := by decide +kernel
theorem dX7_linesOfCubic_104 : decode cX7_linesOfCubic 104 = .ok (.if_icmp .ne 19, 3) := by decide +kernel
theorem dX7_linesOfCubic_107 : decode cX7_linesOfCubic 107 = .ok (.iload_n 1, 1) := by decide +kernel
theorem dX7_linesOfCubic_108 : decode cX7_linesOfCubic 108 = .ok (.iload_n 2, 1) := by decide +kernel
theorem dX7_linesOfCubic_109 : decode cX7_linesOfCubic 109 = .ok (.imul, 1) := by decide +kernel
theorem dX7_linesOfCubic_110 : decode cX7_linesOfCubic 110 = .ok (.bipush 9, 2) := by decide +kernel
theorem dX7_linesOfCubic_112 : decode cX7_linesOfCubic 112 = .ok (.iload_n 0, 1) := by decide +kernel
theorem dX7_linesOfCubic_113 : decode cX7_linesOfCubic 113 = .ok (.imul, 1) := by decide +kernel
theorem dX7_linesOfCubic_114 : decode cX7_linesOfCubic 114 = .ok (.iload_n 3, 1) := by decide +kernel
theorem dX7_linesOfCubic_115 : decode cX7_linesOfCubic 115 = .ok (.imul, 1) := by decide +kernel
theorem dX7_linesOfCubic_116 : decode cX7_linesOfCubic 116 = .ok (.if_icmp .ne 7, 3) := by decide +kernel
theorem dX7_linesOfCubic_119 : decode cX7_linesOfCubic 119 = .ok (.iconst 1, 1) := by decide +kernel
theorem dX7_linesOfCubic_120 : decode cX7_linesOfCubic 120 = .ok (.goto 4, 3) := by decide +kernel
theorem dX7_linesOfCubic_123 : decode cX7_linesOfCubic 123 = .ok (.iconst 0, 1) := by decide +kernel
theorem dX7_linesOfCubic_124 : decode cX7_linesOfCubic 124 = .ok (.istore 5, 2) := by decide +kernel
theorem dX7_linesOfCubic_126 : decode cX7_linesOfCubic 126 = .ok (.iload 5, 2) := by decide +kernel
theorem dX7_linesOfCubic_128 : decode cX7_linesOfCubic 128 = .ok (.ifCond .eq 7, 3) := by decide +kernel
theorem dX7_linesOfCubic_131 : decode cX7_linesOfCubic 131 = .ok (.iconst 1, 1) := by decide +kernel
theorem dX7_linesOfCubic_132 : decode cX7_linesOfCubic 132 = .ok (.goto 4, 3) := by decide +kernel
theorem dX7_linesOfCubic_135 : decode cX7_linesOfCubic 135 = .ok (.iconst 2, 1) := by decide +kernel
theorem dX7_linesOfCubic_136 : decode cX7_linesOfCubic 136 = .ok (.ireturn, 1) := by decide +kernel
theorem dX7_isUnder_0 : decode cX7_isUnder 0 = .ok (.iload_n 0, 1) := by decide +kernel
theorem dX7_isUnder_1 : decode cX7_isUnder 1 = .ok (.istore_n 2, 1) := by decide +kernel
theorem dX7_isUnder_2 : decode cX7_isUnder 2 = .ok (.iconst 0, 1) := by decide +kernel
theorem dX7_isUnder_3 : decode cX7_isUnder 3 = .ok (.istore_n 3, 1) := by decide +kernel
theorem dX7_isUnder_4 : decode cX7_isUnder 4 = .ok (.iload_n 3, 1) := by decide +kernel
theorem dX7_isUnder_5 : decode cX7_isUnder 5 = .ok (.getstatic 332, 3) := by decide +kernel
theorem dX7_isUnder_8 : decode cX7_isUnder 8 = .ok (.arraylength, 1) := by decide +kernel
theorem dX7_isUnder_9 : decode cX7_isUnder 9 = .ok (.if_icmp .ge 34, 3) := by decide +kernel
theorem dX7_isUnder_12 : decode cX7_isUnder 12 = .ok (.iload_n 2, 1) := by decide +kernel
theorem dX7_isUnder_13 : decode cX7_isUnder 13 = .ok (.ifCond .lt 30, 3) := by decide +kernel
theorem dX7_isUnder_16 : decode cX7_isUnder 16 = .ok (.iload_n 2, 1) := by decide +kernel
theorem dX7_isUnder_17 : decode cX7_isUnder 17 = .ok (.getstatic 332, 3) := by decide +kernel
theorem dX7_isUnder_20 : decode cX7_isUnder 20 = .ok (.arraylength, 1) := by decide +kernel
theorem dX7_isUnder_21 : decode cX7_isUnder 21 = .ok (.if_icmp .ge 22, 3) := by decide +kernel
theorem dX7_isUnder_24 : decode cX7_isUnder 24 = .ok (.iload_n 2, 1) := by decide +kernel
theorem dX7_isUnder_25 : decode cX7_isUnder 25 = .ok (.iload_n 1, 1) := by decide +kernel
theorem dX7_isUnder_26 : decode cX7_isUnder 26 = .ok (.if_icmp .ne 5, 3) := by decide +kernel
theorem dX7_isUnder_29 : decode cX7_isUnder 29 = .ok (.iconst 1, 1) := by decide +kernel
theorem dX7_isUnder_30 : decode cX7_isUnder 30 = .ok (.ireturn, 1) := by decide +kernel
theorem dX7_isUnder_31 : decode cX7_isUnder 31 = .ok (.getstatic 332, 3) := by decide +kernel
theorem dX7_isUnder_34 : decode cX7_isUnder 34 = .ok (.iload_n 2, 1) := by decide +kernel
theorem dX7_isUnder_35 : decode cX7_isUnder 35 = .ok (.iaload, 1) := by decide +kernel
theorem dX7_isUnder_36 : decode cX7_isUnder 36 = .ok (.istore_n 2, 1) := by decide +kernel
theorem dX7_isUnder_37 : decode cX7_isUnder 37 = .ok (.iinc 3 1, 3) := by decide +kernel
theorem dX7_isUnder_40 : decode cX7_isUnder 40 = .ok (.goto (-36), 3) := by decide +kernel
theorem dX7_isUnder_43 : decode cX7_isUnder 43 = .ok (.iconst 0, 1) := by decide +kernel
theorem dX7_isUnder_44 : decode cX7_isUnder 44 = .ok (.ireturn, 1) := by decide +kernel

theorem dX7_oneIf_0 : decode cX7_oneIf 0 = .ok (.iload_n 0, 1) := by decide +kernel
theorem dX7_oneIf_1 : decode cX7_oneIf 1 = .ok (.ifCond .eq 7, 3) := by decide +kernel
theorem dX7_oneIf_4 : decode cX7_oneIf 4 = .ok (.iconst 1, 1) := by decide +kernel
theorem dX7_oneIf_5 : decode cX7_oneIf 5 = .ok (.goto 4, 3) := by decide +kernel
theorem dX7_oneIf_8 : decode cX7_oneIf 8 = .ok (.iconst 0, 1) := by decide +kernel
theorem dX7_oneIf_9 : decode cX7_oneIf 9 = .ok (.ireturn, 1) := by decide +kernel
theorem dX7_isWithin_0 : decode cX7_isWithin 0 = .ok (.iload_n 0, 1) := by decide +kernel
theorem dX7_isWithin_1 : decode cX7_isWithin 1 = .ok (.iload_n 1, 1) := by decide +kernel
theorem dX7_isWithin_2 : decode cX7_isWithin 2 = .ok (.ineg, 1) := by decide +kernel
theorem dX7_isWithin_3 : decode cX7_isWithin 3 = .ok (.if_icmp .lt 12, 3) := by decide +kernel
theorem dX7_isWithin_6 : decode cX7_isWithin 6 = .ok (.iload_n 0, 1) := by decide +kernel
theorem dX7_isWithin_7 : decode cX7_isWithin 7 = .ok (.iload_n 1, 1) := by decide +kernel
theorem dX7_isWithin_8 : decode cX7_isWithin 8 = .ok (.if_icmp .gt 7, 3) := by decide +kernel
theorem dX7_isWithin_11 : decode cX7_isWithin 11 = .ok (.iconst 1, 1) := by decide +kernel
theorem dX7_isWithin_12 : decode cX7_isWithin 12 = .ok (.goto 4, 3) := by decide +kernel
theorem dX7_isWithin_15 : decode cX7_isWithin 15 = .ok (.iconst 0, 1) := by decide +kernel
theorem dX7_isWithin_16 : decode cX7_isWithin 16 = .ok (.ireturn, 1) := by decide +kernel
set_option maxRecDepth 20000 in
theorem ggX7_isPlace_X7_isWithin : GoodIn wsX7_isPlace wsX7_isWithin := goodIn_r _ [4] (by decide +kernel) (by decide +kernel)
set_option maxRecDepth 20000 in
theorem gX7_isPlace_X7_isWithin : GoodIn wsX7_isPlace (va_wsS RX7 79 yX7_isWithin wsX7_isWithin) := goodIn_app (goodIn_of _ (by decide +kernel)) ggX7_isPlace_X7_isWithin
theorem dX7_isPlace_0 : decode cX7_isPlace 0 = .ok (.iload_n 0, 1) := by decide +kernel
theorem dX7_isPlace_1 : decode cX7_isPlace 1 = .ok (.bipush 6, 2) := by decide +kernel
theorem dX7_isPlace_3 : decode cX7_isPlace 3 = .ok (.invokestatic 79, 3) := by decide +kernel
theorem dX7_isPlace_6 : decode cX7_isPlace 6 = .ok (.ifCond .eq 16, 3) := by decide +kernel
theorem dX7_isPlace_9 : decode cX7_isPlace 9 = .ok (.iload_n 1, 1) := by decide +kernel
theorem dX7_isPlace_10 : decode cX7_isPlace 10 = .ok (.bipush 6, 2) := by decide +kernel
theorem dX7_isPlace_12 : decode cX7_isPlace 12 = .ok (.invokestatic 79, 3) := by decide +kernel
theorem dX7_isPlace_15 : decode cX7_isPlace 15 = .ok (.ifCond .eq 7, 3) := by decide +kernel
theorem dX7_isPlace_18 : decode cX7_isPlace 18 = .ok (.iconst 1, 1) := by decide +kernel
theorem dX7_isPlace_19 : decode cX7_isPlace 19 = .ok (.goto 4, 3) := by decide +kernel
theorem dX7_isPlace_22 : decode cX7_isPlace 22 = .ok (.iconst 0, 1) := by decide +kernel
theorem dX7_isPlace_23 : decode cX7_isPlace 23 = .ok (.ireturn, 1) := by decide +kernel
set_option maxRecDepth 20000 in
theorem ggX7_isSum_X7_isWithin : GoodIn wsX7_isSum wsX7_isWithin := goodIn_r _ [4] (by decide +kernel) (by decide +kernel)
set_option maxRecDepth 20000 in
theorem gX7_isSum_X7_isWithin : GoodIn wsX7_isSum (va_wsS RX7 79 yX7_isWithin wsX7_isWithin) := goodIn_app (goodIn_of _ (by decide +kernel)) ggX7_isSum_X7_isWithin
theorem dX7_isSum_0 : decode cX7_isSum 0 = .ok (.iload_n 0, 1) := by decide +kernel
theorem dX7_isSum_1 : decode cX7_isSum 1 = .ok (.bipush 9, 2) := by decide +kernel
theorem dX7_isSum_3 : decode cX7_isSum 3 = .ok (.invokestatic 79, 3) := by decide +kernel
theorem dX7_isSum_6 : decode cX7_isSum 6 = .ok (.ifCond .eq 44, 3) := by decide +kernel
theorem dX7_isSum_9 : decode cX7_isSum 9 = .ok (.iload_n 1, 1) := by decide +kernel
theorem dX7_isSum_10 : decode cX7_isSum 10 = .ok (.bipush 9, 2) := by decide +kernel
theorem dX7_isSum_12 : decode cX7_isSum 12 = .ok (.invokestatic 79, 3) := by decide +kernel
theorem dX7_isSum_15 : decode cX7_isSum 15 = .ok (.ifCond .eq 35, 3) := by decide +kernel
theorem dX7_isSum_18 : decode cX7_isSum 18 = .ok (.iload_n 2, 1) := by decide +kernel
theorem dX7_isSum_19 : decode cX7_isSum 19 = .ok (.bipush 9, 2) := by decide +kernel
theorem dX7_isSum_21 : decode cX7_isSum 21 = .ok (.invokestatic 79, 3) := by decide +kernel
theorem dX7_isSum_24 : decode cX7_isSum 24 = .ok (.ifCond .eq 26, 3) := by decide +kernel
theorem dX7_isSum_27 : decode cX7_isSum 27 = .ok (.iload_n 3, 1) := by decide +kernel
theorem dX7_isSum_28 : decode cX7_isSum 28 = .ok (.bipush 9, 2) := by decide +kernel
theorem dX7_isSum_30 : decode cX7_isSum 30 = .ok (.invokestatic 79, 3) := by decide +kernel
theorem dX7_isSum_33 : decode cX7_isSum 33 = .ok (.ifCond .eq 17, 3) := by decide +kernel
theorem dX7_isSum_36 : decode cX7_isSum 36 = .ok (.iload 4, 2) := by decide +kernel
theorem dX7_isSum_38 : decode cX7_isSum 38 = .ok (.bipush 9, 2) := by decide +kernel
theorem dX7_isSum_40 : decode cX7_isSum 40 = .ok (.invokestatic 79, 3) := by decide +kernel
theorem dX7_isSum_43 : decode cX7_isSum 43 = .ok (.ifCond .eq 7, 3) := by decide +kernel
theorem dX7_isSum_46 : decode cX7_isSum 46 = .ok (.iconst 1, 1) := by decide +kernel
theorem dX7_isSum_47 : decode cX7_isSum 47 = .ok (.goto 4, 3) := by decide +kernel
theorem dX7_isSum_50 : decode cX7_isSum 50 = .ok (.iconst 0, 1) := by decide +kernel
theorem dX7_isSum_51 : decode cX7_isSum 51 = .ok (.ireturn, 1) := by decide +kernel
theorem dX7_isNumberIndex_0 : decode cX7_isNumberIndex 0 = .ok (.iload_n 0, 1) := by decide +kernel
theorem dX7_isNumberIndex_1 : decode cX7_isNumberIndex 1 = .ok (.ifCond .lt 13, 3) := by decide +kernel
theorem dX7_isNumberIndex_4 : decode cX7_isNumberIndex 4 = .ok (.iload_n 0, 1) := by decide +kernel
theorem dX7_isNumberIndex_5 : decode cX7_isNumberIndex 5 = .ok (.bipush 6, 2) := by decide +kernel
theorem dX7_isNumberIndex_7 : decode cX7_isNumberIndex 7 = .ok (.if_icmp .ge 7, 3) := by decide +kernel
theorem dX7_isNumberIndex_10 : decode cX7_isNumberIndex 10 = .ok (.iconst 1, 1) := by decide +kernel
theorem dX7_isNumberIndex_11 : decode cX7_isNumberIndex 11 = .ok (.goto 4, 3) := by decide +kernel
theorem dX7_isNumberIndex_14 : decode cX7_isNumberIndex 14 = .ok (.iconst 0, 1) := by decide +kernel
theorem dX7_isNumberIndex_15 : decode cX7_isNumberIndex 15 = .ok (.ireturn, 1) := by decide +kernel
theorem dX7_isSlot_0 : decode cX7_isSlot 0 = .ok (.iload_n 0, 1) := by decide +kernel
theorem dX7_isSlot_1 : decode cX7_isSlot 1 = .ok (.ifCond .lt 12, 3) := by decide +kernel
theorem dX7_isSlot_4 : decode cX7_isSlot 4 = .ok (.iload_n 0, 1) := by decide +kernel
theorem dX7_isSlot_5 : decode cX7_isSlot 5 = .ok (.iconst 4, 1) := by decide +kernel
theorem dX7_isSlot_6 : decode cX7_isSlot 6 = .ok (.if_icmp .ge 7, 3) := by decide +kernel
theorem dX7_isSlot_9 : decode cX7_isSlot 9 = .ok (.iconst 1, 1) := by decide +kernel
theorem dX7_isSlot_10 : decode cX7_isSlot 10 = .ok (.goto 4, 3) := by decide +kernel
theorem dX7_isSlot_13 : decode cX7_isSlot 13 = .ok (.iconst 0, 1) := by decide +kernel
theorem dX7_isSlot_14 : decode cX7_isSlot 14 = .ok (.ireturn, 1) := by decide +kernel
theorem dX7_isSheet_0 : decode cX7_isSheet 0 = .ok (.iload_n 0, 1) := by decide +kernel
theorem dX7_isSheet_1 : decode cX7_isSheet 1 = .ok (.ifCond .lt 12, 3) := by decide +kernel
theorem dX7_isSheet_4 : decode cX7_isSheet 4 = .ok (.iload_n 0, 1) := by decide +kernel
theorem dX7_isSheet_5 : decode cX7_isSheet 5 = .ok (.iconst 4, 1) := by decide +kernel
theorem dX7_isSheet_6 : decode cX7_isSheet 6 = .ok (.if_icmp .ge 7, 3) := by decide +kernel
theorem dX7_isSheet_9 : decode cX7_isSheet 9 = .ok (.iconst 1, 1) := by decide +kernel
theorem dX7_isSheet_10 : decode cX7_isSheet 10 = .ok (.goto 4, 3) := by decide +kernel
theorem dX7_isSheet_13 : decode cX7_isSheet 13 = .ok (.iconst 0, 1) := by decide +kernel
theorem dX7_isSheet_14 : decode cX7_isSheet 14 = .ok (.ireturn, 1) := by decide +kernel
theorem dX7_isBits_0 : decode cX7_isBits 0 = .ok (.iload_n 0, 1) := by decide +kernel
theorem dX7_isBits_1 : decode cX7_isBits 1 = .ok (.ifCond .eq 21, 3) := by decide +kernel
theorem dX7_isBits_4 : decode cX7_isBits 4 = .ok (.iload_n 0, 1) := by decide +kernel
theorem dX7_isBits_5 : decode cX7_isBits 5 = .ok (.bipush 8, 2) := by decide +kernel
theorem dX7_isBits_7 : decode cX7_isBits 7 = .ok (.if_icmp .eq 15, 3) := by decide +kernel
theorem dX7_isBits_10 : decode cX7_isBits 10 = .ok (.iload_n 0, 1) := by decide +kernel
theorem dX7_isBits_11 : decode cX7_isBits 11 = .ok (.bipush 16, 2) := by decide +kernel
theorem dX7_isBits_13 : decode cX7_isBits 13 = .ok (.if_icmp .eq 9, 3) := by decide +kernel
theorem dX7_isBits_16 : decode cX7_isBits 16 = .ok (.iload_n 0, 1) := by decide +kernel
theorem dX7_isBits_17 : decode cX7_isBits 17 = .ok (.bipush 32, 2) := by decide +kernel
theorem dX7_isBits_19 : decode cX7_isBits 19 = .ok (.if_icmp .ne 7, 3) := by decide +kernel
theorem dX7_isBits_22 : decode cX7_isBits 22 = .ok (.iconst 1, 1) := by decide +kernel
theorem dX7_isBits_23 : decode cX7_isBits 23 = .ok (.goto 4, 3) := by decide +kernel
theorem dX7_isBits_26 : decode cX7_isBits 26 = .ok (.iconst 0, 1) := by decide +kernel
theorem dX7_isBits_27 : decode cX7_isBits 27 = .ok (.ireturn, 1) := by decide +kernel
theorem dX8_init_0 : decode cX8_init 0 = .ok (.aload_n 0, 1) := by decide +kernel
theorem dX8_init_1 : decode cX8_init 1 = .ok (.invokespecial 1, 3) := by decide +kernel
theorem dX8_init_4 : decode cX8_init 4 = .ok (.aload_n 0, 1) := by decide +kernel
theorem dX8_init_5 : decode cX8_init 5 = .ok (.bipush 29, 2) := by decide +kernel
theorem dX8_init_7 : decode cX8_init 7 = .ok (.newarray .int, 2) := by decide +kernel
theorem dX8_init_9 : decode cX8_init 9 = .ok (.putfield 7, 3) := by decide +kernel
theorem dX8_init_12 : decode cX8_init 12 = .ok (.aload_n 0, 1) := by decide +kernel
theorem dX8_init_13 : decode cX8_init 13 = .ok (.sipush 725, 3) := by decide +kernel
theorem dX8_init_16 : decode cX8_init 16 = .ok (.newarray .int, 2) := by decide +kernel
theorem dX8_init_18 : decode cX8_init 18 = .ok (.putfield 13, 3) := by decide +kernel
theorem dX8_init_21 : decode cX8_init 21 = .ok (.aload_n 0, 1) := by decide +kernel
theorem dX8_init_22 : decode cX8_init 22 = .ok (.bipush 48, 2) := by decide +kernel
theorem dX8_init_24 : decode cX8_init 24 = .ok (.newarray .int, 2) := by decide +kernel
theorem dX8_init_26 : decode cX8_init 26 = .ok (.putfield 16, 3) := by decide +kernel
theorem dX8_init_29 : decode cX8_init 29 = .ok (.aload_n 0, 1) := by decide +kernel
theorem dX8_init_30 : decode cX8_init 30 = .ok (.iconst 4, 1) := by decide +kernel
theorem dX8_init_31 : decode cX8_init 31 = .ok (.newarray .int, 2) := by decide +kernel
theorem dX8_init_33 : decode cX8_init 33 = .ok (.putfield 19, 3) := by decide +kernel
theorem dX8_init_36 : decode cX8_init 36 = .ok (.aload_n 0, 1) := by decide +kernel
theorem dX8_init_37 : decode cX8_init 37 = .ok (.iconst 4, 1) := by decide +kernel
theorem dX8_init_38 : decode cX8_init 38 = .ok (.newarray .boolean, 2) := by decide +kernel
theorem dX8_init_40 : decode cX8_init 40 = .ok (.putfield 22, 3) := by decide +kernel
theorem dX8_init_43 : decode cX8_init 43 = .ok (.aload_n 0, 1) := by decide +kernel
theorem dX8_init_44 : decode cX8_init 44 = .ok (.iconst 4, 1) := by decide +kernel
theorem dX8_init_45 : decode cX8_init 45 = .ok (.newarray .int, 2) := by decide +kernel
theorem dX8_init_47 : decode cX8_init 47 = .ok (.putfield 26, 3) := by decide +kernel
theorem dX8_init_50 : decode cX8_init 50 = .ok (.aload_n 0, 1) := by decide +kernel
theorem dX8_init_51 : decode cX8_init 51 = .ok (.iconst 4, 1) := by decide +kernel
theorem dX8_init_52 : decode cX8_init 52 = .ok (.newarray .int, 2) := by decide +kernel
theorem dX8_init_54 : decode cX8_init 54 = .ok (.putfield 29, 3) := by decide +kernel
theorem dX8_init_57 : decode cX8_init 57 = .ok (.aload_n 0, 1) := by decide +kernel
theorem dX8_init_58 : decode cX8_init 58 = .ok (.bipush 64, 2) := by decide +kernel
theorem dX8_init_60 : decode cX8_init 60 = .ok (.newarray .int, 2) := by decide +kernel
theorem dX8_init_62 : decode cX8_init 62 = .ok (.putfield 32, 3) := by decide +kernel
theorem dX8_init_65 : decode cX8_init 65 = .ok (.aload_n 0, 1) := by decide +kernel
theorem dX8_init_66 : decode cX8_init 66 = .ok (.bipush 12, 2) := by decide +kernel
theorem dX8_init_68 : decode cX8_init 68 = .ok (.newarray .int, 2) := by decide +kernel
theorem dX8_init_70 : decode cX8_init 70 = .ok (.putfield 35, 3) := by decide +kernel
theorem dX8_init_73 : decode cX8_init 73 = .ok (.aload_n 0, 1) := by decide +kernel
theorem dX8_init_74 : decode cX8_init 74 = .ok (.iconst 2, 1) := by decide +kernel
theorem dX8_init_75 : decode cX8_init 75 = .ok (.newarray .int, 2) := by decide +kernel
theorem dX8_init_77 : decode cX8_init 77 = .ok (.putfield 38, 3) := by decide +kernel
theorem dX8_init_80 : decode cX8_init 80 = .ok (.aload_n 0, 1) := by decide +kernel
theorem dX8_init_81 : decode cX8_init 81 = .ok (.bipush 64, 2) := by decide +kernel
theorem dX8_init_83 : decode cX8_init 83 = .ok (.newarray .int, 2) := by decide +kernel
theorem dX8_init_85 : decode cX8_init 85 = .ok (.putfield 41, 3) := by decide +kernel
theorem dX8_init_88 : decode cX8_init 88 = .ok (.aload_n 0, 1) := by decide +kernel
theorem dX8_init_89 : decode cX8_init 89 = .ok (.bipush 64, 2) := by decide +kernel
theorem dX8_init_91 : decode cX8_init 91 = .ok (.newarray .int, 2) := by decide +kernel
theorem dX8_init_93 : decode cX8_init 93 = .ok (.putfield 44, 3) := by decide +kernel
theorem dX8_init_96 : decode cX8_init 96 = .ok (.aload_n 0, 1) := by decide +kernel
theorem dX8_init_97 : decode cX8_init 97 = .ok (.bipush 10, 2) := by decide +kernel
theorem dX8_init_99 : decode cX8_init 99 = .ok (.newarray .long, 2) := by decide +kernel
theorem dX8_init_101 : decode cX8_init 101 = .ok (.putfield 47, 3) := by decide +kernel
theorem dX8_init_104 : decode cX8_init 104 = .ok (.aload_n 0, 1) := by decide +kernel
theorem dX8_init_105 : decode cX8_init 105 = .ok (.bipush 50, 2) := by decide +kernel
theorem dX8_init_107 : decode cX8_init 107 = .ok (.newarray .long, 2) := by decide +kernel
theorem dX8_init_109 : decode cX8_init 109 = .ok (.putfield 51, 3) := by decide +kernel
theorem dX8_init_112 : decode cX8_init 112 = .ok (.aload_n 0, 1) := by decide +kernel
theorem dX8_init_113 : decode cX8_init 113 = .ok (.bipush 16, 2) := by decide +kernel
theorem dX8_init_115 : decode cX8_init 115 = .ok (.newarray .int, 2) := by decide +kernel
theorem dX8_init_117 : decode cX8_init 117 = .ok (.putfield 54, 3) := by decide +kernel
theorem dX8_init_120 : decode cX8_init 120 = .ok (.return_, 1) := by decide +kernel
theorem dX8_in_0 : decode cX8_in 0 = .ok (.iload_n 0, 1) := by decide +kernel
theorem dX8_in_1 : decode cX8_in 1 = .ok (.iload_n 1, 1) := by decide +kernel
theorem dX8_in_2 : decode cX8_in 2 = .ok (.if_icmp .lt 12, 3) := by decide +kernel
theorem dX8_in_5 : decode cX8_in 5 = .ok (.iload_n 0, 1) := by decide +kernel
theorem dX8_in_6 : decode cX8_in 6 = .ok (.iload_n 2, 1) := by decide +kernel
theorem dX8_in_7 : decode cX8_in 7 = .ok (.if_icmp .gt 7, 3) := by decide +kernel
theorem dX8_in_10 : decode cX8_in 10 = .ok (.iconst 1, 1) := by decide +kernel
theorem dX8_in_11 : decode cX8_in 11 = .ok (.goto 4, 3) := by decide +kernel
theorem dX8_in_14 : decode cX8_in 14 = .ok (.iconst 0, 1) := by decide +kernel
theorem dX8_in_15 : decode cX8_in 15 = .ok (.ireturn, 1) := by decide +kernel
theorem dX8_found_0 : decode cX8_found 0 = .ok (.aload_n 0, 1) := by decide +kernel
theorem dX8_found_1 : decode cX8_found 1 = .ok (.dup, 1) := by decide +kernel
theorem dX8_found_2 : decode cX8_found 2 = .ok (.getfield 57, 3) := by decide +kernel
theorem dX8_found_5 : decode cX8_found 5 = .ok (.iconst 1, 1) := by decide +kernel
theorem dX8_found_6 : decode cX8_found 6 = .ok (.iadd, 1) := by decide +kernel
theorem dX8_found_7 : decode cX8_found 7 = .ok (.putfield 57, 3) := by decide +kernel
theorem dX8_found_10 : decode cX8_found 10 = .ok (.iload_n 1, 1) := by decide +kernel
theorem dX8_found_11 : decode cX8_found 11 = .ok (.ireturn, 1) := by decide +kernel
set_option maxRecDepth 20000 in
theorem ggX8_isPlace_X8_in : GoodIn wsX8_isPlace wsX8_in := goodIn_r _ [4] (by decide +kernel) (by decide +kernel)
set_option maxRecDepth 20000 in
theorem gX8_isPlace_X8_in : GoodIn wsX8_isPlace (va_wsS RX8 61 yX8_in wsX8_in) := goodIn_app (goodIn_of _ (by decide +kernel)) ggX8_isPlace_X8_in
theorem dX8_isPlace_0 : decode cX8_isPlace 0 = .ok (.iload_n 0, 1) := by decide +kernel
theorem dX8_isPlace_1 : decode cX8_isPlace 1 = .ok (.bipush (-6), 2) := by decide +kernel
theorem dX8_isPlace_3 : decode cX8_isPlace 3 = .ok (.bipush 6, 2) := by decide +kernel
theorem dX8_isPlace_5 : decode cX8_isPlace 5 = .ok (.invokestatic 61, 3) := by decide +kernel
theorem dX8_isPlace_8 : decode cX8_isPlace 8 = .ok (.ifCond .eq 18, 3) := by decide +kernel
theorem dX8_isPlace_11 : decode cX8_isPlace 11 = .ok (.iload_n 1, 1) := by decide +kernel
theorem dX8_isPlace_12 : decode cX8_isPlace 12 = .ok (.bipush (-6), 2) := by decide +kernel
theorem dX8_isPlace_14 : decode cX8_isPlace 14 = .ok (.bipush 6, 2) := by decide +kernel
theorem dX8_isPlace_16 : decode cX8_isPlace 16 = .ok (.invokestatic 61, 3) := by decide +kernel
theorem dX8_isPlace_19 : decode cX8_isPlace 19 = .ok (.ifCond .eq 7, 3) := by decide +kernel
theorem dX8_isPlace_22 : decode cX8_isPlace 22 = .ok (.iconst 1, 1) := by decide +kernel
theorem dX8_isPlace_23 : decode cX8_isPlace 23 = .ok (.goto 4, 3) := by decide +kernel
theorem dX8_isPlace_26 : decode cX8_isPlace 26 = .ok (.iconst 0, 1) := by decide +kernel
theorem dX8_isPlace_27 : decode cX8_isPlace 27 = .ok (.ireturn, 1) := by decide +kernel
theorem dX8_remember_0 : decode cX8_remember 0 = .ok (.aload_n 0, 1) := by decide +kernel
theorem dX8_remember_1 : decode cX8_remember 1 = .ok (.getfield 65, 3) := by decide +kernel
theorem dX8_remember_4 : decode cX8_remember 4 = .ok (.bipush 25, 2) := by decide +kernel
theorem dX8_remember_6 : decode cX8_remember 6 = .ok (.if_icmp .ne 44, 3) := by decide +kernel
theorem dX8_remember_9 : decode cX8_remember 9 = .ok (.bipush 29, 2) := by decide +kernel
theorem dX8_remember_11 : decode cX8_remember 11 = .ok (.istore_n 1, 1) := by decide +kernel
theorem dX8_remember_12 : decode cX8_remember 12 = .ok (.iload_n 1, 1) := by decide +kernel
theorem dX8_remember_13 : decode cX8_remember 13 = .ok (.sipush 725, 3) := by decide +kernel
theorem dX8_remember_16 : decode cX8_remember 16 = .ok (.if_icmp .ge 24, 3) := by decide +kernel
theorem dX8_remember_19 : decode cX8_remember 19 = .ok (.aload_n 0, 1) := by decide +kernel
theorem dX8_remember_20 : decode cX8_remember 20 = .ok (.getfield 13, 3) := by decide +kernel
theorem dX8_remember_23 : decode cX8_remember 23 = .ok (.iload_n 1, 1) := by decide +kernel
theorem dX8_remember_24 : decode cX8_remember 24 = .ok (.bipush 29, 2) := by decide +kernel
theorem dX8_remember_26 : decode cX8_remember 26 = .ok (.isub, 1) := by decide +kernel
theorem dX8_remember_27 : decode cX8_remember 27 = .ok (.aload_n 0, 1) := by decide +kernel
theorem dX8_remember_28 : decode cX8_remember 28 = .ok (.getfield 13, 3) := by decide +kernel
theorem dX8_remember_31 : decode cX8_remember 31 = .ok (.iload_n 1, 1) := by decide +kernel
theorem dX8_remember_32 : decode cX8_remember 32 = .ok (.iaload, 1) := by decide +kernel
theorem dX8_remember_33 : decode cX8_remember 33 = .ok (.iastore, 1) := by decide +kernel
theorem dX8_remember_34 : decode cX8_remember 34 = .ok (.iinc 1 1, 3) := by decide +kernel
theorem dX8_remember_37 : decode cX8_remember 37 = .ok (.goto (-25), 3) := by decide +kernel
theorem dX8_remember_40 : decode cX8_remember 40 = .ok (.aload_n 0, 1) := by decide +kernel
theorem dX8_remember_41 : decode cX8_remember 41 = .ok (.dup, 1) := by decide +kernel
theorem dX8_remember_42 : decode cX8_remember 42 = .ok (.getfield 65, 3) := by decide +kernel
theorem dX8_remember_45 : decode cX8_remember 45 = .ok (.iconst 1, 1) := by decide +kernel
theorem dX8_remember_46 : decode cX8_remember 46 = .ok (.isub, 1) := by decide +kernel
theorem dX8_remember_47 : decode cX8_remember 47 = .ok (.putfield 65, 3) := by decide +kernel
theorem dX8_remember_50 : decode cX8_remember 50 = .ok (.iconst 0, 1) := by decide +kernel
theorem dX8_remember_51 : decode cX8_remember 51 = .ok (.istore_n 1, 1) := by decide +kernel
theorem dX8_remember_52 : decode cX8_remember 52 = .ok (.iload_n 1, 1) := by decide +kernel
theorem dX8_remember_53 : decode cX8_remember 53 = .ok (.bipush 29, 2) := by decide +kernel
theorem dX8_remember_55 : decode cX8_remember 55 = .ok (.if_icmp .ge 29, 3) := by decide +kernel
theorem dX8_remember_58 : decode cX8_remember 58 = .ok (.aload_n 0, 1) := by decide +kernel
theorem dX8_remember_59 : decode cX8_remember 59 = .ok (.getfield 13, 3) := by decide +kernel
theorem dX8_remember_62 : decode cX8_remember 62 = .ok (.bipush 29, 2) := by decide +kernel
theorem dX8_remember_64 : decode cX8_remember 64 = .ok (.aload_n 0, 1) := by decide +kernel
theorem dX8_remember_65 : decode cX8_remember 65 = .ok (.getfield 65, 3) := by decide +kernel
theorem dX8_remember_68 : decode cX8_remember 68 = .ok (.imul, 1) := by decide +kernel
theorem dX8_remember_69 : decode cX8_remember 69 = .ok (.iload_n 1, 1) := by decide +kernel
theorem dX8_remember_70 : decode cX8_remember 70 = .ok (.iadd, 1) := by decide +kernel
theorem dX8_remember_71 : decode cX8_remember 71 = .ok (.aload_n 0, 1) := by decide +kernel
theorem dX8_remember_72 : decode cX8_remember 72 = .ok (.getfield 7, 3) := by decide +kernel
theorem dX8_remember_75 : decode cX8_remember 75 = .ok (.iload_n 1, 1) := by decide +kernel
theorem dX8_remember_76 : decode cX8_remember 76 = .ok (.iaload, 1) := by decide +kernel
theorem dX8_remember_77 : decode cX8_remember 77 = .ok (.iastore, 1) := by decide +kernel
theorem dX8_remember_78 : decode cX8_remember 78 = .ok (.iinc 1 1, 3) := by decide +kernel
theorem dX8_remember_81 : decode cX8_remember 81 = .ok (.goto (-29), 3) := by decide +kernel
theorem dX8_remember_84 : decode cX8_remember 84 = .ok (.aload_n 0, 1) := by decide +kernel
theorem dX8_remember_85 : decode cX8_remember 85 = .ok (.dup, 1) := by decide +kernel
theorem dX8_remember_86 : decode cX8_remember 86 = .ok (.getfield 65, 3) := by decide +kernel
theorem dX8_remember_89 : decode cX8_remember 89 = .ok (.iconst 1, 1) := by decide +kernel
theorem dX8_remember_90 : decode cX8_remember 90 = .ok (.iadd, 1) := by decide +kernel
theorem dX8_remember_91 : decode cX8_remember 91 = .ok (.putfield 65, 3) := by decide +kernel
theorem dX8_remember_94 : decode cX8_remember 94 = .ok (.return_, 1) := by decide +kernel
theorem dX8_get_0 : decode cX8_get 0 = .ok (.aload_n 0, 1) := by decide +kernel
theorem dX8_get_1 : decode cX8_get 1 = .ok (.getfield 7, 3) := by decide +kernel
theorem dX8_get_4 : decode cX8_get 4 = .ok (.iload_n 1, 1) := by decide +kernel
theorem dX8_get_5 : decode cX8_get 5 = .ok (.ifCond .eq 10, 3) := by decide +kernel
theorem dX8_get_8 : decode cX8_get 8 = .ok (.bipush 6, 2) := by decide +kernel
theorem dX8_get_10 : decode cX8_get 10 = .ok (.iload_n 2, 1) := by decide +kernel
theorem dX8_get_11 : decode cX8_get 11 = .ok (.iadd, 1) := by decide +kernel
theorem dX8_get_12 : decode cX8_get 12 = .ok (.goto 4, 3) := by decide +kernel
theorem dX8_get_15 : decode cX8_get 15 = .ok (.iload_n 2, 1) := by decide +kernel
theorem dX8_get_16 : decode cX8_get 16 = .ok (.iaload, 1) := by decide +kernel
theorem dX8_get_17 : decode cX8_get 17 = .ok (.ireturn, 1) := by decide +kernel
set_option maxRecDepth 20000 in
theorem ggX8_put_X8_in : GoodIn wsX8_put wsX8_in := goodIn_r _ [6] (by decide +kernel) (by decide +kernel)
set_option maxRecDepth 20000 in
theorem gX8_put_X8_in : GoodIn wsX8_put (va_wsS RX8 61 yX8_in wsX8_in) := goodIn_app (goodIn_of _ (by decide +kernel)) ggX8_put_X8_in
set_option maxRecDepth 20000 in
theorem ggX8_put_X8_found : GoodIn wsX8_put wsX8_found := goodIn_r _ [10, 11, 22, 23, 24, 25, 26, 27, 28, 29, 30, 31, 32, 33, 34, 35, 36, 37, 38, 39, 40, 41, 42, 43, 44] (by decide +kernel) (by decide +kernel)
set_option maxRecDepth 20000 in
theorem gX8_put_X8_found : GoodIn wsX8_put (wsV RX8 69 RX8 yX8_found wsX8_found) := goodIn_app (goodIn_of _ (by decide +kernel)) ggX8_put_X8_found
set_option maxRecDepth 20000 in
theorem ggX8_put_X8_remember : GoodIn wsX8_put wsX8_remember := goodIn_r _ [15, 16, 17, 2, 22, 23, 24, 25, 26, 27, 28, 29, 30, 31, 32, 33, 34, 35, 36, 37, 38, 39, 40, 41, 42, 43, 44] (by decide +kernel) (by decide +kernel)
set_option maxRecDepth 20000 in
theorem gX8_put_X8_remember : GoodIn wsX8_put (wsV RX8 73 RX8 yX8_remember wsX8_remember) := goodIn_app (goodIn_of _ (by decide +kernel)) ggX8_put_X8_remember
set_option maxRecDepth 20000 in
theorem ggX8_put_X8_get : GoodIn wsX8_put wsX8_get := goodIn_r _ [21, 2, 22, 23, 24, 25, 26, 27, 28, 29, 30, 31, 32, 33, 34, 35, 36, 37, 38, 39, 40, 41, 42, 43, 44] (by decide +kernel) (by decide +kernel)
set_option maxRecDepth 20000 in
theorem gX8_put_X8_get : GoodIn wsX8_put (wsV RX8 76 RX8 yX8_get wsX8_get) := goodIn_app (goodIn_of _ (by decide +kernel)) ggX8_put_X8_get
theorem dX8_put_0 : decode cX8_put 0 = .ok (.iload_n 2, 1) := by decide +kernel
theorem dX8_put_1 : decode cX8_put 1 = .ok (.iconst 0, 1) := by decide +kernel
theorem dX8_put_2 : decode cX8_put 2 = .ok (.iconst 5, 1) := by decide +kernel
theorem dX8_put_3 : decode cX8_put 3 = .ok (.invokestatic 61, 3) := by decide +kernel
theorem dX8_put_6 : decode cX8_put 6 = .ok (.ifCond .eq 13, 3) := by decide +kernel
theorem dX8_put_9 : decode cX8_put 9 = .ok (.iload_n 3, 1) := by decide +kernel
theorem dX8_put_10 : decode cX8_put 10 = .ok (.bipush (-4), 2) := by decide +kernel
theorem dX8_put_12 : decode cX8_put 12 = .ok (.iconst 4, 1) := by decide +kernel
theorem dX8_put_13 : decode cX8_put 13 = .ok (.invokestatic 61, 3) := by decide +kernel
theorem dX8_put_16 : decode cX8_put 16 = .ok (.ifCond .ne 10, 3) := by decide +kernel
theorem dX8_put_19 : decode cX8_put 19 = .ok (.aload_n 0, 1) := by decide +kernel
theorem dX8_put_20 : decode cX8_put 20 = .ok (.ldc 68, 2) := by decide +kernel
theorem dX8_put_22 : decode cX8_put 22 = .ok (.invokevirtual 69, 3) := by decide +kernel
theorem dX8_put_25 : decode cX8_put 25 = .ok (.ireturn, 1) := by decide +kernel
theorem dX8_put_26 : decode cX8_put 26 = .ok (.aload_n 0, 1) := by decide +kernel
theorem dX8_put_27 : decode cX8_put 27 = .ok (.invokevirtual 73, 3) := by decide +kernel
theorem dX8_put_30 : decode cX8_put 30 = .ok (.aload_n 0, 1) := by decide +kernel
theorem dX8_put_31 : decode cX8_put 31 = .ok (.iload_n 1, 1) := by decide +kernel
theorem dX8_put_32 : decode cX8_put 32 = .ok (.iload_n 2, 1) := by decide +kernel
theorem dX8_put_33 : decode cX8_put 33 = .ok (.invokevirtual 76, 3) := by decide +kernel
theorem dX8_put_36 : decode cX8_put 36 = .ok (.istore 4, 2) := by decide +kernel
theorem dX8_put_38 : decode cX8_put 38 = .ok (.aload_n 0, 1) := by decide +kernel
theorem dX8_put_39 : decode cX8_put 39 = .ok (.getfield 7, 3) := by decide +kernel
theorem dX8_put_42 : decode cX8_put 42 = .ok (.iload_n 1, 1) := by decide +kernel
theorem dX8_put_43 : decode cX8_put 43 = .ok (.ifCond .eq 10, 3) := by decide +kernel
theorem dX8_put_46 : decode cX8_put 46 = .ok (.bipush 6, 2) := by decide +kernel
theorem dX8_put_48 : decode cX8_put 48 = .ok (.iload_n 2, 1) := by decide +kernel
theorem dX8_put_49 : decode cX8_put 49 = .ok (.iadd, 1) := by decide +kernel
theorem dX8_put_50 : decode cX8_put 50 = .ok (.goto 4, 3) := by decide +kernel
theorem dX8_put_53 : decode cX8_put 53 = .ok (.iload_n 2, 1) := by decide +kernel
theorem dX8_put_54 : decode cX8_put 54 = .ok (.iload_n 3, 1) := by decide +kernel
theorem dX8_put_55 : decode cX8_put 55 = .ok (.iastore, 1) := by decide +kernel
theorem dX8_put_56 : decode cX8_put 56 = .ok (.iload 4, 2) := by decide +kernel
theorem dX8_put_58 : decode cX8_put 58 = .ok (.ireturn, 1) := by decide +kernel
set_option maxRecDepth 20000 in
theorem ggX8_number_X8_in : GoodIn wsX8_number wsX8_in := goodIn_r _ [5] (by decide +kernel) (by decide +kernel)
set_option maxRecDepth 20000 in
theorem gX8_number_X8_in : GoodIn wsX8_number (va_wsS RX8 61 yX8_in wsX8_in) := goodIn_app (goodIn_of _ (by decide +kernel)) ggX8_number_X8_in
set_option maxRecDepth 20000 in
theorem ggX8_number_X8_get : GoodIn wsX8_number wsX8_get := goodIn_r _ [9, 10, 16, 17, 18, 19, 20, 21, 22, 23, 24, 25, 26, 27, 28, 29, 30, 31, 32, 33, 34, 35, 36, 37, 38] (by decide +kernel) (by decide +kernel)
set_option maxRecDepth 20000 in
theorem gX8_number_X8_get : GoodIn wsX8_number (wsV RX8 76 RX8 yX8_get wsX8_get) := goodIn_app (goodIn_of _ (by decide +kernel)) ggX8_number_X8_get
set_option maxRecDepth 20000 in
theorem ggX8_number_X8_found : GoodIn wsX8_number wsX8_found := goodIn_r _ [14, 15, 16, 17, 18, 19, 20, 21, 22, 23, 24, 25, 26, 27, 28, 29, 30, 31, 32, 33, 34, 35, 36, 37, 38] (by decide +kernel) (by decide +kernel)
set_option maxRecDepth 20000 in
theorem gX8_number_X8_found : GoodIn wsX8_number (wsV RX8 69 RX8 yX8_found wsX8_found) := goodIn_app (goodIn_of _ (by decide +kernel)) ggX8_number_X8_found
theorem dX8_number_0 : decode cX8_number 0 = .ok (.iload_n 2, 1) := by decide +kernel
theorem dX8_number_1 : decode cX8_number 1 = .ok (.iconst 0, 1) := by decide +kernel
theorem dX8_number_2 : decode cX8_number 2 = .ok (.iconst 5, 1) := by decide +kernel
theorem dX8_number_3 : decode cX8_number 3 = .ok (.invokestatic 61, 3) := by decide +kernel
theorem dX8_number_6 : decode cX8_number 6 = .ok (.ifCond .eq 12, 3) := by decide +kernel
theorem dX8_number_9 : decode cX8_number 9 = .ok (.aload_n 0, 1) := by decide +kernel
theorem dX8_number_10 : decode cX8_number 10 = .ok (.iload_n 1, 1) := by decide +kernel
theorem dX8_number_11 : decode cX8_number 11 = .ok (.iload_n 2, 1) := by decide +kernel
theorem dX8_number_12 : decode cX8_number 12 = .ok (.invokevirtual 76, 3) := by decide +kernel
theorem dX8_number_15 : decode cX8_number 15 = .ok (.goto 9, 3) := by decide +kernel
theorem dX8_number_18 : decode cX8_number 18 = .ok (.aload_n 0, 1) := by decide +kernel
theorem dX8_number_19 : decode cX8_number 19 = .ok (.ldc 68, 2) := by decide +kernel
theorem dX8_number_21 : decode cX8_number 21 = .ok (.invokevirtual 69, 3) := by decide +kernel
theorem dX8_number_24 : decode cX8_number 24 = .ok (.ireturn, 1) := by decide +kernel
set_option maxRecDepth 20000 in
theorem ggX8_speedAt_X8_get : GoodIn wsX8_speedAt wsX8_get := goodIn_r _ [5, 6, 7, 8, 9, 10, 11, 12, 13, 14, 15, 16, 17, 18, 19, 20, 21, 22, 23, 24, 25, 26, 27, 28, 29] (by decide +kernel) (by decide +kernel)
set_option maxRecDepth 20000 in
theorem gX8_speedAt_X8_get : GoodIn wsX8_speedAt (wsV RX8 76 RX8 yX8_get wsX8_get) := goodIn_app (goodIn_of _ (by decide +kernel)) ggX8_speedAt_X8_get
theorem dX8_speedAt_0 : decode cX8_speedAt 0 = .ok (.aload_n 0, 1) := by decide +kernel
theorem dX8_speedAt_1 : decode cX8_speedAt 1 = .ok (.iload_n 3, 1) := by decide +kernel
theorem dX8_speedAt_2 : decode cX8_speedAt 2 = .ok (.iconst 0, 1) := by decide +kernel
theorem dX8_speedAt_3 : decode cX8_speedAt 3 = .ok (.invokevirtual 76, 3) := by decide +kernel
theorem dX8_speedAt_6 : decode cX8_speedAt 6 = .ok (.aload_n 0, 1) := by decide +kernel
theorem dX8_speedAt_7 : decode cX8_speedAt 7 = .ok (.iload_n 3, 1) := by decide +kernel
theorem dX8_speedAt_8 : decode cX8_speedAt 8 = .ok (.iconst 1, 1) := by decide +kernel
theorem dX8_speedAt_9 : decode cX8_speedAt 9 = .ok (.invokevirtual 76, 3) := by decide +kernel
theorem dX8_speedAt_12 : decode cX8_speedAt 12 = .ok (.iload_n 1, 1) := by decide +kernel
theorem dX8_speedAt_13 : decode cX8_speedAt 13 = .ok (.imul, 1) := by decide +kernel
theorem dX8_speedAt_14 : decode cX8_speedAt 14 = .ok (.iadd, 1) := by decide +kernel
theorem dX8_speedAt_15 : decode cX8_speedAt 15 = .ok (.aload_n 0, 1) := by decide +kernel
theorem dX8_speedAt_16 : decode cX8_speedAt 16 = .ok (.iload_n 3, 1) := by decide +kernel
theorem dX8_speedAt_17 : decode cX8_speedAt 17 = .ok (.iconst 2, 1) := by decide +kernel
theorem dX8_speedAt_18 : decode cX8_speedAt 18 = .ok (.invokevirtual 76, 3) := by decide +kernel
theorem dX8_speedAt_21 : decode cX8_speedAt 21 = .ok (.iload_n 2, 1) := by decide +kernel
theorem dX8_speedAt_22 : decode cX8_speedAt 22 = .ok (.imul, 1) := by decide +kernel
theorem dX8_speedAt_23 : decode cX8_speedAt 23 = .ok (.iadd, 1) := by decide +kernel
theorem dX8_speedAt_24 : decode cX8_speedAt 24 = .ok (.aload_n 0, 1) := by decide +kernel
theorem dX8_speedAt_25 : decode cX8_speedAt 25 = .ok (.iload_n 3, 1) := by decide +kernel
theorem dX8_speedAt_26 : decode cX8_speedAt 26 = .ok (.iconst 3, 1) := by decide +kernel
theorem dX8_speedAt_27 : decode cX8_speedAt 27 = .ok (.invokevirtual 76, 3) := by decide +kernel
theorem dX8_speedAt_30 : decode cX8_speedAt 30 = .ok (.iload_n 1, 1) := by decide +kernel
theorem dX8_speedAt_31 : decode cX8_speedAt 31 = .ok (.imul, 1) := by decide +kernel
theorem dX8_speedAt_32 : decode cX8_speedAt 32 = .ok (.iload_n 1, 1) := by decide +kernel
theorem dX8_speedAt_33 : decode cX8_speedAt 33 = .ok (.imul, 1) := by decide +kernel
theorem dX8_speedAt_34 : decode cX8_speedAt 34 = .ok (.iadd, 1) := by decide +kernel
theorem dX8_speedAt_35 : decode cX8_speedAt 35 = .ok (.aload_n 0, 1) := by decide +kernel
theorem dX8_speedAt_36 : decode cX8_speedAt 36 = .ok (.iload_n 3, 1) := by decide +kernel
theorem dX8_speedAt_37 : decode cX8_speedAt 37 = .ok (.iconst 4, 1) := by decide +kernel
theorem dX8_speedAt_38 : decode cX8_speedAt 38 = .ok (.invokevirtual 76, 3) := by decide +kernel
theorem dX8_speedAt_41 : decode cX8_speedAt 41 = .ok (.iload_n 1, 1) := by decide +kernel
theorem dX8_speedAt_42 : decode cX8_speedAt 42 = .ok (.imul, 1) := by decide +kernel
theorem dX8_speedAt_43 : decode cX8_speedAt 43 = .ok (.iload_n 2, 1) := by decide +kernel
theorem dX8_speedAt_44 : decode cX8_speedAt 44 = .ok (.imul, 1) := by decide +kernel
theorem dX8_speedAt_45 : decode cX8_speedAt 45 = .ok (.iadd, 1) := by decide +kernel
theorem dX8_speedAt_46 : decode cX8_speedAt 46 = .ok (.aload_n 0, 1) := by decide +kernel
theorem dX8_speedAt_47 : decode cX8_speedAt 47 = .ok (.iload_n 3, 1) := by decide +kernel
theorem dX8_speedAt_48 : decode cX8_speedAt 48 = .ok (.iconst 5, 1) := by decide +kernel
theorem dX8_speedAt_49 : decode cX8_speedAt 49 = .ok (.invokevirtual 76, 3) := by decide +kernel
theorem dX8_speedAt_52 : decode cX8_speedAt 52 = .ok (.iload_n 2, 1) := by decide +kernel
theorem dX8_speedAt_53 : decode cX8_speedAt 53 = .ok (.imul, 1) := by decide +kernel
theorem dX8_speedAt_54 : decode cX8_speedAt 54 = .ok (.iload_n 2, 1) := by decide +kernel
theorem dX8_speedAt_55 : decode cX8_speedAt 55 = .ok (.imul, 1) := by decide +kernel
theorem dX8_speedAt_56 : decode cX8_speedAt 56 = .ok (.iadd, 1) := by decide +kernel
theorem dX8_speedAt_57 : decode cX8_speedAt 57 = .ok (.ireturn, 1) := by decide +kernel
set_option maxRecDepth 20000 in
theorem ggX8_speed_X8_isPlace : GoodIn wsX8_speed wsX8_isPlace := goodIn_r _ [5, 6, 7, 4, 8] (by decide +kernel) (by decide +kernel)
set_option maxRecDepth 20000 in
theorem gX8_speed_X8_isPlace : GoodIn wsX8_speed (va_wsS RX8 80 yX8_isPlace wsX8_isPlace) := goodIn_app (goodIn_of _ (by decide +kernel)) ggX8_speed_X8_isPlace
set_option maxRecDepth 20000 in
theorem ggX8_speed_X8_speedAt : GoodIn wsX8_speed wsX8_speedAt := goodIn_r _ [12, 13, 14, 15, 4, 16, 17, 23, 24, 25, 26, 27, 28, 29, 30, 31, 32, 33, 34, 35, 36, 37, 38, 39, 40, 41, 42, 43, 44, 45] (by decide +kernel) (by decide +kernel)
set_option maxRecDepth 20000 in
theorem gX8_speed_X8_speedAt : GoodIn wsX8_speed (wsV RX8 84 RX8 yX8_speedAt wsX8_speedAt) := goodIn_app (goodIn_of _ (by decide +kernel)) ggX8_speed_X8_speedAt
set_option maxRecDepth 20000 in
theorem ggX8_speed_X8_found : GoodIn wsX8_speed wsX8_found := goodIn_r _ [21, 22, 23, 24, 25, 26, 27, 28, 29, 30, 31, 32, 33, 34, 35, 36, 37, 38, 39, 40, 41, 42, 43, 44, 45] (by decide +kernel) (by decide +kernel)
set_option maxRecDepth 20000 in
theorem gX8_speed_X8_found : GoodIn wsX8_speed (wsV RX8 69 RX8 yX8_found wsX8_found) := goodIn_app (goodIn_of _ (by decide +kernel)) ggX8_speed_X8_found
theorem dX8_speed_0 : decode cX8_speed 0 = .ok (.iload_n 1, 1) := by decide +kernel
theorem dX8_speed_1 : decode cX8_speed 1 = .ok (.iload_n 2, 1) := by decide +kernel
theorem dX8_speed_2 : decode cX8_speed 2 = .ok (.invokestatic 80, 3) := by decide +kernel
theorem dX8_speed_5 : decode cX8_speed 5 = .ok (.ifCond .eq 13, 3) := by decide +kernel
theorem dX8_speed_8 : decode cX8_speed 8 = .ok (.aload_n 0, 1) := by decide +kernel
theorem dX8_speed_9 : decode cX8_speed 9 = .ok (.iload_n 1, 1) := by decide +kernel
theorem dX8_speed_10 : decode cX8_speed 10 = .ok (.iload_n 2, 1) := by decide +kernel
theorem dX8_speed_11 : decode cX8_speed 11 = .ok (.iload_n 3, 1) := by decide +kernel
theorem dX8_speed_12 : decode cX8_speed 12 = .ok (.invokevirtual 84, 3) := by decide +kernel
theorem dX8_speed_15 : decode cX8_speed 15 = .ok (.goto 9, 3) := by decide +kernel
theorem dX8_speed_18 : decode cX8_speed 18 = .ok (.aload_n 0, 1) := by decide +kernel
theorem dX8_speed_19 : decode cX8_speed 19 = .ok (.ldc 68, 2) := by decide +kernel
theorem dX8_speed_21 : decode cX8_speed 21 = .ok (.invokevirtual 69, 3) := by decide +kernel
theorem dX8_speed_24 : decode cX8_speed 24 = .ok (.ireturn, 1) := by decide +kernel
set_option maxRecDepth 20000 in
theorem ggX8_slopeAt_X8_get : GoodIn wsX8_slopeAt wsX8_get := goodIn_r _ [5, 6, 7, 8, 9, 10, 11, 12, 13, 14, 15, 16, 17, 18, 19, 20, 21, 22, 23, 24, 25, 26, 27, 28, 29] (by decide +kernel) (by decide +kernel)
set_option maxRecDepth 20000 in
theorem gX8_slopeAt_X8_get : GoodIn wsX8_slopeAt (wsV RX8 76 RX8 yX8_get wsX8_get) := goodIn_app (goodIn_of _ (by decide +kernel)) ggX8_slopeAt_X8_get
theorem dX8_slopeAt_0 : decode cX8_slopeAt 0 = .ok (.iload 4, 2) := by decide +kernel
theorem dX8_slopeAt_2 : decode cX8_slopeAt 2 = .ok (.ifCond .eq 32, 3) := by decide +kernel
theorem dX8_slopeAt_5 : decode cX8_slopeAt 5 = .ok (.aload_n 0, 1) := by decide +kernel
theorem dX8_slopeAt_6 : decode cX8_slopeAt 6 = .ok (.iload_n 3, 1) := by decide +kernel
theorem dX8_slopeAt_7 : decode cX8_slopeAt 7 = .ok (.iconst 2, 1) := by decide +kernel
theorem dX8_slopeAt_8 : decode cX8_slopeAt 8 = .ok (.invokevirtual 76, 3) := by decide +kernel
theorem dX8_slopeAt_11 : decode cX8_slopeAt 11 = .ok (.aload_n 0, 1) := by decide +kernel
theorem dX8_slopeAt_12 : decode cX8_slopeAt 12 = .ok (.iload_n 3, 1) := by decide +kernel
theorem dX8_slopeAt_13 : decode cX8_slopeAt 13 = .ok (.iconst 4, 1) := by decide +kernel
theorem dX8_slopeAt_14 : decode cX8_slopeAt 14 = .ok (.invokevirtual 76, 3) := by decide +kernel
theorem dX8_slopeAt_17 : decode cX8_slopeAt 17 = .ok (.iload_n 1, 1) := by decide +kernel
theorem dX8_slopeAt_18 : decode cX8_slopeAt 18 = .ok (.imul, 1) := by decide +kernel
theorem dX8_slopeAt_19 : decode cX8_slopeAt 19 = .ok (.iadd, 1) := by decide +kernel
theorem dX8_slopeAt_20 : decode cX8_slopeAt 20 = .ok (.iconst 2, 1) := by decide +kernel
theorem dX8_slopeAt_21 : decode cX8_slopeAt 21 = .ok (.aload_n 0, 1) := by decide +kernel
theorem dX8_slopeAt_22 : decode cX8_slopeAt 22 = .ok (.iload_n 3, 1) := by decide +kernel
theorem dX8_slopeAt_23 : decode cX8_slopeAt 23 = .ok (.iconst 5, 1) := by decide +kernel
theorem dX8_slopeAt_24 : decode cX8_slopeAt 24 = .ok (.invokevirtual 76, 3) := by decide +kernel
theorem dX8_slopeAt_27 : decode cX8_slopeAt 27 = .ok (.imul, 1) := by decide +kernel
theorem dX8_slopeAt_28 : decode cX8_slopeAt 28 = .ok (.iload_n 2, 1) := by decide +kernel
theorem dX8_slopeAt_29 : decode cX8_slopeAt 29 = .ok (.imul, 1) := by decide +kernel
theorem dX8_slopeAt_30 : decode cX8_slopeAt 30 = .ok (.iadd, 1) := by decide +kernel
theorem dX8_slopeAt_31 : decode cX8_slopeAt 31 = .ok (.goto 29, 3) := by decide +kernel
theorem dX8_slopeAt_34 : decode cX8_slopeAt 34 = .ok (.aload_n 0, 1) := by decide +kernel
theorem dX8_slopeAt_35 : decode cX8_slopeAt 35 = .ok (.iload_n 3, 1) := by decide +kernel
theorem dX8_slopeAt_36 : decode cX8_slopeAt 36 = .ok (.iconst 1, 1) := by decide +kernel
theorem dX8_slopeAt_37 : decode cX8_slopeAt 37 = .ok (.invokevirtual 76, 3) := by decide +kernel
theorem dX8_slopeAt_40 : decode cX8_slopeAt 40 = .ok (.iconst 2, 1) := by decide +kernel
theorem dX8_slopeAt_41 : decode cX8_slopeAt 41 = .ok (.aload_n 0, 1) := by decide +kernel
theorem dX8_slopeAt_42 : decode cX8_slopeAt 42 = .ok (.iload_n 3, 1) := by decide +kernel
theorem dX8_slopeAt_43 : decode cX8_slopeAt 43 = .ok (.iconst 3, 1) := by decide +kernel
theorem dX8_slopeAt_44 : decode cX8_slopeAt 44 = .ok (.invokevirtual 76, 3) := by decide +kernel
theorem dX8_slopeAt_47 : decode cX8_slopeAt 47 = .ok (.imul, 1) := by decide +kernel
theorem dX8_slopeAt_48 : decode cX8_slopeAt 48 = .ok (.iload_n 1, 1) := by decide +kernel
theorem dX8_slopeAt_49 : decode cX8_slopeAt 49 = .ok (.imul, 1) := by decide +kernel
theorem dX8_slopeAt_50 : decode cX8_slopeAt 50 = .ok (.iadd, 1) := by decide +kernel
theorem dX8_slopeAt_51 : decode cX8_slopeAt 51 = .ok (.aload_n 0, 1) := by decide +kernel
theorem dX8_slopeAt_52 : decode cX8_slopeAt 52 = .ok (.iload_n 3, 1) := by decide +kernel
theorem dX8_slopeAt_53 : decode cX8_slopeAt 53 = .ok (.iconst 4, 1) := by decide +kernel
theorem dX8_slopeAt_54 : decode cX8_slopeAt 54 = .ok (.invokevirtual 76, 3) := by decide +kernel
theorem dX8_slopeAt_57 : decode cX8_slopeAt 57 = .ok (.iload_n 2, 1) := by decide +kernel
theorem dX8_slopeAt_58 : decode cX8_slopeAt 58 = .ok (.imul, 1) := by decide +kernel
theorem dX8_slopeAt_59 : decode cX8_slopeAt 59 = .ok (.iadd, 1) := by decide +kernel
theorem dX8_slopeAt_60 : decode cX8_slopeAt 60 = .ok (.ireturn, 1) := by decide +kernel
set_option maxRecDepth 20000 in
theorem ggX8_slope_X8_isPlace : GoodIn wsX8_slope wsX8_isPlace := goodIn_r _ [5, 6, 7, 4, 8] (by decide +kernel) (by decide +kernel)
set_option maxRecDepth 20000 in
theorem gX8_slope_X8_isPlace : GoodIn wsX8_slope (va_wsS RX8 80 yX8_isPlace wsX8_isPlace) := goodIn_app (goodIn_of _ (by decide +kernel)) ggX8_slope_X8_isPlace
set_option maxRecDepth 20000 in
theorem ggX8_slope_X8_in : GoodIn wsX8_slope wsX8_in := goodIn_r _ [8] (by decide +kernel) (by decide +kernel)
set_option maxRecDepth 20000 in
theorem gX8_slope_X8_in : GoodIn wsX8_slope (va_wsS RX8 61 yX8_in wsX8_in) := goodIn_app (goodIn_of _ (by decide +kernel)) ggX8_slope_X8_in
set_option maxRecDepth 20000 in
theorem ggX8_slope_X8_slopeAt : GoodIn wsX8_slope wsX8_slopeAt := goodIn_r _ [12, 13, 14, 15, 4, 16, 17, 23, 24, 25, 26, 27, 28, 29, 30, 31, 32, 33, 34, 35, 36, 37, 38, 39, 40, 41, 42, 43, 44, 45] (by decide +kernel) (by decide +kernel)
set_option maxRecDepth 20000 in
theorem gX8_slope_X8_slopeAt : GoodIn wsX8_slope (wsV RX8 88 RX8 yX8_slopeAt wsX8_slopeAt) := goodIn_app (goodIn_of _ (by decide +kernel)) ggX8_slope_X8_slopeAt
set_option maxRecDepth 20000 in
theorem ggX8_slope_X8_found : GoodIn wsX8_slope wsX8_found := goodIn_r _ [21, 22, 23, 24, 25, 26, 27, 28, 29, 30, 31, 32, 33, 34, 35, 36, 37, 38, 39, 40, 41, 42, 43, 44, 45] (by decide +kernel) (by decide +kernel)
set_option maxRecDepth 20000 in
theorem gX8_slope_X8_found : GoodIn wsX8_slope (wsV RX8 69 RX8 yX8_found wsX8_found) := goodIn_app (goodIn_of _ (by decide +kernel)) ggX8_slope_X8_found
theorem dX8_slope_0 : decode cX8_slope 0 = .ok (.iload_n 1, 1) := by decide +kernel
theorem dX8_slope_1 : decode cX8_slope 1 = .ok (.iload_n 2, 1) := by decide +kernel
theorem dX8_slope_2 : decode cX8_slope 2 = .ok (.invokestatic 80, 3) := by decide +kernel
theorem dX8_slope_5 : decode cX8_slope 5 = .ok (.ifCond .eq 43, 3) := by decide +kernel
theorem dX8_slope_8 : decode cX8_slope 8 = .ok (.iload_n 3, 1) := by decide +kernel
theorem dX8_slope_9 : decode cX8_slope 9 = .ok (.iconst 0, 1) := by decide +kernel
theorem dX8_slope_10 : decode cX8_slope 10 = .ok (.iconst 3, 1) := by decide +kernel
theorem dX8_slope_11 : decode cX8_slope 11 = .ok (.invokestatic 61, 3) := by decide +kernel
theorem dX8_slope_14 : decode cX8_slope 14 = .ok (.ifCond .eq 34, 3) := by decide +kernel
theorem dX8_slope_17 : decode cX8_slope 17 = .ok (.aload_n 0, 1) := by decide +kernel
theorem dX8_slope_18 : decode cX8_slope 18 = .ok (.iload_n 1, 1) := by decide +kernel
theorem dX8_slope_19 : decode cX8_slope 19 = .ok (.iload_n 2, 1) := by decide +kernel
theorem dX8_slope_20 : decode cX8_slope 20 = .ok (.iload_n 3, 1) := by decide +kernel
theorem dX8_slope_21 : decode cX8_slope 21 = .ok (.iconst 1, 1) := by decide +kernel
theorem dX8_slope_22 : decode cX8_slope 22 = .ok (.if_icmp .le 7, 3) := by decide +kernel
theorem dX8_slope_25 : decode cX8_slope 25 = .ok (.iconst 1, 1) := by decide +kernel
theorem dX8_slope_26 : decode cX8_slope 26 = .ok (.goto 4, 3) := by decide +kernel
theorem dX8_slope_29 : decode cX8_slope 29 = .ok (.iconst 0, 1) := by decide +kernel
theorem dX8_slope_30 : decode cX8_slope 30 = .ok (.iload_n 3, 1) := by decide +kernel
theorem dX8_slope_31 : decode cX8_slope 31 = .ok (.iconst 2, 1) := by decide +kernel
theorem dX8_slope_32 : decode cX8_slope 32 = .ok (.irem, 1) := by decide +kernel
theorem dX8_slope_33 : decode cX8_slope 33 = .ok (.iconst 1, 1) := by decide +kernel
theorem dX8_slope_34 : decode cX8_slope 34 = .ok (.if_icmp .ne 7, 3) := by decide +kernel
theorem dX8_slope_37 : decode cX8_slope 37 = .ok (.iconst 1, 1) := by decide +kernel
theorem dX8_slope_38 : decode cX8_slope 38 = .ok (.goto 4, 3) := by decide +kernel
theorem dX8_slope_41 : decode cX8_slope 41 = .ok (.iconst 0, 1) := by decide +kernel
theorem dX8_slope_42 : decode cX8_slope 42 = .ok (.invokevirtual 88, 3) := by decide +kernel
theorem dX8_slope_45 : decode cX8_slope 45 = .ok (.goto 9, 3) := by decide +kernel
theorem dX8_slope_48 : decode cX8_slope 48 = .ok (.aload_n 0, 1) := by decide +kernel
theorem dX8_slope_49 : decode cX8_slope 49 = .ok (.ldc 68, 2) := by decide +kernel
theorem dX8_slope_51 : decode cX8_slope 51 = .ok (.invokevirtual 69, 3) := by decide +kernel
theorem dX8_slope_54 : decode cX8_slope 54 = .ok (.ireturn, 1) := by decide +kernel
set_option maxRecDepth 20000 in
theorem ggX8_back_X8_remember : GoodIn wsX8_back wsX8_remember := goodIn_r _ [6, 7, 8, 1, 9, 10, 11, 12, 13, 14, 15, 16, 17, 18, 19, 20, 21, 22, 23, 24, 25, 26, 27, 28, 29, 30, 31] (by decide +kernel) (by decide +kernel)
set_option maxRecDepth 20000 in
theorem gX8_back_X8_remember : GoodIn wsX8_back (wsV RX8 73 RX8 yX8_remember wsX8_remember) := goodIn_app (goodIn_of _ (by decide +kernel)) ggX8_back_X8_remember
theorem dX8_back_0 : decode cX8_back 0 = .ok (.aload_n 0, 1) := by decide +kernel
theorem dX8_back_1 : decode cX8_back 1 = .ok (.invokevirtual 73, 3) := by decide +kernel
theorem dX8_back_4 : decode cX8_back 4 = .ok (.iconst 0, 1) := by decide +kernel
theorem dX8_back_5 : decode cX8_back 5 = .ok (.istore_n 1, 1) := by decide +kernel
theorem dX8_back_6 : decode cX8_back 6 = .ok (.iload_n 1, 1) := by decide +kernel
theorem dX8_back_7 : decode cX8_back 7 = .ok (.bipush 12, 2) := by decide +kernel
theorem dX8_back_9 : decode cX8_back 9 = .ok (.if_icmp .ge 22, 3) := by decide +kernel
theorem dX8_back_12 : decode cX8_back 12 = .ok (.aload_n 0, 1) := by decide +kernel
theorem dX8_back_13 : decode cX8_back 13 = .ok (.getfield 7, 3) := by decide +kernel
theorem dX8_back_16 : decode cX8_back 16 = .ok (.iload_n 1, 1) := by decide +kernel
theorem dX8_back_17 : decode cX8_back 17 = .ok (.aload_n 0, 1) := by decide +kernel
theorem dX8_back_18 : decode cX8_back 18 = .ok (.getfield 7, 3) := by decide +kernel
theorem dX8_back_21 : decode cX8_back 21 = .ok (.iload_n 1, 1) := by decide +kernel
theorem dX8_back_22 : decode cX8_back 22 = .ok (.iaload, 1) := by decide +kernel
theorem dX8_back_23 : decode cX8_back 23 = .ok (.ineg, 1) := by decide +kernel
theorem dX8_back_24 : decode cX8_back 24 = .ok (.iastore, 1) := by decide +kernel
theorem dX8_back_25 : decode cX8_back 25 = .ok (.iinc 1 1, 3) := by decide +kernel
theorem dX8_back_28 : decode cX8_back 28 = .ok (.goto (-22), 3) := by decide +kernel
theorem dX8_back_31 : decode cX8_back 31 = .ok (.iconst 1, 1) := by decide +kernel
theorem dX8_back_32 : decode cX8_back 32 = .ok (.ireturn, 1) := by decide +kernel
theorem dX8_take_0 : decode cX8_take 0 = .ok (.iconst 0, 1) := by decide +kernel
theorem dX8_take_1 : decode cX8_take 1 = .ok (.istore_n 1, 1) := by decide +kernel
theorem dX8_take_2 : decode cX8_take 2 = .ok (.iload_n 1, 1) := by decide +kernel
theorem dX8_take_3 : decode cX8_take 3 = .ok (.bipush 12, 2) := by decide +kernel
theorem dX8_take_5 : decode cX8_take 5 = .ok (.if_icmp .ge 21, 3) := by decide +kernel
theorem dX8_take_8 : decode cX8_take 8 = .ok (.aload_n 0, 1) := by decide +kernel
theorem dX8_take_9 : decode cX8_take 9 = .ok (.getfield 7, 3) := by decide +kernel
theorem dX8_take_12 : decode cX8_take 12 = .ok (.iload_n 1, 1) := by decide +kernel
theorem dX8_take_13 : decode cX8_take 13 = .ok (.aload_n 0, 1) := by decide +kernel
theorem dX8_take_14 : decode cX8_take 14 = .ok (.getfield 35, 3) := by decide +kernel
theorem dX8_take_17 : decode cX8_take 17 = .ok (.iload_n 1, 1) := by decide +kernel
theorem dX8_take_18 : decode cX8_take 18 = .ok (.iaload, 1) := by decide +kernel
theorem dX8_take_19 : decode cX8_take 19 = .ok (.iastore, 1) := by decide +kernel
theorem dX8_take_20 : decode cX8_take 20 = .ok (.iinc 1 1, 3) := by decide +kernel
theorem dX8_take_23 : decode cX8_take 23 = .ok (.goto (-21), 3) := by decide +kernel
theorem dX8_take_26 : decode cX8_take 26 = .ok (.return_, 1) := by decide +kernel
set_option maxRecDepth 20000 in
theorem ggX8_quarter_X8_remember : GoodIn wsX8_quarter wsX8_remember := goodIn_r _ [7, 8, 9, 2, 14, 15, 16, 17, 18, 19, 20, 21, 22, 23, 24, 25, 26, 27, 28, 29, 30, 31, 32, 33, 34, 35, 36] (by decide +kernel) (by decide +kernel)
set_option maxRecDepth 20000 in
theorem gX8_quarter_X8_remember : GoodIn wsX8_quarter (wsV RX8 73 RX8 yX8_remember wsX8_remember) := goodIn_app (goodIn_of _ (by decide +kernel)) ggX8_quarter_X8_remember
set_option maxRecDepth 20000 in
theorem ggX8_quarter_X8_take : GoodIn wsX8_quarter wsX8_take := goodIn_r _ [13, 2, 1, 14, 15, 16, 17, 18, 19, 20, 21, 22, 23, 24, 25, 26, 27, 28, 29, 30, 31, 32, 33, 34, 35, 36] (by decide +kernel) (by decide +kernel)
set_option maxRecDepth 20000 in
theorem gX8_quarter_X8_take : GoodIn wsX8_quarter (wsV RX8 92 RX8 yX8_take wsX8_take) := goodIn_app (goodIn_of _ (by decide +kernel)) ggX8_quarter_X8_take
theorem dX8_quarter_0 : decode cX8_quarter 0 = .ok (.aload_n 0, 1) := by decide +kernel
theorem dX8_quarter_1 : decode cX8_quarter 1 = .ok (.invokevirtual 73, 3) := by decide +kernel
theorem dX8_quarter_4 : decode cX8_quarter 4 = .ok (.iconst 0, 1) := by decide +kernel
theorem dX8_quarter_5 : decode cX8_quarter 5 = .ok (.istore_n 1, 1) := by decide +kernel
theorem dX8_quarter_6 : decode cX8_quarter 6 = .ok (.iload_n 1, 1) := by decide +kernel
theorem dX8_quarter_7 : decode cX8_quarter 7 = .ok (.iconst 2, 1) := by decide +kernel
theorem dX8_quarter_8 : decode cX8_quarter 8 = .ok (.if_icmp .ge 148, 3) := by decide +kernel
theorem dX8_quarter_11 : decode cX8_quarter 11 = .ok (.iload_n 1, 1) := by decide +kernel
theorem dX8_quarter_12 : decode cX8_quarter 12 = .ok (.ifCond .ne 8, 3) := by decide +kernel
theorem dX8_quarter_15 : decode cX8_quarter 15 = .ok (.bipush 6, 2) := by decide +kernel
theorem dX8_quarter_17 : decode cX8_quarter 17 = .ok (.goto 4, 3) := by decide +kernel
theorem dX8_quarter_20 : decode cX8_quarter 20 = .ok (.iconst 0, 1) := by decide +kernel
theorem dX8_quarter_21 : decode cX8_quarter 21 = .ok (.istore_n 2, 1) := by decide +kernel
theorem dX8_quarter_22 : decode cX8_quarter 22 = .ok (.iload_n 1, 1) := by decide +kernel
theorem dX8_quarter_23 : decode cX8_quarter 23 = .ok (.ifCond .ne 7, 3) := by decide +kernel
theorem dX8_quarter_26 : decode cX8_quarter 26 = .ok (.iconst (-1), 1) := by decide +kernel
theorem dX8_quarter_27 : decode cX8_quarter 27 = .ok (.goto 4, 3) := by decide +kernel
theorem dX8_quarter_30 : decode cX8_quarter 30 = .ok (.iconst 1, 1) := by decide +kernel
theorem dX8_quarter_31 : decode cX8_quarter 31 = .ok (.istore_n 3, 1) := by decide +kernel
theorem dX8_quarter_32 : decode cX8_quarter 32 = .ok (.bipush 6, 2) := by decide +kernel
theorem dX8_quarter_34 : decode cX8_quarter 34 = .ok (.iload_n 1, 1) := by decide +kernel
theorem dX8_quarter_35 : decode cX8_quarter 35 = .ok (.imul, 1) := by decide +kernel
theorem dX8_quarter_36 : decode cX8_quarter 36 = .ok (.istore 4, 2) := by decide +kernel
theorem dX8_quarter_38 : decode cX8_quarter 38 = .ok (.aload_n 0, 1) := by decide +kernel
theorem dX8_quarter_39 : decode cX8_quarter 39 = .ok (.getfield 35, 3) := by decide +kernel
theorem dX8_quarter_42 : decode cX8_quarter 42 = .ok (.iload 4, 2) := by decide +kernel
theorem dX8_quarter_44 : decode cX8_quarter 44 = .ok (.iload_n 3, 1) := by decide +kernel
theorem dX8_quarter_45 : decode cX8_quarter 45 = .ok (.aload_n 0, 1) := by decide +kernel
theorem dX8_quarter_46 : decode cX8_quarter 46 = .ok (.getfield 7, 3) := by decide +kernel
theorem dX8_quarter_49 : decode cX8_quarter 49 = .ok (.iload_n 2, 1) := by decide +kernel
theorem dX8_quarter_50 : decode cX8_quarter 50 = .ok (.iaload, 1) := by decide +kernel
theorem dX8_quarter_51 : decode cX8_quarter 51 = .ok (.imul, 1) := by decide +kernel
theorem dX8_quarter_52 : decode cX8_quarter 52 = .ok (.iastore, 1) := by decide +kernel
theorem dX8_quarter_53 : decode cX8_quarter 53 = .ok (.aload_n 0, 1) := by decide +kernel
theorem dX8_quarter_54 : decode cX8_quarter 54 = .ok (.getfield 35, 3) := by decide +kernel
theorem dX8_quarter_57 : decode cX8_quarter 57 = .ok (.iload 4, 2) := by decide +kernel
theorem dX8_quarter_59 : decode cX8_quarter 59 = .ok (.iconst 1, 1) := by decide +kernel
theorem dX8_quarter_60 : decode cX8_quarter 60 = .ok (.iadd, 1) := by decide +kernel
theorem dX8_quarter_61 : decode cX8_quarter 61 = .ok (.iload_n 3, 1) := by decide +kernel
theorem dX8_quarter_62 : decode cX8_quarter 62 = .ok (.ineg, 1) := by decide +kernel
theorem dX8_quarter_63 : decode cX8_quarter 63 = .ok (.aload_n 0, 1) := by decide +kernel
theorem dX8_quarter_64 : decode cX8_quarter 64 = .ok (.getfield 7, 3) := by decide +kernel
theorem dX8_quarter_67 : decode cX8_quarter 67 = .ok (.iload_n 2, 1) := by decide +kernel
theorem dX8_quarter_68 : decode cX8_quarter 68 = .ok (.iconst 2, 1) := by decide +kernel
theorem dX8_quarter_69 : decode cX8_quarter 69 = .ok (.iadd, 1) := by decide +kernel
theorem dX8_quarter_70 : decode cX8_quarter 70 = .ok (.iaload, 1) := by decide +kernel
theorem dX8_quarter_71 : decode cX8_quarter 71 = .ok (.imul, 1) := by decide +kernel
theorem dX8_quarter_72 : decode cX8_quarter 72 = .ok (.iastore, 1) := by decide +kernel
theorem dX8_quarter_73 : decode cX8_quarter 73 = .ok (.aload_n 0, 1) := by decide +kernel
theorem dX8_quarter_74 : decode cX8_quarter 74 = .ok (.getfield 35, 3) := by decide +kernel
theorem dX8_quarter_77 : decode cX8_quarter 77 = .ok (.iload 4, 2) := by decide +kernel
theorem dX8_quarter_79 : decode cX8_quarter 79 = .ok (.iconst 2, 1) := by decide +kernel
theorem dX8_quarter_80 : decode cX8_quarter 80 = .ok (.iadd, 1) := by decide +kernel
theorem dX8_quarter_81 : decode cX8_quarter 81 = .ok (.iload_n 3, 1) := by decide +kernel
theorem dX8_quarter_82 : decode cX8_quarter 82 = .ok (.aload_n 0, 1) := by decide +kernel
theorem dX8_quarter_83 : decode cX8_quarter 83 = .ok (.getfield 7, 3) := by decide +kernel
theorem dX8_quarter_86 : decode cX8_quarter 86 = .ok (.iload_n 2, 1) := by decide +kernel
theorem dX8_quarter_87 : decode cX8_quarter 87 = .ok (.iconst 1, 1) := by decide +kernel
theorem dX8_quarter_88 : decode cX8_quarter 88 = .ok (.iadd, 1) := by decide +kernel
theorem dX8_quarter_89 : decode cX8_quarter 89 = .ok (.iaload, 1) := by decide +kernel
theorem dX8_quarter_90 : decode cX8_quarter 90 = .ok (.imul, 1) := by decide +kernel
theorem dX8_quarter_91 : decode cX8_quarter 91 = .ok (.iastore, 1) := by decide +kernel
theorem dX8_quarter_92 : decode cX8_quarter 92 = .ok (.aload_n 0, 1) := by decide +kernel
theorem dX8_quarter_93 : decode cX8_quarter 93 = .ok (.getfield 35, 3) := by decide +kernel
theorem dX8_quarter_96 : decode cX8_quarter 96 = .ok (.iload 4, 2) := by decide +kernel
theorem dX8_quarter_98 : decode cX8_quarter 98 = .ok (.iconst 3, 1) := by decide +kernel
theorem dX8_quarter_99 : decode cX8_quarter 99 = .ok (.iadd, 1) := by decide +kernel
theorem dX8_quarter_100 : decode cX8_quarter 100 = .ok (.iload_n 3, 1) := by decide +kernel
theorem dX8_quarter_101 : decode cX8_quarter 101 = .ok (.aload_n 0, 1) := by decide +kernel
theorem dX8_quarter_102 : decode cX8_quarter 102 = .ok (.getfield 7, 3) := by decide +kernel
theorem dX8_quarter_105 : decode cX8_quarter 105 = .ok (.iload_n 2, 1) := by decide +kernel
theorem dX8_quarter_106 : decode cX8_quarter 106 = .ok (.iconst 5, 1) := by decide +kernel
theorem dX8_quarter_107 : decode cX8_quarter 107 = .ok (.iadd, 1) := by decide +kernel
theorem dX8_quarter_108 : decode cX8_quarter 108 = .ok (.iaload, 1) := by decide +kernel
theorem dX8_quarter_109 : decode cX8_quarter 109 = .ok (.imul, 1) := by decide +kernel
theorem dX8_quarter_110 : decode cX8_quarter 110 = .ok (.iastore, 1) := by decide +kernel
theorem dX8_quarter_111 : decode cX8_quarter 111 = .ok (.aload_n 0, 1) := by decide +kernel
theorem dX8_quarter_112 : decode cX8_quarter 112 = .ok (.getfield 35, 3) := by decide +kernel
theorem dX8_quarter_115 : decode cX8_quarter 115 = .ok (.iload 4, 2) := by decide +kernel
theorem dX8_quarter_117 : decode cX8_quarter 117 = .ok (.iconst 4, 1) := by decide +kernel
theorem dX8_quarter_118 : decode cX8_quarter 118 = .ok (.iadd, 1) := by decide +kernel
theorem dX8_quarter_119 : decode cX8_quarter 119 = .ok (.iload_n 3, 1) := by decide +kernel
theorem dX8_quarter_120 : decode cX8_quarter 120 = .ok (.ineg, 1) := by decide +kernel
theorem dX8_quarter_121 : decode cX8_quarter 121 = .ok (.aload_n 0, 1) := by decide +kernel
theorem dX8_quarter_122 : decode cX8_quarter 122 = .ok (.getfield 7, 3) := by decide +kernel
theorem dX8_quarter_125 : decode cX8_quarter 125 = .ok (.iload_n 2, 1) := by decide +kernel
theorem dX8_quarter_126 : decode cX8_quarter 126 = .ok (.iconst 4, 1) := by decide +kernel
theorem dX8_quarter_127 : decode cX8_quarter 127 = .ok (.iadd, 1) := by decide +kernel
theorem dX8_quarter_128 : decode cX8_quarter 128 = .ok (.iaload, 1) := by decide +kernel
theorem dX8_quarter_129 : decode cX8_quarter 129 = .ok (.imul, 1) := by decide +kernel
theorem dX8_quarter_130 : decode cX8_quarter 130 = .ok (.iastore, 1) := by decide +kernel
theorem dX8_quarter_131 : decode cX8_quarter 131 = .ok (.aload_n 0, 1) := by decide +kernel
theorem dX8_quarter_132 : decode cX8_quarter 132 = .ok (.getfield 35, 3) := by decide +kernel
theorem dX8_quarter_135 : decode cX8_quarter 135 = .ok (.iload 4, 2) := by decide +kernel
theorem dX8_quarter_137 : decode cX8_quarter 137 = .ok (.iconst 5, 1) := by decide +kernel
theorem dX8_quarter_138 : decode cX8_quarter 138 = .ok (.iadd, 1) := by decide +kernel
theorem dX8_quarter_139 : decode cX8_quarter 139 = .ok (.iload_n 3, 1) := by decide +kernel
theorem dX8_quarter_140 : decode cX8_quarter 140 = .ok (.aload_n 0, 1) := by decide +kernel
theorem dX8_quarter_141 : decode cX8_quarter 141 = .ok (.getfield 7, 3) := by decide +kernel
theorem dX8_quarter_144 : decode cX8_quarter 144 = .ok (.iload_n 2, 1) := by decide +kernel
theorem dX8_quarter_145 : decode cX8_quarter 145 = .ok (.iconst 3, 1) := by decide +kernel
theorem dX8_quarter_146 : decode cX8_quarter 146 = .ok (.iadd, 1) := by decide +kernel
theorem dX8_quarter_147 : decode cX8_quarter 147 = .ok (.iaload, 1) := by decide +kernel
theorem dX8_quarter_148 : decode cX8_quarter 148 = .ok (.imul, 1) := by decide +kernel
theorem dX8_quarter_149 : decode cX8_quarter 149 = .ok (.iastore, 1) := by decide +kernel
theorem dX8_quarter_150 : decode cX8_quarter 150 = .ok (.iinc 1 1, 3) := by decide +kernel
theorem dX8_quarter_153 : decode cX8_quarter 153 = .ok (.goto (-147), 3) := by decide +kernel
theorem dX8_quarter_156 : decode cX8_quarter 156 = .ok (.aload_n 0, 1) := by decide +kernel
theorem dX8_quarter_157 : decode cX8_quarter 157 = .ok (.invokevirtual 92, 3) := by decide +kernel
theorem dX8_quarter_160 : decode cX8_quarter 160 = .ok (.iconst 1, 1) := by decide +kernel
theorem dX8_quarter_161 : decode cX8_quarter 161 = .ok (.ireturn, 1) := by decide +kernel
set_option maxRecDepth 20000 in
theorem ggX8_mirror_X8_remember : GoodIn wsX8_mirror wsX8_remember := goodIn_r _ [6, 7, 8, 1, 9, 10, 11, 12, 13, 14, 15, 16, 17, 18, 19, 20, 21, 22, 23, 24, 25, 26, 27, 28, 29, 30, 31] (by decide +kernel) (by decide +kernel)
set_option maxRecDepth 20000 in
theorem gX8_mirror_X8_remember : GoodIn wsX8_mirror (wsV RX8 73 RX8 yX8_remember wsX8_remember) := goodIn_app (goodIn_of _ (by decide +kernel)) ggX8_mirror_X8_remember
theorem dX8_mirror_0 : decode cX8_mirror 0 = .ok (.aload_n 0, 1) := by decide +kernel
theorem dX8_mirror_1 : decode cX8_mirror 1 = .ok (.invokevirtual 73, 3) := by decide +kernel
theorem dX8_mirror_4 : decode cX8_mirror 4 = .ok (.iconst 0, 1) := by decide +kernel
theorem dX8_mirror_5 : decode cX8_mirror 5 = .ok (.istore_n 1, 1) := by decide +kernel
theorem dX8_mirror_6 : decode cX8_mirror 6 = .ok (.iload_n 1, 1) := by decide +kernel
theorem dX8_mirror_7 : decode cX8_mirror 7 = .ok (.bipush 12, 2) := by decide +kernel
theorem dX8_mirror_9 : decode cX8_mirror 9 = .ok (.if_icmp .ge 62, 3) := by decide +kernel
theorem dX8_mirror_12 : decode cX8_mirror 12 = .ok (.iload_n 1, 1) := by decide +kernel
theorem dX8_mirror_13 : decode cX8_mirror 13 = .ok (.bipush 6, 2) := by decide +kernel
theorem dX8_mirror_15 : decode cX8_mirror 15 = .ok (.irem, 1) := by decide +kernel
theorem dX8_mirror_16 : decode cX8_mirror 16 = .ok (.istore_n 2, 1) := by decide +kernel
theorem dX8_mirror_17 : decode cX8_mirror 17 = .ok (.iload_n 1, 1) := by decide +kernel
theorem dX8_mirror_18 : decode cX8_mirror 18 = .ok (.bipush 6, 2) := by decide +kernel
theorem dX8_mirror_20 : decode cX8_mirror 20 = .ok (.if_icmp .ge 7, 3) := by decide +kernel
theorem dX8_mirror_23 : decode cX8_mirror 23 = .ok (.iconst (-1), 1) := by decide +kernel
theorem dX8_mirror_24 : decode cX8_mirror 24 = .ok (.goto 4, 3) := by decide +kernel
theorem dX8_mirror_27 : decode cX8_mirror 27 = .ok (.iconst 1, 1) := by decide +kernel
theorem dX8_mirror_28 : decode cX8_mirror 28 = .ok (.istore_n 3, 1) := by decide +kernel
theorem dX8_mirror_29 : decode cX8_mirror 29 = .ok (.aload_n 0, 1) := by decide +kernel
theorem dX8_mirror_30 : decode cX8_mirror 30 = .ok (.getfield 7, 3) := by decide +kernel
theorem dX8_mirror_33 : decode cX8_mirror 33 = .ok (.iload_n 1, 1) := by decide +kernel
theorem dX8_mirror_34 : decode cX8_mirror 34 = .ok (.iload_n 2, 1) := by decide +kernel
theorem dX8_mirror_35 : decode cX8_mirror 35 = .ok (.iconst 1, 1) := by decide +kernel
theorem dX8_mirror_36 : decode cX8_mirror 36 = .ok (.if_icmp .eq 8, 3) := by decide +kernel
theorem dX8_mirror_39 : decode cX8_mirror 39 = .ok (.iload_n 2, 1) := by decide +kernel
theorem dX8_mirror_40 : decode cX8_mirror 40 = .ok (.iconst 4, 1) := by decide +kernel
theorem dX8_mirror_41 : decode cX8_mirror 41 = .ok (.if_icmp .ne 15, 3) := by decide +kernel
theorem dX8_mirror_44 : decode cX8_mirror 44 = .ok (.iload_n 3, 1) := by decide +kernel
theorem dX8_mirror_45 : decode cX8_mirror 45 = .ok (.ineg, 1) := by decide +kernel
theorem dX8_mirror_46 : decode cX8_mirror 46 = .ok (.aload_n 0, 1) := by decide +kernel
theorem dX8_mirror_47 : decode cX8_mirror 47 = .ok (.getfield 7, 3) := by decide +kernel
theorem dX8_mirror_50 : decode cX8_mirror 50 = .ok (.iload_n 1, 1) := by decide +kernel
theorem dX8_mirror_51 : decode cX8_mirror 51 = .ok (.iaload, 1) := by decide +kernel
theorem dX8_mirror_52 : decode cX8_mirror 52 = .ok (.imul, 1) := by decide +kernel
theorem dX8_mirror_53 : decode cX8_mirror 53 = .ok (.goto 11, 3) := by decide +kernel
theorem dX8_mirror_56 : decode cX8_mirror 56 = .ok (.iload_n 3, 1) := by decide +kernel
theorem dX8_mirror_57 : decode cX8_mirror 57 = .ok (.aload_n 0, 1) := by decide +kernel
theorem dX8_mirror_58 : decode cX8_mirror 58 = .ok (.getfield 7, 3) := by decide +kernel
theorem dX8_mirror_61 : decode cX8_mirror 61 = .ok (.iload_n 1, 1) := by decide +kernel
theorem dX8_mirror_62 : decode cX8_mirror 62 = .ok (.iaload, 1) := by decide +kernel
theorem dX8_mirror_63 : decode cX8_mirror 63 = .ok (.imul, 1) := by decide +kernel
theorem dX8_mirror_64 : decode cX8_mirror 64 = .ok (.iastore, 1) := by decide +kernel
theorem dX8_mirror_65 : decode cX8_mirror 65 = .ok (.iinc 1 1, 3) := by decide +kernel
theorem dX8_mirror_68 : decode cX8_mirror 68 = .ok (.goto (-62), 3) := by decide +kernel
theorem dX8_mirror_71 : decode cX8_mirror 71 = .ok (.iconst 1, 1) := by decide +kernel
theorem dX8_mirror_72 : decode cX8_mirror 72 = .ok (.ireturn, 1) := by decide +kernel
set_option maxRecDepth 20000 in
theorem ggX8_isSmall_X8_in : GoodIn wsX8_isSmall wsX8_in := goodIn_r _ [5] (by decide +kernel) (by decide +kernel)
set_option maxRecDepth 20000 in
theorem gX8_isSmall_X8_in : GoodIn wsX8_isSmall (va_wsS RX8 61 yX8_in wsX8_in) := goodIn_app (goodIn_of _ (by decide +kernel)) ggX8_isSmall_X8_in
theorem dX8_isSmall_0 : decode cX8_isSmall 0 = .ok (.iconst 0, 1) := by decide +kernel
theorem dX8_isSmall_1 : decode cX8_isSmall 1 = .ok (.istore_n 1, 1) := by decide +kernel
theorem dX8_isSmall_2 : decode cX8_isSmall 2 = .ok (.iload_n 1, 1) := by decide +kernel
theorem dX8_isSmall_3 : decode cX8_isSmall 3 = .ok (.bipush 12, 2) := by decide +kernel
theorem dX8_isSmall_5 : decode cX8_isSmall 5 = .ok (.if_icmp .ge 26, 3) := by decide +kernel
theorem dX8_isSmall_8 : decode cX8_isSmall 8 = .ok (.aload_n 0, 1) := by decide +kernel
theorem dX8_isSmall_9 : decode cX8_isSmall 9 = .ok (.getfield 35, 3) := by decide +kernel
theorem dX8_isSmall_12 : decode cX8_isSmall 12 = .ok (.iload_n 1, 1) := by decide +kernel
theorem dX8_isSmall_13 : decode cX8_isSmall 13 = .ok (.iaload, 1) := by decide +kernel
theorem dX8_isSmall_14 : decode cX8_isSmall 14 = .ok (.bipush (-4), 2) := by decide +kernel
theorem dX8_isSmall_16 : decode cX8_isSmall 16 = .ok (.iconst 4, 1) := by decide +kernel
theorem dX8_isSmall_17 : decode cX8_isSmall 17 = .ok (.invokestatic 61, 3) := by decide +kernel
theorem dX8_isSmall_20 : decode cX8_isSmall 20 = .ok (.ifCond .ne 5, 3) := by decide +kernel
theorem dX8_isSmall_23 : decode cX8_isSmall 23 = .ok (.iconst 0, 1) := by decide +kernel
theorem dX8_isSmall_24 : decode cX8_isSmall 24 = .ok (.ireturn, 1) := by decide +kernel
theorem dX8_isSmall_25 : decode cX8_isSmall 25 = .ok (.iinc 1 1, 3) := by decide +kernel
theorem dX8_isSmall_28 : decode cX8_isSmall 28 = .ok (.goto (-26), 3) := by decide +kernel
theorem dX8_isSmall_31 : decode cX8_isSmall 31 = .ok (.iconst 1, 1) := by decide +kernel
theorem dX8_isSmall_32 : decode cX8_isSmall 32 = .ok (.ireturn, 1) := by decide +kernel
set_option maxRecDepth 20000 in
theorem ggX8_move_X8_isPlace : GoodIn wsX8_move wsX8_isPlace := goodIn_r _ [7, 8, 9, 6, 10] (by decide +kernel) (by decide +kernel)
set_option maxRecDepth 20000 in
theorem gX8_move_X8_isPlace : GoodIn wsX8_move (va_wsS RX8 80 yX8_isPlace wsX8_isPlace) := goodIn_app (goodIn_of _ (by decide +kernel)) ggX8_move_X8_isPlace
set_option maxRecDepth 20000 in
theorem ggX8_move_X8_found : GoodIn wsX8_move wsX8_found := goodIn_r _ [14, 15, 43, 44, 45, 46, 47, 48, 49, 50, 51, 52, 53, 54, 55, 56, 57, 58, 59, 60, 61, 62, 63, 64, 65] (by decide +kernel) (by decide +kernel)
set_option maxRecDepth 20000 in
theorem gX8_move_X8_found : GoodIn wsX8_move (wsV RX8 69 RX8 yX8_found wsX8_found) := goodIn_app (goodIn_of _ (by decide +kernel)) ggX8_move_X8_found
set_option maxRecDepth 20000 in
theorem ggX8_move_X8_get : GoodIn wsX8_move wsX8_get := goodIn_r _ [19, 20, 43, 44, 45, 46, 47, 48, 49, 50, 51, 52, 53, 54, 55, 56, 57, 58, 59, 60, 61, 62, 63, 64, 65] (by decide +kernel) (by decide +kernel)
set_option maxRecDepth 20000 in
theorem gX8_move_X8_get : GoodIn wsX8_move (wsV RX8 76 RX8 yX8_get wsX8_get) := goodIn_app (goodIn_of _ (by decide +kernel)) ggX8_move_X8_get
set_option maxRecDepth 20000 in
theorem ggX8_move_X8_speedAt : GoodIn wsX8_move wsX8_speedAt := goodIn_r _ [24, 16, 17, 18, 6, 19, 20, 43, 44, 45, 46, 47, 48, 49, 50, 51, 52, 53, 54, 55, 56, 57, 58, 59, 60, 61, 62, 63, 64, 65] (by decide +kernel) (by decide +kernel)
set_option maxRecDepth 20000 in
theorem gX8_move_X8_speedAt : GoodIn wsX8_move (wsV RX8 84 RX8 yX8_speedAt wsX8_speedAt) := goodIn_app (goodIn_of _ (by decide +kernel)) ggX8_move_X8_speedAt
set_option maxRecDepth 20000 in
theorem ggX8_move_X8_slopeAt : GoodIn wsX8_move wsX8_slopeAt := goodIn_r _ [28, 16, 17, 18, 6, 19, 20, 43, 44, 45, 46, 47, 48, 49, 50, 51, 52, 53, 54, 55, 56, 57, 58, 59, 60, 61, 62, 63, 64, 65] (by decide +kernel) (by decide +kernel)
set_option maxRecDepth 20000 in
theorem gX8_move_X8_slopeAt : GoodIn wsX8_move (wsV RX8 88 RX8 yX8_slopeAt wsX8_slopeAt) := goodIn_app (goodIn_of _ (by decide +kernel)) ggX8_move_X8_slopeAt
set_option maxRecDepth 20000 in
theorem ggX8_move_X8_isSmall : GoodIn wsX8_move wsX8_isSmall := goodIn_r _ [32, 2, 8, 9, 6, 10, 43, 44, 45, 46, 47, 48, 49, 50, 51, 52, 53, 54, 55, 56, 57, 58, 59, 60, 61, 62, 63, 64, 65] (by decide +kernel) (by decide +kernel)
set_option maxRecDepth 20000 in
theorem gX8_move_X8_isSmall : GoodIn wsX8_move (wsV RX8 95 RX8 yX8_isSmall wsX8_isSmall) := goodIn_app (goodIn_of _ (by decide +kernel)) ggX8_move_X8_isSmall
set_option maxRecDepth 20000 in
theorem ggX8_move_X8_remember : GoodIn wsX8_move wsX8_remember := goodIn_r _ [36, 37, 38, 20, 43, 44, 45, 46, 47, 48, 49, 50, 51, 52, 53, 54, 55, 56, 57, 58, 59, 60, 61, 62, 63, 64, 65] (by decide +kernel) (by decide +kernel)
set_option maxRecDepth 20000 in
theorem gX8_move_X8_remember : GoodIn wsX8_move (wsV RX8 73 RX8 yX8_remember wsX8_remember) := goodIn_app (goodIn_of _ (by decide +kernel)) ggX8_move_X8_remember
set_option maxRecDepth 20000 in
theorem ggX8_move_X8_take : GoodIn wsX8_move wsX8_take := goodIn_r _ [42, 20, 2, 43, 44, 45, 46, 47, 48, 49, 50, 51, 52, 53, 54, 55, 56, 57, 58, 59, 60, 61, 62, 63, 64, 65] (by decide +kernel) (by decide +kernel)
set_option maxRecDepth 20000 in
theorem gX8_move_X8_take : GoodIn wsX8_move (wsV RX8 92 RX8 yX8_take wsX8_take) := goodIn_app (goodIn_of _ (by decide +kernel)) ggX8_move_X8_take
theorem dX8_move_0 : decode cX8_move 0 = .ok (.iload_n 1, 1) := by decide +kernel
theorem dX8_move_1 : decode cX8_move 1 = .ok (.iload_n 2, 1) := by decide +kernel
theorem dX8_move_2 : decode cX8_move 2 = .ok (.invokestatic 80, 3) := by decide +kernel
theorem dX8_move_5 : decode cX8_move 5 = .ok (.ifCond .ne 10, 3) := by decide +kernel
theorem dX8_move_8 : decode cX8_move 8 = .ok (.aload_n 0, 1) := by decide +kernel
theorem dX8_move_9 : decode cX8_move 9 = .ok (.ldc 68, 2) := by decide +kernel
theorem dX8_move_11 : decode cX8_move 11 = .ok (.invokevirtual 69, 3) := by decide +kernel
theorem dX8_move_14 : decode cX8_move 14 = .ok (.ireturn, 1) := by decide +kernel
theorem dX8_move_15 : decode cX8_move 15 = .ok (.iconst 0, 1) := by decide +kernel
theorem dX8_move_16 : decode cX8_move 16 = .ok (.istore_n 3, 1) := by decide +kernel
theorem dX8_move_17 : decode cX8_move 17 = .ok (.iload_n 3, 1) := by decide +kernel
theorem dX8_move_18 : decode cX8_move 18 = .ok (.iconst 2, 1) := by decide +kernel
theorem dX8_move_19 : decode cX8_move 19 = .ok (.if_icmp .ge 114, 3) := by decide +kernel
theorem dX8_move_22 : decode cX8_move 22 = .ok (.iload_n 3, 1) := by decide +kernel
theorem dX8_move_23 : decode cX8_move 23 = .ok (.iconst 1, 1) := by decide +kernel
theorem dX8_move_24 : decode cX8_move 24 = .ok (.if_icmp .ne 7, 3) := by decide +kernel
theorem dX8_move_27 : decode cX8_move 27 = .ok (.iconst 1, 1) := by decide +kernel
theorem dX8_move_28 : decode cX8_move 28 = .ok (.goto 4, 3) := by decide +kernel
theorem dX8_move_31 : decode cX8_move 31 = .ok (.iconst 0, 1) := by decide +kernel
theorem dX8_move_32 : decode cX8_move 32 = .ok (.istore 4, 2) := by decide +kernel
theorem dX8_move_34 : decode cX8_move 34 = .ok (.iconst 3, 1) := by decide +kernel
theorem dX8_move_35 : decode cX8_move 35 = .ok (.istore 5, 2) := by decide +kernel
theorem dX8_move_37 : decode cX8_move 37 = .ok (.iload 5, 2) := by decide +kernel
theorem dX8_move_39 : decode cX8_move 39 = .ok (.bipush 6, 2) := by decide +kernel
theorem dX8_move_41 : decode cX8_move 41 = .ok (.if_icmp .ge 29, 3) := by decide +kernel
theorem dX8_move_44 : decode cX8_move 44 = .ok (.aload_n 0, 1) := by decide +kernel
theorem dX8_move_45 : decode cX8_move 45 = .ok (.getfield 35, 3) := by decide +kernel
theorem dX8_move_48 : decode cX8_move 48 = .ok (.bipush 6, 2) := by decide +kernel
theorem dX8_move_50 : decode cX8_move 50 = .ok (.iload_n 3, 1) := by decide +kernel
theorem dX8_move_51 : decode cX8_move 51 = .ok (.imul, 1) := by decide +kernel
theorem dX8_move_52 : decode cX8_move 52 = .ok (.iload 5, 2) := by decide +kernel
theorem dX8_move_54 : decode cX8_move 54 = .ok (.iadd, 1) := by decide +kernel
theorem dX8_move_55 : decode cX8_move 55 = .ok (.aload_n 0, 1) := by decide +kernel
theorem dX8_move_56 : decode cX8_move 56 = .ok (.iload 4, 2) := by decide +kernel
theorem dX8_move_58 : decode cX8_move 58 = .ok (.iload 5, 2) := by decide +kernel
theorem dX8_move_60 : decode cX8_move 60 = .ok (.invokevirtual 76, 3) := by decide +kernel
theorem dX8_move_63 : decode cX8_move 63 = .ok (.iastore, 1) := by decide +kernel
theorem dX8_move_64 : decode cX8_move 64 = .ok (.iinc 5 1, 3) := by decide +kernel
theorem dX8_move_67 : decode cX8_move 67 = .ok (.goto (-30), 3) := by decide +kernel
theorem dX8_move_70 : decode cX8_move 70 = .ok (.aload_n 0, 1) := by decide +kernel
theorem dX8_move_71 : decode cX8_move 71 = .ok (.getfield 35, 3) := by decide +kernel
theorem dX8_move_74 : decode cX8_move 74 = .ok (.bipush 6, 2) := by decide +kernel
theorem dX8_move_76 : decode cX8_move 76 = .ok (.iload_n 3, 1) := by decide +kernel
theorem dX8_move_77 : decode cX8_move 77 = .ok (.imul, 1) := by decide +kernel
theorem dX8_move_78 : decode cX8_move 78 = .ok (.aload_n 0, 1) := by decide +kernel
theorem dX8_move_79 : decode cX8_move 79 = .ok (.iload_n 1, 1) := by decide +kernel
theorem dX8_move_80 : decode cX8_move 80 = .ok (.iload_n 2, 1) := by decide +kernel
theorem dX8_move_81 : decode cX8_move 81 = .ok (.iload 4, 2) := by decide +kernel
theorem dX8_move_83 : decode cX8_move 83 = .ok (.invokevirtual 84, 3) := by decide +kernel
theorem dX8_move_86 : decode cX8_move 86 = .ok (.iastore, 1) := by decide +kernel
theorem dX8_move_87 : decode cX8_move 87 = .ok (.aload_n 0, 1) := by decide +kernel
theorem dX8_move_88 : decode cX8_move 88 = .ok (.getfield 35, 3) := by decide +kernel
theorem dX8_move_91 : decode cX8_move 91 = .ok (.bipush 6, 2) := by decide +kernel
theorem dX8_move_93 : decode cX8_move 93 = .ok (.iload_n 3, 1) := by decide +kernel
theorem dX8_move_94 : decode cX8_move 94 = .ok (.imul, 1) := by decide +kernel
theorem dX8_move_95 : decode cX8_move 95 = .ok (.iconst 1, 1) := by decide +kernel
theorem dX8_move_96 : decode cX8_move 96 = .ok (.iadd, 1) := by decide +kernel
theorem dX8_move_97 : decode cX8_move 97 = .ok (.aload_n 0, 1) := by decide +kernel
theorem dX8_move_98 : decode cX8_move 98 = .ok (.iload_n 1, 1) := by decide +kernel
theorem dX8_move_99 : decode cX8_move 99 = .ok (.iload_n 2, 1) := by decide +kernel
theorem dX8_move_100 : decode cX8_move 100 = .ok (.iload 4, 2) := by decide +kernel
theorem dX8_move_102 : decode cX8_move 102 = .ok (.iconst 0, 1) := by decide +kernel
theorem dX8_move_103 : decode cX8_move 103 = .ok (.invokevirtual 88, 3) := by decide +kernel
theorem dX8_move_106 : decode cX8_move 106 = .ok (.iastore, 1) := by decide +kernel
theorem dX8_move_107 : decode cX8_move 107 = .ok (.aload_n 0, 1) := by decide +kernel
theorem dX8_move_108 : decode cX8_move 108 = .ok (.getfield 35, 3) := by decide +kernel
theorem dX8_move_111 : decode cX8_move 111 = .ok (.bipush 6, 2) := by decide +kernel
theorem dX8_move_113 : decode cX8_move 113 = .ok (.iload_n 3, 1) := by decide +kernel
theorem dX8_move_114 : decode cX8_move 114 = .ok (.imul, 1) := by decide +kernel
theorem dX8_move_115 : decode cX8_move 115 = .ok (.iconst 2, 1) := by decide +kernel
theorem dX8_move_116 : decode cX8_move 116 = .ok (.iadd, 1) := by decide +kernel
theorem dX8_move_117 : decode cX8_move 117 = .ok (.aload_n 0, 1) := by decide +kernel
theorem dX8_move_118 : decode cX8_move 118 = .ok (.iload_n 1, 1) := by decide +kernel
theorem dX8_move_119 : decode cX8_move 119 = .ok (.iload_n 2, 1) := by decide +kernel
theorem dX8_move_120 : decode cX8_move 120 = .ok (.iload 4, 2) := by decide +kernel
theorem dX8_move_122 : decode cX8_move 122 = .ok (.iconst 1, 1) := by decide +kernel
theorem dX8_move_123 : decode cX8_move 123 = .ok (.invokevirtual 88, 3) := by decide +kernel
theorem dX8_move_126 : decode cX8_move 126 = .ok (.iastore, 1) := by decide +kernel
theorem dX8_move_127 : decode cX8_move 127 = .ok (.iinc 3 1, 3) := by decide +kernel
theorem dX8_move_130 : decode cX8_move 130 = .ok (.goto (-113), 3) := by decide +kernel
theorem dX8_move_133 : decode cX8_move 133 = .ok (.aload_n 0, 1) := by decide +kernel
theorem dX8_move_134 : decode cX8_move 134 = .ok (.invokevirtual 95, 3) := by decide +kernel
theorem dX8_move_137 : decode cX8_move 137 = .ok (.ifCond .ne 10, 3) := by decide +kernel
theorem dX8_move_140 : decode cX8_move 140 = .ok (.aload_n 0, 1) := by decide +kernel
theorem dX8_move_141 : decode cX8_move 141 = .ok (.ldc 99, 2) := by decide +kernel
theorem dX8_move_143 : decode cX8_move 143 = .ok (.invokevirtual 69, 3) := by decide +kernel
theorem dX8_move_146 : decode cX8_move 146 = .ok (.ireturn, 1) := by decide +kernel
theorem dX8_move_147 : decode cX8_move 147 = .ok (.aload_n 0, 1) := by decide +kernel
theorem dX8_move_148 : decode cX8_move 148 = .ok (.invokevirtual 73, 3) := by decide +kernel
theorem dX8_move_151 : decode cX8_move 151 = .ok (.aload_n 0, 1) := by decide +kernel
theorem dX8_move_152 : decode cX8_move 152 = .ok (.invokevirtual 92, 3) := by decide +kernel
theorem dX8_move_155 : decode cX8_move 155 = .ok (.iconst 1, 1) := by decide +kernel
theorem dX8_move_156 : decode cX8_move 156 = .ok (.ireturn, 1) := by decide +kernel
set_option maxRecDepth 20000 in
theorem ggX8_add_X8_in : GoodIn wsX8_add wsX8_in := goodIn_r _ [11] (by decide +kernel) (by decide +kernel)
set_option maxRecDepth 20000 in
theorem gX8_add_X8_in : GoodIn wsX8_add (va_wsS RX8 61 yX8_in wsX8_in) := goodIn_app (goodIn_of _ (by decide +kernel)) ggX8_add_X8_in
set_option maxRecDepth 20000 in
theorem ggX8_add_X8_found : GoodIn wsX8_add wsX8_found := goodIn_r _ [15, 16, 31, 32, 33, 34, 35, 36, 37, 38, 39, 40, 41, 42, 43, 44, 45, 46, 47, 48, 49, 50, 51, 52, 53] (by decide +kernel) (by decide +kernel)
set_option maxRecDepth 20000 in
theorem gX8_add_X8_found : GoodIn wsX8_add (wsV RX8 69 RX8 yX8_found wsX8_found) := goodIn_app (goodIn_of _ (by decide +kernel)) ggX8_add_X8_found
set_option maxRecDepth 20000 in
theorem ggX8_add_X8_isSmall : GoodIn wsX8_add wsX8_isSmall := goodIn_r _ [20, 4, 8, 9, 10, 11, 31, 32, 33, 34, 35, 36, 37, 38, 39, 40, 41, 42, 43, 44, 45, 46, 47, 48, 49, 50, 51, 52, 53] (by decide +kernel) (by decide +kernel)
set_option maxRecDepth 20000 in
theorem gX8_add_X8_isSmall : GoodIn wsX8_add (wsV RX8 95 RX8 yX8_isSmall wsX8_isSmall) := goodIn_app (goodIn_of _ (by decide +kernel)) ggX8_add_X8_isSmall
set_option maxRecDepth 20000 in
theorem ggX8_add_X8_remember : GoodIn wsX8_add wsX8_remember := goodIn_r _ [24, 25, 26, 5, 31, 32, 33, 34, 35, 36, 37, 38, 39, 40, 41, 42, 43, 44, 45, 46, 47, 48, 49, 50, 51, 52, 53] (by decide +kernel) (by decide +kernel)
set_option maxRecDepth 20000 in
theorem gX8_add_X8_remember : GoodIn wsX8_add (wsV RX8 73 RX8 yX8_remember wsX8_remember) := goodIn_app (goodIn_of _ (by decide +kernel)) ggX8_add_X8_remember
set_option maxRecDepth 20000 in
theorem ggX8_add_X8_take : GoodIn wsX8_add wsX8_take := goodIn_r _ [30, 5, 4, 31, 32, 33, 34, 35, 36, 37, 38, 39, 40, 41, 42, 43, 44, 45, 46, 47, 48, 49, 50, 51, 52, 53] (by decide +kernel) (by decide +kernel)
set_option maxRecDepth 20000 in
theorem gX8_add_X8_take : GoodIn wsX8_add (wsV RX8 92 RX8 yX8_take wsX8_take) := goodIn_app (goodIn_of _ (by decide +kernel)) ggX8_add_X8_take
theorem dX8_add_0 : decode cX8_add 0 = .ok (.iload_n 1, 1) := by decide +kernel
theorem dX8_add_1 : decode cX8_add 1 = .ok (.iconst 0, 1) := by decide +kernel
theorem dX8_add_2 : decode cX8_add 2 = .ok (.iconst 3, 1) := by decide +kernel
theorem dX8_add_3 : decode cX8_add 3 = .ok (.invokestatic 61, 3) := by decide +kernel
theorem dX8_add_6 : decode cX8_add 6 = .ok (.ifCond .eq 13, 3) := by decide +kernel
theorem dX8_add_9 : decode cX8_add 9 = .ok (.iload_n 2, 1) := by decide +kernel
theorem dX8_add_10 : decode cX8_add 10 = .ok (.bipush (-4), 2) := by decide +kernel
theorem dX8_add_12 : decode cX8_add 12 = .ok (.iconst 4, 1) := by decide +kernel
theorem dX8_add_13 : decode cX8_add 13 = .ok (.invokestatic 61, 3) := by decide +kernel
theorem dX8_add_16 : decode cX8_add 16 = .ok (.ifCond .ne 10, 3) := by decide +kernel
theorem dX8_add_19 : decode cX8_add 19 = .ok (.aload_n 0, 1) := by decide +kernel
theorem dX8_add_20 : decode cX8_add 20 = .ok (.ldc 68, 2) := by decide +kernel
theorem dX8_add_22 : decode cX8_add 22 = .ok (.invokevirtual 69, 3) := by decide +kernel
theorem dX8_add_25 : decode cX8_add 25 = .ok (.ireturn, 1) := by decide +kernel
theorem dX8_add_26 : decode cX8_add 26 = .ok (.aload_n 0, 1) := by decide +kernel
theorem dX8_add_27 : decode cX8_add 27 = .ok (.getfield 22, 3) := by decide +kernel
theorem dX8_add_30 : decode cX8_add 30 = .ok (.iload_n 1, 1) := by decide +kernel
theorem dX8_add_31 : decode cX8_add 31 = .ok (.baload, 1) := by decide +kernel
theorem dX8_add_32 : decode cX8_add 32 = .ok (.ifCond .ne 10, 3) := by decide +kernel
theorem dX8_add_35 : decode cX8_add 35 = .ok (.aload_n 0, 1) := by decide +kernel
theorem dX8_add_36 : decode cX8_add 36 = .ok (.ldc 100, 2) := by decide +kernel
theorem dX8_add_38 : decode cX8_add 38 = .ok (.invokevirtual 69, 3) := by decide +kernel
theorem dX8_add_41 : decode cX8_add 41 = .ok (.ireturn, 1) := by decide +kernel
theorem dX8_add_42 : decode cX8_add 42 = .ok (.iconst 0, 1) := by decide +kernel
theorem dX8_add_43 : decode cX8_add 43 = .ok (.istore_n 3, 1) := by decide +kernel
theorem dX8_add_44 : decode cX8_add 44 = .ok (.iload_n 3, 1) := by decide +kernel
theorem dX8_add_45 : decode cX8_add 45 = .ok (.bipush 12, 2) := by decide +kernel
theorem dX8_add_47 : decode cX8_add 47 = .ok (.if_icmp .ge 35, 3) := by decide +kernel
theorem dX8_add_50 : decode cX8_add 50 = .ok (.aload_n 0, 1) := by decide +kernel
theorem dX8_add_51 : decode cX8_add 51 = .ok (.getfield 35, 3) := by decide +kernel
theorem dX8_add_54 : decode cX8_add 54 = .ok (.iload_n 3, 1) := by decide +kernel
theorem dX8_add_55 : decode cX8_add 55 = .ok (.aload_n 0, 1) := by decide +kernel
theorem dX8_add_56 : decode cX8_add 56 = .ok (.getfield 7, 3) := by decide +kernel
theorem dX8_add_59 : decode cX8_add 59 = .ok (.iload_n 3, 1) := by decide +kernel
theorem dX8_add_60 : decode cX8_add 60 = .ok (.iaload, 1) := by decide +kernel
theorem dX8_add_61 : decode cX8_add 61 = .ok (.iload_n 2, 1) := by decide +kernel
theorem dX8_add_62 : decode cX8_add 62 = .ok (.aload_n 0, 1) := by decide +kernel
theorem dX8_add_63 : decode cX8_add 63 = .ok (.getfield 16, 3) := by decide +kernel
theorem dX8_add_66 : decode cX8_add 66 = .ok (.bipush 12, 2) := by decide +kernel
theorem dX8_add_68 : decode cX8_add 68 = .ok (.iload_n 1, 1) := by decide +kernel
theorem dX8_add_69 : decode cX8_add 69 = .ok (.imul, 1) := by decide +kernel
theorem dX8_add_70 : decode cX8_add 70 = .ok (.iload_n 3, 1) := by decide +kernel
theorem dX8_add_71 : decode cX8_add 71 = .ok (.iadd, 1) := by decide +kernel
theorem dX8_add_72 : decode cX8_add 72 = .ok (.iaload, 1) := by decide +kernel
theorem dX8_add_73 : decode cX8_add 73 = .ok (.imul, 1) := by decide +kernel
theorem dX8_add_74 : decode cX8_add 74 = .ok (.iadd, 1) := by decide +kernel
theorem dX8_add_75 : decode cX8_add 75 = .ok (.iastore, 1) := by decide +kernel
theorem dX8_add_76 : decode cX8_add 76 = .ok (.iinc 3 1, 3) := by decide +kernel
theorem dX8_add_79 : decode cX8_add 79 = .ok (.goto (-35), 3) := by decide +kernel
theorem dX8_add_82 : decode cX8_add 82 = .ok (.aload_n 0, 1) := by decide +kernel
theorem dX8_add_83 : decode cX8_add 83 = .ok (.invokevirtual 95, 3) := by decide +kernel
theorem dX8_add_86 : decode cX8_add 86 = .ok (.ifCond .ne 10, 3) := by decide +kernel
theorem dX8_add_89 : decode cX8_add 89 = .ok (.aload_n 0, 1) := by decide +kernel
theorem dX8_add_90 : decode cX8_add 90 = .ok (.ldc 99, 2) := by decide +kernel
theorem dX8_add_92 : decode cX8_add 92 = .ok (.invokevirtual 69, 3) := by decide +kernel
theorem dX8_add_95 : decode cX8_add 95 = .ok (.ireturn, 1) := by decide +kernel
theorem dX8_add_96 : decode cX8_add 96 = .ok (.aload_n 0, 1) := by decide +kernel
theorem dX8_add_97 : decode cX8_add 97 = .ok (.invokevirtual 73, 3) := by decide +kernel
theorem dX8_add_100 : decode cX8_add 100 = .ok (.aload_n 0, 1) := by decide +kernel
theorem dX8_add_101 : decode cX8_add 101 = .ok (.invokevirtual 92, 3) := by decide +kernel
theorem dX8_add_104 : decode cX8_add 104 = .ok (.iconst 1, 1) := by decide +kernel
theorem dX8_add_105 : decode cX8_add 105 = .ok (.ireturn, 1) := by decide +kernel
set_option maxRecDepth 20000 in
theorem ggX8_isRest_X8_speedAt : GoodIn wsX8_isRest wsX8_speedAt := goodIn_r _ [5, 6, 7, 8, 4, 9, 10, 11, 12, 13, 14, 15, 16, 17, 18, 19, 20, 21, 22, 23, 24, 25, 26, 27, 28, 29, 30, 31, 32, 33] (by decide +kernel) (by decide +kernel)
set_option maxRecDepth 20000 in
theorem gX8_isRest_X8_speedAt : GoodIn wsX8_isRest (wsV RX8 84 RX8 yX8_speedAt wsX8_speedAt) := goodIn_app (goodIn_of _ (by decide +kernel)) ggX8_isRest_X8_speedAt
theorem dX8_isRest_0 : decode cX8_isRest 0 = .ok (.aload_n 0, 1) := by decide +kernel
theorem dX8_isRest_1 : decode cX8_isRest 1 = .ok (.iload_n 1, 1) := by decide +kernel
theorem dX8_isRest_2 : decode cX8_isRest 2 = .ok (.iload_n 2, 1) := by decide +kernel
theorem dX8_isRest_3 : decode cX8_isRest 3 = .ok (.iconst 0, 1) := by decide +kernel
theorem dX8_isRest_4 : decode cX8_isRest 4 = .ok (.invokevirtual 84, 3) := by decide +kernel
theorem dX8_isRest_7 : decode cX8_isRest 7 = .ok (.ifCond .ne 17, 3) := by decide +kernel
theorem dX8_isRest_10 : decode cX8_isRest 10 = .ok (.aload_n 0, 1) := by decide +kernel
theorem dX8_isRest_11 : decode cX8_isRest 11 = .ok (.iload_n 1, 1) := by decide +kernel
theorem dX8_isRest_12 : decode cX8_isRest 12 = .ok (.iload_n 2, 1) := by decide +kernel
theorem dX8_isRest_13 : decode cX8_isRest 13 = .ok (.iconst 1, 1) := by decide +kernel
theorem dX8_isRest_14 : decode cX8_isRest 14 = .ok (.invokevirtual 84, 3) := by decide +kernel
theorem dX8_isRest_17 : decode cX8_isRest 17 = .ok (.ifCond .ne 7, 3) := by decide +kernel
theorem dX8_isRest_20 : decode cX8_isRest 20 = .ok (.iconst 1, 1) := by decide +kernel
theorem dX8_isRest_21 : decode cX8_isRest 21 = .ok (.goto 4, 3) := by decide +kernel
theorem dX8_isRest_24 : decode cX8_isRest 24 = .ok (.iconst 0, 1) := by decide +kernel
theorem dX8_isRest_25 : decode cX8_isRest 25 = .ok (.ireturn, 1) := by decide +kernel
set_option maxRecDepth 20000 in
theorem ggX8_rests_X8_isRest : GoodIn wsX8_rests wsX8_isRest := goodIn_r _ [5, 6, 7, 8, 4, 9, 10, 11, 12, 13, 14, 15, 16, 17, 18, 19, 20, 21, 22, 23, 24, 25, 26, 27, 28, 29, 30, 31, 32, 33, 34, 35, 36, 37] (by decide +kernel) (by decide +kernel)
set_option maxRecDepth 20000 in
theorem gX8_rests_X8_isRest : GoodIn wsX8_rests (wsV RX8 101 RX8 yX8_isRest wsX8_isRest) := goodIn_app (goodIn_of _ (by decide +kernel)) ggX8_rests_X8_isRest
theorem dX8_rests_0 : decode cX8_rests 0 = .ok (.iconst 0, 1) := by decide +kernel
theorem dX8_rests_1 : decode cX8_rests 1 = .ok (.istore_n 1, 1) := by decide +kernel
theorem dX8_rests_2 : decode cX8_rests 2 = .ok (.bipush (-6), 2) := by decide +kernel
theorem dX8_rests_4 : decode cX8_rests 4 = .ok (.istore_n 2, 1) := by decide +kernel
theorem dX8_rests_5 : decode cX8_rests 5 = .ok (.iload_n 2, 1) := by decide +kernel
theorem dX8_rests_6 : decode cX8_rests 6 = .ok (.bipush 6, 2) := by decide +kernel
theorem dX8_rests_8 : decode cX8_rests 8 = .ok (.if_icmp .gt 41, 3) := by decide +kernel
theorem dX8_rests_11 : decode cX8_rests 11 = .ok (.bipush (-6), 2) := by decide +kernel
theorem dX8_rests_13 : decode cX8_rests 13 = .ok (.istore_n 3, 1) := by decide +kernel
theorem dX8_rests_14 : decode cX8_rests 14 = .ok (.iload_n 3, 1) := by decide +kernel
theorem dX8_rests_15 : decode cX8_rests 15 = .ok (.bipush 6, 2) := by decide +kernel
theorem dX8_rests_17 : decode cX8_rests 17 = .ok (.if_icmp .gt 26, 3) := by decide +kernel
theorem dX8_rests_20 : decode cX8_rests 20 = .ok (.iload_n 1, 1) := by decide +kernel
theorem dX8_rests_21 : decode cX8_rests 21 = .ok (.aload_n 0, 1) := by decide +kernel
theorem dX8_rests_22 : decode cX8_rests 22 = .ok (.iload_n 2, 1) := by decide +kernel
theorem dX8_rests_23 : decode cX8_rests 23 = .ok (.iload_n 3, 1) := by decide +kernel
theorem dX8_rests_24 : decode cX8_rests 24 = .ok (.invokevirtual 101, 3) := by decide +kernel
theorem dX8_rests_27 : decode cX8_rests 27 = .ok (.ifCond .eq 7, 3) := by decide +kernel
theorem dX8_rests_30 : decode cX8_rests 30 = .ok (.iconst 1, 1) := by decide +kernel
theorem dX8_rests_31 : decode cX8_rests 31 = .ok (.goto 4, 3) := by decide +kernel
theorem dX8_rests_34 : decode cX8_rests 34 = .ok (.iconst 0, 1) := by decide +kernel
theorem dX8_rests_35 : decode cX8_rests 35 = .ok (.iadd, 1) := by decide +kernel
theorem dX8_rests_36 : decode cX8_rests 36 = .ok (.istore_n 1, 1) := by decide +kernel
theorem dX8_rests_37 : decode cX8_rests 37 = .ok (.iinc 3 1, 3) := by decide +kernel
theorem dX8_rests_40 : decode cX8_rests 40 = .ok (.goto (-26), 3) := by decide +kernel
theorem dX8_rests_43 : decode cX8_rests 43 = .ok (.iinc 2 1, 3) := by decide +kernel
theorem dX8_rests_46 : decode cX8_rests 46 = .ok (.goto (-41), 3) := by decide +kernel
theorem dX8_rests_49 : decode cX8_rests 49 = .ok (.iload_n 1, 1) := by decide +kernel
theorem dX8_rests_50 : decode cX8_rests 50 = .ok (.ireturn, 1) := by decide +kernel
set_option maxRecDepth 20000 in
theorem ggX8_rest_X8_isRest : GoodIn wsX8_rest wsX8_isRest := goodIn_r _ [6, 7, 8, 9, 5, 10, 11, 12, 13, 14, 15, 21, 22, 23, 24, 25, 26, 27, 28, 29, 30, 31, 32, 33, 34, 35, 36, 37, 38, 39, 40, 41, 42, 43] (by decide +kernel) (by decide +kernel)
set_option maxRecDepth 20000 in
theorem gX8_rest_X8_isRest : GoodIn wsX8_rest (wsV RX8 101 RX8 yX8_isRest wsX8_isRest) := goodIn_app (goodIn_of _ (by decide +kernel)) ggX8_rest_X8_isRest
set_option maxRecDepth 20000 in
theorem ggX8_rest_X8_found : GoodIn wsX8_rest wsX8_found := goodIn_r _ [19, 20, 21, 22, 23, 24, 25, 26, 27, 28, 29, 30, 31, 32, 33, 34, 35, 36, 37, 38, 39, 40, 41, 42, 43] (by decide +kernel) (by decide +kernel)
set_option maxRecDepth 20000 in
theorem gX8_rest_X8_found : GoodIn wsX8_rest (wsV RX8 69 RX8 yX8_found wsX8_found) := goodIn_app (goodIn_of _ (by decide +kernel)) ggX8_rest_X8_found
theorem dX8_rest_0 : decode cX8_rest 0 = .ok (.iload_n 1, 1) := by decide +kernel
theorem dX8_rest_1 : decode cX8_rest 1 = .ok (.istore_n 3, 1) := by decide +kernel
theorem dX8_rest_2 : decode cX8_rest 2 = .ok (.bipush (-6), 2) := by decide +kernel
theorem dX8_rest_4 : decode cX8_rest 4 = .ok (.istore 4, 2) := by decide +kernel
theorem dX8_rest_6 : decode cX8_rest 6 = .ok (.iload 4, 2) := by decide +kernel
theorem dX8_rest_8 : decode cX8_rest 8 = .ok (.bipush 6, 2) := by decide +kernel
theorem dX8_rest_10 : decode cX8_rest 10 = .ok (.if_icmp .gt 59, 3) := by decide +kernel
theorem dX8_rest_13 : decode cX8_rest 13 = .ok (.bipush (-6), 2) := by decide +kernel
theorem dX8_rest_15 : decode cX8_rest 15 = .ok (.istore 5, 2) := by decide +kernel
theorem dX8_rest_17 : decode cX8_rest 17 = .ok (.iload 5, 2) := by decide +kernel
theorem dX8_rest_19 : decode cX8_rest 19 = .ok (.bipush 6, 2) := by decide +kernel
theorem dX8_rest_21 : decode cX8_rest 21 = .ok (.if_icmp .gt 42, 3) := by decide +kernel
theorem dX8_rest_24 : decode cX8_rest 24 = .ok (.aload_n 0, 1) := by decide +kernel
theorem dX8_rest_25 : decode cX8_rest 25 = .ok (.iload 4, 2) := by decide +kernel
theorem dX8_rest_27 : decode cX8_rest 27 = .ok (.iload 5, 2) := by decide +kernel
theorem dX8_rest_29 : decode cX8_rest 29 = .ok (.invokevirtual 101, 3) := by decide +kernel
theorem dX8_rest_32 : decode cX8_rest 32 = .ok (.ifCond .ne 6, 3) := by decide +kernel
theorem dX8_rest_35 : decode cX8_rest 35 = .ok (.goto 22, 3) := by decide +kernel
theorem dX8_rest_38 : decode cX8_rest 38 = .ok (.iload_n 3, 1) := by decide +kernel
theorem dX8_rest_39 : decode cX8_rest 39 = .ok (.ifCond .ne 15, 3) := by decide +kernel
theorem dX8_rest_42 : decode cX8_rest 42 = .ok (.iload_n 2, 1) := by decide +kernel
theorem dX8_rest_43 : decode cX8_rest 43 = .ok (.ifCond .eq 8, 3) := by decide +kernel
theorem dX8_rest_46 : decode cX8_rest 46 = .ok (.iload 5, 2) := by decide +kernel
theorem dX8_rest_48 : decode cX8_rest 48 = .ok (.goto 5, 3) := by decide +kernel
theorem dX8_rest_51 : decode cX8_rest 51 = .ok (.iload 4, 2) := by decide +kernel
theorem dX8_rest_53 : decode cX8_rest 53 = .ok (.ireturn, 1) := by decide +kernel
theorem dX8_rest_54 : decode cX8_rest 54 = .ok (.iinc 3 (-1), 3) := by decide +kernel
theorem dX8_rest_57 : decode cX8_rest 57 = .ok (.iinc 5 1, 3) := by decide +kernel
theorem dX8_rest_60 : decode cX8_rest 60 = .ok (.goto (-43), 3) := by decide +kernel
theorem dX8_rest_63 : decode cX8_rest 63 = .ok (.iinc 4 1, 3) := by decide +kernel
theorem dX8_rest_66 : decode cX8_rest 66 = .ok (.goto (-60), 3) := by decide +kernel
theorem dX8_rest_69 : decode cX8_rest 69 = .ok (.aload_n 0, 1) := by decide +kernel
theorem dX8_rest_70 : decode cX8_rest 70 = .ok (.ldc 100, 2) := by decide +kernel
theorem dX8_rest_72 : decode cX8_rest 72 = .ok (.invokevirtual 69, 3) := by decide +kernel
theorem dX8_rest_75 : decode cX8_rest 75 = .ok (.ireturn, 1) := by decide +kernel
set_option maxRecDepth 20000 in
theorem ggX8_sortAt_X8_slopeAt : GoodIn wsX8_sortAt wsX8_slopeAt := goodIn_r _ [5, 6, 7, 8, 4, 9, 10, 11, 12, 13, 14, 15, 16, 17, 18, 19, 20, 21, 22, 23, 24, 25, 26, 27, 28, 29, 30, 31, 32, 33] (by decide +kernel) (by decide +kernel)
set_option maxRecDepth 20000 in
theorem gX8_sortAt_X8_slopeAt : GoodIn wsX8_sortAt (wsV RX8 88 RX8 yX8_slopeAt wsX8_slopeAt) := goodIn_app (goodIn_of _ (by decide +kernel)) ggX8_sortAt_X8_slopeAt
theorem dX8_sortAt_0 : decode cX8_sortAt 0 = .ok (.aload_n 0, 1) := by decide +kernel
theorem dX8_sortAt_1 : decode cX8_sortAt 1 = .ok (.iload_n 1, 1) := by decide +kernel
theorem dX8_sortAt_2 : decode cX8_sortAt 2 = .ok (.iload_n 2, 1) := by decide +kernel
theorem dX8_sortAt_3 : decode cX8_sortAt 3 = .ok (.iconst 0, 1) := by decide +kernel
theorem dX8_sortAt_4 : decode cX8_sortAt 4 = .ok (.iconst 0, 1) := by decide +kernel
theorem dX8_sortAt_5 : decode cX8_sortAt 5 = .ok (.invokevirtual 88, 3) := by decide +kernel
theorem dX8_sortAt_8 : decode cX8_sortAt 8 = .ok (.istore_n 3, 1) := by decide +kernel
theorem dX8_sortAt_9 : decode cX8_sortAt 9 = .ok (.aload_n 0, 1) := by decide +kernel
theorem dX8_sortAt_10 : decode cX8_sortAt 10 = .ok (.iload_n 1, 1) := by decide +kernel
theorem dX8_sortAt_11 : decode cX8_sortAt 11 = .ok (.iload_n 2, 1) := by decide +kernel
theorem dX8_sortAt_12 : decode cX8_sortAt 12 = .ok (.iconst 1, 1) := by decide +kernel
theorem dX8_sortAt_13 : decode cX8_sortAt 13 = .ok (.iconst 1, 1) := by decide +kernel
theorem dX8_sortAt_14 : decode cX8_sortAt 14 = .ok (.invokevirtual 88, 3) := by decide +kernel
theorem dX8_sortAt_17 : decode cX8_sortAt 17 = .ok (.istore 4, 2) := by decide +kernel
theorem dX8_sortAt_19 : decode cX8_sortAt 19 = .ok (.iload_n 3, 1) := by decide +kernel
theorem dX8_sortAt_20 : decode cX8_sortAt 20 = .ok (.iload 4, 2) := by decide +kernel
theorem dX8_sortAt_22 : decode cX8_sortAt 22 = .ok (.imul, 1) := by decide +kernel
theorem dX8_sortAt_23 : decode cX8_sortAt 23 = .ok (.aload_n 0, 1) := by decide +kernel
theorem dX8_sortAt_24 : decode cX8_sortAt 24 = .ok (.iload_n 1, 1) := by decide +kernel
theorem dX8_sortAt_25 : decode cX8_sortAt 25 = .ok (.iload_n 2, 1) := by decide +kernel
theorem dX8_sortAt_26 : decode cX8_sortAt 26 = .ok (.iconst 0, 1) := by decide +kernel
theorem dX8_sortAt_27 : decode cX8_sortAt 27 = .ok (.iconst 1, 1) := by decide +kernel
theorem dX8_sortAt_28 : decode cX8_sortAt 28 = .ok (.invokevirtual 88, 3) := by decide +kernel
theorem dX8_sortAt_31 : decode cX8_sortAt 31 = .ok (.aload_n 0, 1) := by decide +kernel
theorem dX8_sortAt_32 : decode cX8_sortAt 32 = .ok (.iload_n 1, 1) := by decide +kernel
theorem dX8_sortAt_33 : decode cX8_sortAt 33 = .ok (.iload_n 2, 1) := by decide +kernel
theorem dX8_sortAt_34 : decode cX8_sortAt 34 = .ok (.iconst 1, 1) := by decide +kernel
theorem dX8_sortAt_35 : decode cX8_sortAt 35 = .ok (.iconst 0, 1) := by decide +kernel
theorem dX8_sortAt_36 : decode cX8_sortAt 36 = .ok (.invokevirtual 88, 3) := by decide +kernel
theorem dX8_sortAt_39 : decode cX8_sortAt 39 = .ok (.imul, 1) := by decide +kernel
theorem dX8_sortAt_40 : decode cX8_sortAt 40 = .ok (.isub, 1) := by decide +kernel
theorem dX8_sortAt_41 : decode cX8_sortAt 41 = .ok (.istore 5, 2) := by decide +kernel
theorem dX8_sortAt_43 : decode cX8_sortAt 43 = .ok (.iload_n 3, 1) := by decide +kernel
theorem dX8_sortAt_44 : decode cX8_sortAt 44 = .ok (.iload 4, 2) := by decide +kernel
theorem dX8_sortAt_46 : decode cX8_sortAt 46 = .ok (.iadd, 1) := by decide +kernel
theorem dX8_sortAt_47 : decode cX8_sortAt 47 = .ok (.istore 6, 2) := by decide +kernel
theorem dX8_sortAt_49 : decode cX8_sortAt 49 = .ok (.iload 5, 2) := by decide +kernel
theorem dX8_sortAt_51 : decode cX8_sortAt 51 = .ok (.ifCond .ge 7, 3) := by decide +kernel
theorem dX8_sortAt_54 : decode cX8_sortAt 54 = .ok (.iconst 1, 1) := by decide +kernel
theorem dX8_sortAt_55 : decode cX8_sortAt 55 = .ok (.goto 38, 3) := by decide +kernel
theorem dX8_sortAt_58 : decode cX8_sortAt 58 = .ok (.iload 5, 2) := by decide +kernel
theorem dX8_sortAt_60 : decode cX8_sortAt 60 = .ok (.ifCond .ne 7, 3) := by decide +kernel
theorem dX8_sortAt_63 : decode cX8_sortAt 63 = .ok (.iconst 5, 1) := by decide +kernel
theorem dX8_sortAt_64 : decode cX8_sortAt 64 = .ok (.goto 29, 3) := by decide +kernel
theorem dX8_sortAt_67 : decode cX8_sortAt 67 = .ok (.iload 6, 2) := by decide +kernel
theorem dX8_sortAt_69 : decode cX8_sortAt 69 = .ok (.ifCond .ne 7, 3) := by decide +kernel
theorem dX8_sortAt_72 : decode cX8_sortAt 72 = .ok (.iconst 4, 1) := by decide +kernel
theorem dX8_sortAt_73 : decode cX8_sortAt 73 = .ok (.goto 20, 3) := by decide +kernel
theorem dX8_sortAt_76 : decode cX8_sortAt 76 = .ok (.iload 6, 2) := by decide +kernel
theorem dX8_sortAt_78 : decode cX8_sortAt 78 = .ok (.iload 6, 2) := by decide +kernel
theorem dX8_sortAt_80 : decode cX8_sortAt 80 = .ok (.imul, 1) := by decide +kernel
theorem dX8_sortAt_81 : decode cX8_sortAt 81 = .ok (.iconst 4, 1) := by decide +kernel
theorem dX8_sortAt_82 : decode cX8_sortAt 82 = .ok (.iload 5, 2) := by decide +kernel
theorem dX8_sortAt_84 : decode cX8_sortAt 84 = .ok (.imul, 1) := by decide +kernel
theorem dX8_sortAt_85 : decode cX8_sortAt 85 = .ok (.if_icmp .lt 7, 3) := by decide +kernel
theorem dX8_sortAt_88 : decode cX8_sortAt 88 = .ok (.iconst 2, 1) := by decide +kernel
theorem dX8_sortAt_89 : decode cX8_sortAt 89 = .ok (.goto 4, 3) := by decide +kernel
theorem dX8_sortAt_92 : decode cX8_sortAt 92 = .ok (.iconst 3, 1) := by decide +kernel
theorem dX8_sortAt_93 : decode cX8_sortAt 93 = .ok (.ireturn, 1) := by decide +kernel
set_option maxRecDepth 20000 in
theorem ggX8_sort_X8_isPlace : GoodIn wsX8_sort wsX8_isPlace := goodIn_r _ [6, 7, 8, 5, 9] (by decide +kernel) (by decide +kernel)
set_option maxRecDepth 20000 in
theorem gX8_sort_X8_isPlace : GoodIn wsX8_sort (va_wsS RX8 80 yX8_isPlace wsX8_isPlace) := goodIn_app (goodIn_of _ (by decide +kernel)) ggX8_sort_X8_isPlace
set_option maxRecDepth 20000 in
theorem ggX8_sort_X8_found : GoodIn wsX8_sort wsX8_found := goodIn_r _ [13, 14, 36, 37, 38, 39, 40, 41, 42, 43, 44, 45, 46, 47, 48, 49, 50, 51, 52, 53, 54, 55, 56, 57, 58] (by decide +kernel) (by decide +kernel)
set_option maxRecDepth 20000 in
theorem gX8_sort_X8_found : GoodIn wsX8_sort (wsV RX8 69 RX8 yX8_found wsX8_found) := goodIn_app (goodIn_of _ (by decide +kernel)) ggX8_sort_X8_found
set_option maxRecDepth 20000 in
theorem ggX8_sort_X8_isRest : GoodIn wsX8_sort wsX8_isRest := goodIn_r _ [18, 19, 20, 21, 5, 22, 23, 24, 25, 26, 27, 36, 37, 38, 39, 40, 41, 42, 43, 44, 45, 46, 47, 48, 49, 50, 51, 52, 53, 54, 55, 56, 57, 58] (by decide +kernel) (by decide +kernel)
set_option maxRecDepth 20000 in
theorem gX8_sort_X8_isRest : GoodIn wsX8_sort (wsV RX8 101 RX8 yX8_isRest wsX8_isRest) := goodIn_app (goodIn_of _ (by decide +kernel)) ggX8_sort_X8_isRest
set_option maxRecDepth 20000 in
theorem ggX8_sort_X8_sortAt : GoodIn wsX8_sort wsX8_sortAt := goodIn_r _ [31, 32, 33, 34, 5, 35, 23, 24, 25, 26, 27, 36, 37, 38, 39, 40, 41, 42, 43, 44, 45, 46, 47, 48, 49, 50, 51, 52, 53, 54, 55, 56, 57, 58] (by decide +kernel) (by decide +kernel)
set_option maxRecDepth 20000 in
theorem gX8_sort_X8_sortAt : GoodIn wsX8_sort (wsV RX8 104 RX8 yX8_sortAt wsX8_sortAt) := goodIn_app (goodIn_of _ (by decide +kernel)) ggX8_sort_X8_sortAt
theorem dX8_sort_0 : decode cX8_sort 0 = .ok (.iload_n 1, 1) := by decide +kernel
theorem dX8_sort_1 : decode cX8_sort 1 = .ok (.iload_n 2, 1) := by decide +kernel
theorem dX8_sort_2 : decode cX8_sort 2 = .ok (.invokestatic 80, 3) := by decide +kernel
theorem dX8_sort_5 : decode cX8_sort 5 = .ok (.ifCond .ne 10, 3) := by decide +kernel
theorem dX8_sort_8 : decode cX8_sort 8 = .ok (.aload_n 0, 1) := by decide +kernel
theorem dX8_sort_9 : decode cX8_sort 9 = .ok (.ldc 68, 2) := by decide +kernel
theorem dX8_sort_11 : decode cX8_sort 11 = .ok (.invokevirtual 69, 3) := by decide +kernel
theorem dX8_sort_14 : decode cX8_sort 14 = .ok (.ireturn, 1) := by decide +kernel
theorem dX8_sort_15 : decode cX8_sort 15 = .ok (.aload_n 0, 1) := by decide +kernel
theorem dX8_sort_16 : decode cX8_sort 16 = .ok (.iload_n 1, 1) := by decide +kernel
theorem dX8_sort_17 : decode cX8_sort 17 = .ok (.iload_n 2, 1) := by decide +kernel
theorem dX8_sort_18 : decode cX8_sort 18 = .ok (.invokevirtual 101, 3) := by decide +kernel
theorem dX8_sort_21 : decode cX8_sort 21 = .ok (.ifCond .eq 12, 3) := by decide +kernel
theorem dX8_sort_24 : decode cX8_sort 24 = .ok (.aload_n 0, 1) := by decide +kernel
theorem dX8_sort_25 : decode cX8_sort 25 = .ok (.iload_n 1, 1) := by decide +kernel
theorem dX8_sort_26 : decode cX8_sort 26 = .ok (.iload_n 2, 1) := by decide +kernel
theorem dX8_sort_27 : decode cX8_sort 27 = .ok (.invokevirtual 104, 3) := by decide +kernel
theorem dX8_sort_30 : decode cX8_sort 30 = .ok (.goto 9, 3) := by decide +kernel
theorem dX8_sort_33 : decode cX8_sort 33 = .ok (.aload_n 0, 1) := by decide +kernel
theorem dX8_sort_34 : decode cX8_sort 34 = .ok (.ldc 100, 2) := by decide +kernel
theorem dX8_sort_36 : decode cX8_sort 36 = .ok (.invokevirtual 69, 3) := by decide +kernel
theorem dX8_sort_39 : decode cX8_sort 39 = .ok (.ireturn, 1) := by decide +kernel
set_option maxRecDepth 20000 in
theorem ggX8_sorts_X8_in : GoodIn wsX8_sorts wsX8_in := goodIn_r _ [5] (by decide +kernel) (by decide +kernel)
set_option maxRecDepth 20000 in
theorem gX8_sorts_X8_in : GoodIn wsX8_sorts (va_wsS RX8 61 yX8_in wsX8_in) := goodIn_app (goodIn_of _ (by decide +kernel)) ggX8_sorts_X8_in
set_option maxRecDepth 20000 in
theorem ggX8_sorts_X8_found : GoodIn wsX8_sorts wsX8_found := goodIn_r _ [9, 10, 32, 33, 34, 35, 36, 37, 38, 39, 40, 41, 42, 43, 44, 45, 46, 47, 48, 49, 50, 51, 52, 53, 54] (by decide +kernel) (by decide +kernel)
set_option maxRecDepth 20000 in
theorem gX8_sorts_X8_found : GoodIn wsX8_sorts (wsV RX8 69 RX8 yX8_found wsX8_found) := goodIn_app (goodIn_of _ (by decide +kernel)) ggX8_sorts_X8_found
set_option maxRecDepth 20000 in
theorem ggX8_sorts_X8_isRest : GoodIn wsX8_sorts wsX8_isRest := goodIn_r _ [14, 15, 16, 17, 4, 18, 19, 20, 21, 22, 23, 32, 33, 34, 35, 36, 37, 38, 39, 40, 41, 42, 43, 44, 45, 46, 47, 48, 49, 50, 51, 52, 53, 54] (by decide +kernel) (by decide +kernel)
set_option maxRecDepth 20000 in
theorem gX8_sorts_X8_isRest : GoodIn wsX8_sorts (wsV RX8 101 RX8 yX8_isRest wsX8_isRest) := goodIn_app (goodIn_of _ (by decide +kernel)) ggX8_sorts_X8_isRest
set_option maxRecDepth 20000 in
theorem ggX8_sorts_X8_sortAt : GoodIn wsX8_sorts wsX8_sortAt := goodIn_r _ [27, 28, 29, 30, 4, 31, 19, 20, 21, 22, 23, 32, 33, 34, 35, 36, 37, 38, 39, 40, 41, 42, 43, 44, 45, 46, 47, 48, 49, 50, 51, 52, 53, 54] (by decide +kernel) (by decide +kernel)
set_option maxRecDepth 20000 in
theorem gX8_sorts_X8_sortAt : GoodIn wsX8_sorts (wsV RX8 104 RX8 yX8_sortAt wsX8_sortAt) := goodIn_app (goodIn_of _ (by decide +kernel)) ggX8_sorts_X8_sortAt
theorem dX8_sorts_0 : decode cX8_sorts 0 = .ok (.iload_n 1, 1) := by decide +kernel
theorem dX8_sorts_1 : decode cX8_sorts 1 = .ok (.iconst 1, 1) := by decide +kernel
theorem dX8_sorts_2 : decode cX8_sorts 2 = .ok (.iconst 5, 1) := by decide +kernel
theorem dX8_sorts_3 : decode cX8_sorts 3 = .ok (.invokestatic 61, 3) := by decide +kernel
theorem dX8_sorts_6 : decode cX8_sorts 6 = .ok (.ifCond .ne 10, 3) := by decide +kernel
theorem dX8_sorts_9 : decode cX8_sorts 9 = .ok (.aload_n 0, 1) := by decide +kernel
theorem dX8_sorts_10 : decode cX8_sorts 10 = .ok (.ldc 68, 2) := by decide +kernel
theorem dX8_sorts_12 : decode cX8_sorts 12 = .ok (.invokevirtual 69, 3) := by decide +kernel
theorem dX8_sorts_15 : decode cX8_sorts 15 = .ok (.ireturn, 1) := by decide +kernel
theorem dX8_sorts_16 : decode cX8_sorts 16 = .ok (.iconst 0, 1) := by decide +kernel
theorem dX8_sorts_17 : decode cX8_sorts 17 = .ok (.istore_n 2, 1) := by decide +kernel
theorem dX8_sorts_18 : decode cX8_sorts 18 = .ok (.bipush (-6), 2) := by decide +kernel
theorem dX8_sorts_20 : decode cX8_sorts 20 = .ok (.istore_n 3, 1) := by decide +kernel
theorem dX8_sorts_21 : decode cX8_sorts 21 = .ok (.iload_n 3, 1) := by decide +kernel
theorem dX8_sorts_22 : decode cX8_sorts 22 = .ok (.bipush 6, 2) := by decide +kernel
theorem dX8_sorts_24 : decode cX8_sorts 24 = .ok (.if_icmp .gt 55, 3) := by decide +kernel
theorem dX8_sorts_27 : decode cX8_sorts 27 = .ok (.bipush (-6), 2) := by decide +kernel
theorem dX8_sorts_29 : decode cX8_sorts 29 = .ok (.istore 4, 2) := by decide +kernel
theorem dX8_sorts_31 : decode cX8_sorts 31 = .ok (.iload 4, 2) := by decide +kernel
theorem dX8_sorts_33 : decode cX8_sorts 33 = .ok (.bipush 6, 2) := by decide +kernel
theorem dX8_sorts_35 : decode cX8_sorts 35 = .ok (.if_icmp .gt 38, 3) := by decide +kernel
theorem dX8_sorts_38 : decode cX8_sorts 38 = .ok (.iload_n 2, 1) := by decide +kernel
theorem dX8_sorts_39 : decode cX8_sorts 39 = .ok (.aload_n 0, 1) := by decide +kernel
theorem dX8_sorts_40 : decode cX8_sorts 40 = .ok (.iload_n 3, 1) := by decide +kernel
theorem dX8_sorts_41 : decode cX8_sorts 41 = .ok (.iload 4, 2) := by decide +kernel
theorem dX8_sorts_43 : decode cX8_sorts 43 = .ok (.invokevirtual 101, 3) := by decide +kernel
theorem dX8_sorts_46 : decode cX8_sorts 46 = .ok (.ifCond .eq 18, 3) := by decide +kernel
theorem dX8_sorts_49 : decode cX8_sorts 49 = .ok (.aload_n 0, 1) := by decide +kernel
theorem dX8_sorts_50 : decode cX8_sorts 50 = .ok (.iload_n 3, 1) := by decide +kernel
theorem dX8_sorts_51 : decode cX8_sorts 51 = .ok (.iload 4, 2) := by decide +kernel
theorem dX8_sorts_53 : decode cX8_sorts 53 = .ok (.invokevirtual 104, 3) := by decide +kernel
theorem dX8_sorts_56 : decode cX8_sorts 56 = .ok (.iload_n 1, 1) := by decide +kernel
theorem dX8_sorts_57 : decode cX8_sorts 57 = .ok (.if_icmp .ne 7, 3) := by decide +kernel
theorem dX8_sorts_60 : decode cX8_sorts 60 = .ok (.iconst 1, 1) := by decide +kernel
theorem dX8_sorts_61 : decode cX8_sorts 61 = .ok (.goto 4, 3) := by decide +kernel
theorem dX8_sorts_64 : decode cX8_sorts 64 = .ok (.iconst 0, 1) := by decide +kernel
theorem dX8_sorts_65 : decode cX8_sorts 65 = .ok (.iadd, 1) := by decide +kernel
theorem dX8_sorts_66 : decode cX8_sorts 66 = .ok (.istore_n 2, 1) := by decide +kernel
theorem dX8_sorts_67 : decode cX8_sorts 67 = .ok (.iinc 4 1, 3) := by decide +kernel
theorem dX8_sorts_70 : decode cX8_sorts 70 = .ok (.goto (-39), 3) := by decide +kernel
theorem dX8_sorts_73 : decode cX8_sorts 73 = .ok (.iinc 3 1, 3) := by decide +kernel
theorem dX8_sorts_76 : decode cX8_sorts 76 = .ok (.goto (-55), 3) := by decide +kernel
theorem dX8_sorts_79 : decode cX8_sorts 79 = .ok (.iload_n 2, 1) := by decide +kernel
theorem dX8_sorts_80 : decode cX8_sorts 80 = .ok (.ireturn, 1) := by decide +kernel
theorem dX8_corners_0 : decode cX8_corners 0 = .ok (.aload_n 0, 1) := by decide +kernel
theorem dX8_corners_1 : decode cX8_corners 1 = .ok (.getfield 7, 3) := by decide +kernel
theorem dX8_corners_4 : decode cX8_corners 4 = .ok (.bipush 12, 2) := by decide +kernel
theorem dX8_corners_6 : decode cX8_corners 6 = .ok (.iaload, 1) := by decide +kernel
theorem dX8_corners_7 : decode cX8_corners 7 = .ok (.ireturn, 1) := by decide +kernel
set_option maxRecDepth 20000 in
theorem ggX8_xOf_X8_corners : GoodIn wsX8_xOf wsX8_corners := goodIn_r _ [6, 1, 7, 8, 9, 10, 11, 12, 13, 14, 15, 16, 17, 18, 19, 20, 21, 22, 23, 24, 25, 26, 27, 28, 29] (by decide +kernel) (by decide +kernel)
set_option maxRecDepth 20000 in
theorem gX8_xOf_X8_corners : GoodIn wsX8_xOf (wsV RX8 108 RX8 yX8_corners wsX8_corners) := goodIn_app (goodIn_of _ (by decide +kernel)) ggX8_xOf_X8_corners
theorem dX8_xOf_0 : decode cX8_xOf 0 = .ok (.aload_n 0, 1) := by decide +kernel
theorem dX8_xOf_1 : decode cX8_xOf 1 = .ok (.getfield 7, 3) := by decide +kernel
theorem dX8_xOf_4 : decode cX8_xOf 4 = .ok (.bipush 13, 2) := by decide +kernel
theorem dX8_xOf_6 : decode cX8_xOf 6 = .ok (.iload_n 1, 1) := by decide +kernel
theorem dX8_xOf_7 : decode cX8_xOf 7 = .ok (.aload_n 0, 1) := by decide +kernel
theorem dX8_xOf_8 : decode cX8_xOf 8 = .ok (.invokevirtual 108, 3) := by decide +kernel
theorem dX8_xOf_11 : decode cX8_xOf 11 = .ok (.irem, 1) := by decide +kernel
theorem dX8_xOf_12 : decode cX8_xOf 12 = .ok (.iadd, 1) := by decide +kernel
theorem dX8_xOf_13 : decode cX8_xOf 13 = .ok (.iaload, 1) := by decide +kernel
theorem dX8_xOf_14 : decode cX8_xOf 14 = .ok (.ireturn, 1) := by decide +kernel
set_option maxRecDepth 20000 in
theorem ggX8_yOf_X8_corners : GoodIn wsX8_yOf wsX8_corners := goodIn_r _ [6, 1, 7, 8, 9, 10, 11, 12, 13, 14, 15, 16, 17, 18, 19, 20, 21, 22, 23, 24, 25, 26, 27, 28, 29] (by decide +kernel) (by decide +kernel)
set_option maxRecDepth 20000 in
theorem gX8_yOf_X8_corners : GoodIn wsX8_yOf (wsV RX8 108 RX8 yX8_corners wsX8_corners) := goodIn_app (goodIn_of _ (by decide +kernel)) ggX8_yOf_X8_corners
theorem dX8_yOf_0 : decode cX8_yOf 0 = .ok (.aload_n 0, 1) := by decide +kernel
theorem dX8_yOf_1 : decode cX8_yOf 1 = .ok (.getfield 7, 3) := by decide +kernel
theorem dX8_yOf_4 : decode cX8_yOf 4 = .ok (.bipush 21, 2) := by decide +kernel
theorem dX8_yOf_6 : decode cX8_yOf 6 = .ok (.iload_n 1, 1) := by decide +kernel
theorem dX8_yOf_7 : decode cX8_yOf 7 = .ok (.aload_n 0, 1) := by decide +kernel
theorem dX8_yOf_8 : decode cX8_yOf 8 = .ok (.invokevirtual 108, 3) := by decide +kernel
theorem dX8_yOf_11 : decode cX8_yOf 11 = .ok (.irem, 1) := by decide +kernel
theorem dX8_yOf_12 : decode cX8_yOf 12 = .ok (.iadd, 1) := by decide +kernel
theorem dX8_yOf_13 : decode cX8_yOf 13 = .ok (.iaload, 1) := by decide +kernel
theorem dX8_yOf_14 : decode cX8_yOf 14 = .ok (.ireturn, 1) := by decide +kernel
set_option maxRecDepth 20000 in
theorem ggX8_corner_X8_isPlace : GoodIn wsX8_corner wsX8_isPlace := goodIn_r _ [8, 9, 10, 7, 11] (by decide +kernel) (by decide +kernel)
set_option maxRecDepth 20000 in
theorem gX8_corner_X8_isPlace : GoodIn wsX8_corner (va_wsS RX8 80 yX8_isPlace wsX8_isPlace) := goodIn_app (goodIn_of _ (by decide +kernel)) ggX8_corner_X8_isPlace
set_option maxRecDepth 20000 in
theorem ggX8_corner_X8_found : GoodIn wsX8_corner wsX8_found := goodIn_r _ [15, 16, 35, 36, 37, 38, 39, 40, 41, 42, 43, 44, 45, 46, 47, 48, 49, 50, 51, 52, 53, 54, 55, 56, 57] (by decide +kernel) (by decide +kernel)
set_option maxRecDepth 20000 in
theorem gX8_corner_X8_found : GoodIn wsX8_corner (wsV RX8 69 RX8 yX8_found wsX8_found) := goodIn_app (goodIn_of _ (by decide +kernel)) ggX8_corner_X8_found
set_option maxRecDepth 20000 in
theorem ggX8_corner_X8_corners : GoodIn wsX8_corner wsX8_corners := goodIn_r _ [20, 4, 35, 36, 37, 38, 39, 40, 41, 42, 43, 44, 45, 46, 47, 48, 49, 50, 51, 52, 53, 54, 55, 56, 57] (by decide +kernel) (by decide +kernel)
set_option maxRecDepth 20000 in
theorem gX8_corner_X8_corners : GoodIn wsX8_corner (wsV RX8 108 RX8 yX8_corners wsX8_corners) := goodIn_app (goodIn_of _ (by decide +kernel)) ggX8_corner_X8_corners
set_option maxRecDepth 20000 in
theorem ggX8_corner_X8_xOf : GoodIn wsX8_corner wsX8_xOf := goodIn_r _ [24, 4, 17, 18, 19, 7, 20, 35, 36, 37, 38, 39, 40, 41, 42, 43, 44, 45, 46, 47, 48, 49, 50, 51, 52, 53, 54, 55, 56, 57] (by decide +kernel) (by decide +kernel)
set_option maxRecDepth 20000 in
theorem gX8_corner_X8_xOf : GoodIn wsX8_corner (wsV RX8 112 RX8 yX8_xOf wsX8_xOf) := goodIn_app (goodIn_of _ (by decide +kernel)) ggX8_corner_X8_xOf
set_option maxRecDepth 20000 in
theorem ggX8_corner_X8_yOf : GoodIn wsX8_corner wsX8_yOf := goodIn_r _ [28, 4, 17, 18, 19, 7, 20, 35, 36, 37, 38, 39, 40, 41, 42, 43, 44, 45, 46, 47, 48, 49, 50, 51, 52, 53, 54, 55, 56, 57] (by decide +kernel) (by decide +kernel)
set_option maxRecDepth 20000 in
theorem gX8_corner_X8_yOf : GoodIn wsX8_corner (wsV RX8 115 RX8 yX8_yOf wsX8_yOf) := goodIn_app (goodIn_of _ (by decide +kernel)) ggX8_corner_X8_yOf
set_option maxRecDepth 20000 in
theorem ggX8_corner_X8_remember : GoodIn wsX8_corner wsX8_remember := goodIn_r _ [32, 33, 34, 4, 35, 36, 37, 38, 39, 40, 41, 42, 43, 44, 45, 46, 47, 48, 49, 50, 51, 52, 53, 54, 55, 56, 57] (by decide +kernel) (by decide +kernel)
set_option maxRecDepth 20000 in
theorem gX8_corner_X8_remember : GoodIn wsX8_corner (wsV RX8 73 RX8 yX8_remember wsX8_remember) := goodIn_app (goodIn_of _ (by decide +kernel)) ggX8_corner_X8_remember
theorem dX8_corner_0 : decode cX8_corner 0 = .ok (.iload_n 1, 1) := by decide +kernel
theorem dX8_corner_1 : decode cX8_corner 1 = .ok (.iload_n 2, 1) := by decide +kernel
theorem dX8_corner_2 : decode cX8_corner 2 = .ok (.invokestatic 80, 3) := by decide +kernel
theorem dX8_corner_5 : decode cX8_corner 5 = .ok (.ifCond .ne 10, 3) := by decide +kernel
theorem dX8_corner_8 : decode cX8_corner 8 = .ok (.aload_n 0, 1) := by decide +kernel
theorem dX8_corner_9 : decode cX8_corner 9 = .ok (.ldc 68, 2) := by decide +kernel
theorem dX8_corner_11 : decode cX8_corner 11 = .ok (.invokevirtual 69, 3) := by decide +kernel
theorem dX8_corner_14 : decode cX8_corner 14 = .ok (.ireturn, 1) := by decide +kernel
theorem dX8_corner_15 : decode cX8_corner 15 = .ok (.aload_n 0, 1) := by decide +kernel
theorem dX8_corner_16 : decode cX8_corner 16 = .ok (.invokevirtual 108, 3) := by decide +kernel
theorem dX8_corner_19 : decode cX8_corner 19 = .ok (.istore_n 3, 1) := by decide +kernel
theorem dX8_corner_20 : decode cX8_corner 20 = .ok (.iload_n 3, 1) := by decide +kernel
theorem dX8_corner_21 : decode cX8_corner 21 = .ok (.ifCond .le 32, 3) := by decide +kernel
theorem dX8_corner_24 : decode cX8_corner 24 = .ok (.aload_n 0, 1) := by decide +kernel
theorem dX8_corner_25 : decode cX8_corner 25 = .ok (.iload_n 3, 1) := by decide +kernel
theorem dX8_corner_26 : decode cX8_corner 26 = .ok (.iconst 1, 1) := by decide +kernel
theorem dX8_corner_27 : decode cX8_corner 27 = .ok (.isub, 1) := by decide +kernel
theorem dX8_corner_28 : decode cX8_corner 28 = .ok (.invokevirtual 112, 3) := by decide +kernel
theorem dX8_corner_31 : decode cX8_corner 31 = .ok (.iload_n 1, 1) := by decide +kernel
theorem dX8_corner_32 : decode cX8_corner 32 = .ok (.if_icmp .ne 21, 3) := by decide +kernel
theorem dX8_corner_35 : decode cX8_corner 35 = .ok (.aload_n 0, 1) := by decide +kernel
theorem dX8_corner_36 : decode cX8_corner 36 = .ok (.iload_n 3, 1) := by decide +kernel
theorem dX8_corner_37 : decode cX8_corner 37 = .ok (.iconst 1, 1) := by decide +kernel
theorem dX8_corner_38 : decode cX8_corner 38 = .ok (.isub, 1) := by decide +kernel
theorem dX8_corner_39 : decode cX8_corner 39 = .ok (.invokevirtual 115, 3) := by decide +kernel
theorem dX8_corner_42 : decode cX8_corner 42 = .ok (.iload_n 2, 1) := by decide +kernel
theorem dX8_corner_43 : decode cX8_corner 43 = .ok (.if_icmp .ne 10, 3) := by decide +kernel
theorem dX8_corner_46 : decode cX8_corner 46 = .ok (.aload_n 0, 1) := by decide +kernel
theorem dX8_corner_47 : decode cX8_corner 47 = .ok (.ldc 99, 2) := by decide +kernel
theorem dX8_corner_49 : decode cX8_corner 49 = .ok (.invokevirtual 69, 3) := by decide +kernel
theorem dX8_corner_52 : decode cX8_corner 52 = .ok (.ireturn, 1) := by decide +kernel
theorem dX8_corner_53 : decode cX8_corner 53 = .ok (.iload_n 3, 1) := by decide +kernel
theorem dX8_corner_54 : decode cX8_corner 54 = .ok (.bipush 8, 2) := by decide +kernel
theorem dX8_corner_56 : decode cX8_corner 56 = .ok (.if_icmp .ne 10, 3) := by decide +kernel
theorem dX8_corner_59 : decode cX8_corner 59 = .ok (.aload_n 0, 1) := by decide +kernel
theorem dX8_corner_60 : decode cX8_corner 60 = .ok (.ldc 118, 2) := by decide +kernel
theorem dX8_corner_62 : decode cX8_corner 62 = .ok (.invokevirtual 69, 3) := by decide +kernel
theorem dX8_corner_65 : decode cX8_corner 65 = .ok (.ireturn, 1) := by decide +kernel
theorem dX8_corner_66 : decode cX8_corner 66 = .ok (.aload_n 0, 1) := by decide +kernel
theorem dX8_corner_67 : decode cX8_corner 67 = .ok (.invokevirtual 73, 3) := by decide +kernel
theorem dX8_corner_70 : decode cX8_corner 70 = .ok (.aload_n 0, 1) := by decide +kernel
theorem dX8_corner_71 : decode cX8_corner 71 = .ok (.getfield 7, 3) := by decide +kernel
theorem dX8_corner_74 : decode cX8_corner 74 = .ok (.bipush 13, 2) := by decide +kernel
theorem dX8_corner_76 : decode cX8_corner 76 = .ok (.iload_n 3, 1) := by decide +kernel
theorem dX8_corner_77 : decode cX8_corner 77 = .ok (.iadd, 1) := by decide +kernel
theorem dX8_corner_78 : decode cX8_corner 78 = .ok (.iload_n 1, 1) := by decide +kernel
theorem dX8_corner_79 : decode cX8_corner 79 = .ok (.iastore, 1) := by decide +kernel
theorem dX8_corner_80 : decode cX8_corner 80 = .ok (.aload_n 0, 1) := by decide +kernel
theorem dX8_corner_81 : decode cX8_corner 81 = .ok (.getfield 7, 3) := by decide +kernel
theorem dX8_corner_84 : decode cX8_corner 84 = .ok (.bipush 21, 2) := by decide +kernel
theorem dX8_corner_86 : decode cX8_corner 86 = .ok (.iload_n 3, 1) := by decide +kernel
theorem dX8_corner_87 : decode cX8_corner 87 = .ok (.iadd, 1) := by decide +kernel
theorem dX8_corner_88 : decode cX8_corner 88 = .ok (.iload_n 2, 1) := by decide +kernel
theorem dX8_corner_89 : decode cX8_corner 89 = .ok (.iastore, 1) := by decide +kernel
theorem dX8_corner_90 : decode cX8_corner 90 = .ok (.aload_n 0, 1) := by decide +kernel
theorem dX8_corner_91 : decode cX8_corner 91 = .ok (.getfield 7, 3) := by decide +kernel
theorem dX8_corner_94 : decode cX8_corner 94 = .ok (.bipush 12, 2) := by decide +kernel
theorem dX8_corner_96 : decode cX8_corner 96 = .ok (.dup2, 1) := by decide +kernel
theorem dX8_corner_97 : decode cX8_corner 97 = .ok (.iaload, 1) := by decide +kernel
theorem dX8_corner_98 : decode cX8_corner 98 = .ok (.iconst 1, 1) := by decide +kernel
theorem dX8_corner_99 : decode cX8_corner 99 = .ok (.iadd, 1) := by decide +kernel
theorem dX8_corner_100 : decode cX8_corner 100 = .ok (.iastore, 1) := by decide +kernel
theorem dX8_corner_101 : decode cX8_corner 101 = .ok (.iload_n 3, 1) := by decide +kernel
theorem dX8_corner_102 : decode cX8_corner 102 = .ok (.iconst 1, 1) := by decide +kernel
theorem dX8_corner_103 : decode cX8_corner 103 = .ok (.iadd, 1) := by decide +kernel
theorem dX8_corner_104 : decode cX8_corner 104 = .ok (.ireturn, 1) := by decide +kernel
set_option maxRecDepth 20000 in
theorem ggX8_open_X8_remember : GoodIn wsX8_open wsX8_remember := goodIn_r _ [6, 7, 8, 1, 13, 14, 15, 16, 17, 18, 19, 20, 21, 22, 23, 24, 25, 26, 27, 28, 29, 30, 31, 32, 33, 34, 35] (by decide +kernel) (by decide +kernel)
set_option maxRecDepth 20000 in
theorem gX8_open_X8_remember : GoodIn wsX8_open (wsV RX8 73 RX8 yX8_remember wsX8_remember) := goodIn_app (goodIn_of _ (by decide +kernel)) ggX8_open_X8_remember
set_option maxRecDepth 20000 in
theorem ggX8_open_X8_corners : GoodIn wsX8_open wsX8_corners := goodIn_r _ [12, 1, 13, 14, 15, 16, 17, 18, 19, 20, 21, 22, 23, 24, 25, 26, 27, 28, 29, 30, 31, 32, 33, 34, 35] (by decide +kernel) (by decide +kernel)
set_option maxRecDepth 20000 in
theorem gX8_open_X8_corners : GoodIn wsX8_open (wsV RX8 108 RX8 yX8_corners wsX8_corners) := goodIn_app (goodIn_of _ (by decide +kernel)) ggX8_open_X8_corners
theorem dX8_open_0 : decode cX8_open 0 = .ok (.aload_n 0, 1) := by decide +kernel
theorem dX8_open_1 : decode cX8_open 1 = .ok (.invokevirtual 73, 3) := by decide +kernel
theorem dX8_open_4 : decode cX8_open 4 = .ok (.aload_n 0, 1) := by decide +kernel
theorem dX8_open_5 : decode cX8_open 5 = .ok (.invokevirtual 108, 3) := by decide +kernel
theorem dX8_open_8 : decode cX8_open 8 = .ok (.istore_n 1, 1) := by decide +kernel
theorem dX8_open_9 : decode cX8_open 9 = .ok (.aload_n 0, 1) := by decide +kernel
theorem dX8_open_10 : decode cX8_open 10 = .ok (.getfield 7, 3) := by decide +kernel
theorem dX8_open_13 : decode cX8_open 13 = .ok (.bipush 12, 2) := by decide +kernel
theorem dX8_open_15 : decode cX8_open 15 = .ok (.iconst 0, 1) := by decide +kernel
theorem dX8_open_16 : decode cX8_open 16 = .ok (.iastore, 1) := by decide +kernel
theorem dX8_open_17 : decode cX8_open 17 = .ok (.iload_n 1, 1) := by decide +kernel
theorem dX8_open_18 : decode cX8_open 18 = .ok (.ireturn, 1) := by decide +kernel
theorem dX8_turn_0 : decode cX8_turn 0 = .ok (.iload_n 2, 1) := by decide +kernel
theorem dX8_turn_1 : decode cX8_turn 1 = .ok (.iload_n 0, 1) := by decide +kernel
theorem dX8_turn_2 : decode cX8_turn 2 = .ok (.isub, 1) := by decide +kernel
theorem dX8_turn_3 : decode cX8_turn 3 = .ok (.iload 5, 2) := by decide +kernel
theorem dX8_turn_5 : decode cX8_turn 5 = .ok (.iload_n 1, 1) := by decide +kernel
theorem dX8_turn_6 : decode cX8_turn 6 = .ok (.isub, 1) := by decide +kernel
theorem dX8_turn_7 : decode cX8_turn 7 = .ok (.imul, 1) := by decide +kernel
theorem dX8_turn_8 : decode cX8_turn 8 = .ok (.iload_n 3, 1) := by decide +kernel
theorem dX8_turn_9 : decode cX8_turn 9 = .ok (.iload_n 1, 1) := by decide +kernel
theorem dX8_turn_10 : decode cX8_turn 10 = .ok (.isub, 1) := by decide +kernel
theorem dX8_turn_11 : decode cX8_turn 11 = .ok (.iload 4, 2) := by decide +kernel
theorem dX8_turn_13 : decode cX8_turn 13 = .ok (.iload_n 0, 1) := by decide +kernel
theorem dX8_turn_14 : decode cX8_turn 14 = .ok (.isub, 1) := by decide +kernel
theorem dX8_turn_15 : decode cX8_turn 15 = .ok (.imul, 1) := by decide +kernel
theorem dX8_turn_16 : decode cX8_turn 16 = .ok (.isub, 1) := by decide +kernel
theorem dX8_turn_17 : decode cX8_turn 17 = .ok (.istore 6, 2) := by decide +kernel
theorem dX8_turn_19 : decode cX8_turn 19 = .ok (.iload 6, 2) := by decide +kernel
theorem dX8_turn_21 : decode cX8_turn 21 = .ok (.ifCond .le 7, 3) := by decide +kernel
theorem dX8_turn_24 : decode cX8_turn 24 = .ok (.iconst 1, 1) := by decide +kernel
theorem dX8_turn_25 : decode cX8_turn 25 = .ok (.goto 13, 3) := by decide +kernel
theorem dX8_turn_28 : decode cX8_turn 28 = .ok (.iload 6, 2) := by decide +kernel
theorem dX8_turn_30 : decode cX8_turn 30 = .ok (.ifCond .ge 7, 3) := by decide +kernel
theorem dX8_turn_33 : decode cX8_turn 33 = .ok (.iconst (-1), 1) := by decide +kernel
theorem dX8_turn_34 : decode cX8_turn 34 = .ok (.goto 4, 3) := by decide +kernel
theorem dX8_turn_37 : decode cX8_turn 37 = .ok (.iconst 0, 1) := by decide +kernel
theorem dX8_turn_38 : decode cX8_turn 38 = .ok (.ireturn, 1) := by decide +kernel
set_option maxRecDepth 20000 in
theorem ggX8_isOn_X8_xOf : GoodIn wsX8_isOn wsX8_xOf := goodIn_r _ [5, 6, 7, 8, 9, 4, 10, 18, 19, 20, 21, 22, 23, 24, 25, 26, 27, 28, 29, 30, 31, 32, 33, 34, 35, 36, 37, 38, 39, 40] (by decide +kernel) (by decide +kernel)
set_option maxRecDepth 20000 in
theorem gX8_isOn_X8_xOf : GoodIn wsX8_isOn (wsV RX8 112 RX8 yX8_xOf wsX8_xOf) := goodIn_app (goodIn_of _ (by decide +kernel)) ggX8_isOn_X8_xOf
set_option maxRecDepth 20000 in
theorem ggX8_isOn_X8_yOf : GoodIn wsX8_isOn wsX8_yOf := goodIn_r _ [14, 6, 7, 8, 9, 4, 10, 18, 19, 20, 21, 22, 23, 24, 25, 26, 27, 28, 29, 30, 31, 32, 33, 34, 35, 36, 37, 38, 39, 40] (by decide +kernel) (by decide +kernel)
set_option maxRecDepth 20000 in
theorem gX8_isOn_X8_yOf : GoodIn wsX8_isOn (wsV RX8 115 RX8 yX8_yOf wsX8_yOf) := goodIn_app (goodIn_of _ (by decide +kernel)) ggX8_isOn_X8_yOf
set_option maxRecDepth 20000 in
theorem ggX8_isOn_X8_turn : GoodIn wsX8_isOn wsX8_turn := goodIn_r _ [17] (by decide +kernel) (by decide +kernel)
set_option maxRecDepth 20000 in
theorem gX8_isOn_X8_turn : GoodIn wsX8_isOn (va_wsS RX8 119 yX8_turn wsX8_turn) := goodIn_app (goodIn_of _ (by decide +kernel)) ggX8_isOn_X8_turn
theorem dX8_isOn_0 : decode cX8_isOn 0 = .ok (.aload_n 0, 1) := by decide +kernel
theorem dX8_isOn_1 : decode cX8_isOn 1 = .ok (.iload_n 1, 1) := by decide +kernel
theorem dX8_isOn_2 : decode cX8_isOn 2 = .ok (.invokevirtual 112, 3) := by decide +kernel
theorem dX8_isOn_5 : decode cX8_isOn 5 = .ok (.istore 4, 2) := by decide +kernel
theorem dX8_isOn_7 : decode cX8_isOn 7 = .ok (.aload_n 0, 1) := by decide +kernel
theorem dX8_isOn_8 : decode cX8_isOn 8 = .ok (.iload_n 1, 1) := by decide +kernel
theorem dX8_isOn_9 : decode cX8_isOn 9 = .ok (.invokevirtual 115, 3) := by decide +kernel
theorem dX8_isOn_12 : decode cX8_isOn 12 = .ok (.istore 5, 2) := by decide +kernel
theorem dX8_isOn_14 : decode cX8_isOn 14 = .ok (.aload_n 0, 1) := by decide +kernel
theorem dX8_isOn_15 : decode cX8_isOn 15 = .ok (.iload_n 1, 1) := by decide +kernel
theorem dX8_isOn_16 : decode cX8_isOn 16 = .ok (.iconst 1, 1) := by decide +kernel
theorem dX8_isOn_17 : decode cX8_isOn 17 = .ok (.iadd, 1) := by decide +kernel
theorem dX8_isOn_18 : decode cX8_isOn 18 = .ok (.invokevirtual 112, 3) := by decide +kernel
theorem dX8_isOn_21 : decode cX8_isOn 21 = .ok (.istore 6, 2) := by decide +kernel
theorem dX8_isOn_23 : decode cX8_isOn 23 = .ok (.aload_n 0, 1) := by decide +kernel
theorem dX8_isOn_24 : decode cX8_isOn 24 = .ok (.iload_n 1, 1) := by decide +kernel
theorem dX8_isOn_25 : decode cX8_isOn 25 = .ok (.iconst 1, 1) := by decide +kernel
theorem dX8_isOn_26 : decode cX8_isOn 26 = .ok (.iadd, 1) := by decide +kernel
theorem dX8_isOn_27 : decode cX8_isOn 27 = .ok (.invokevirtual 115, 3) := by decide +kernel
theorem dX8_isOn_30 : decode cX8_isOn 30 = .ok (.istore 7, 2) := by decide +kernel
theorem dX8_isOn_32 : decode cX8_isOn 32 = .ok (.iload 4, 2) := by decide +kernel
theorem dX8_isOn_34 : decode cX8_isOn 34 = .ok (.iload 5, 2) := by decide +kernel
theorem dX8_isOn_36 : decode cX8_isOn 36 = .ok (.iload 6, 2) := by decide +kernel
theorem dX8_isOn_38 : decode cX8_isOn 38 = .ok (.iload 7, 2) := by decide +kernel
theorem dX8_isOn_40 : decode cX8_isOn 40 = .ok (.iload_n 2, 1) := by decide +kernel
theorem dX8_isOn_41 : decode cX8_isOn 41 = .ok (.iload_n 3, 1) := by decide +kernel
theorem dX8_isOn_42 : decode cX8_isOn 42 = .ok (.invokestatic 119, 3) := by decide +kernel
theorem dX8_isOn_45 : decode cX8_isOn 45 = .ok (.ifCond .eq 5, 3) := by decide +kernel
theorem dX8_isOn_48 : decode cX8_isOn 48 = .ok (.iconst 0, 1) := by decide +kernel
theorem dX8_isOn_49 : decode cX8_isOn 49 = .ok (.ireturn, 1) := by decide +kernel
theorem dX8_isOn_50 : decode cX8_isOn 50 = .ok (.iload_n 2, 1) := by decide +kernel
theorem dX8_isOn_51 : decode cX8_isOn 51 = .ok (.iload 4, 2) := by decide +kernel
theorem dX8_isOn_53 : decode cX8_isOn 53 = .ok (.iload 6, 2) := by decide +kernel
theorem dX8_isOn_55 : decode cX8_isOn 55 = .ok (.if_icmp .ge 8, 3) := by decide +kernel
theorem dX8_isOn_58 : decode cX8_isOn 58 = .ok (.iload 4, 2) := by decide +kernel
theorem dX8_isOn_60 : decode cX8_isOn 60 = .ok (.goto 5, 3) := by decide +kernel
theorem dX8_isOn_63 : decode cX8_isOn 63 = .ok (.iload 6, 2) := by decide +kernel
theorem dX8_isOn_65 : decode cX8_isOn 65 = .ok (.if_icmp .lt 61, 3) := by decide +kernel
theorem dX8_isOn_68 : decode cX8_isOn 68 = .ok (.iload_n 2, 1) := by decide +kernel
theorem dX8_isOn_69 : decode cX8_isOn 69 = .ok (.iload 4, 2) := by decide +kernel
theorem dX8_isOn_71 : decode cX8_isOn 71 = .ok (.iload 6, 2) := by decide +kernel
theorem dX8_isOn_73 : decode cX8_isOn 73 = .ok (.if_icmp .le 8, 3) := by decide +kernel
theorem dX8_isOn_76 : decode cX8_isOn 76 = .ok (.iload 4, 2) := by decide +kernel
theorem dX8_isOn_78 : decode cX8_isOn 78 = .ok (.goto 5, 3) := by decide +kernel
theorem dX8_isOn_81 : decode cX8_isOn 81 = .ok (.iload 6, 2) := by decide +kernel
theorem dX8_isOn_83 : decode cX8_isOn 83 = .ok (.if_icmp .gt 43, 3) := by decide +kernel
theorem dX8_isOn_86 : decode cX8_isOn 86 = .ok (.iload_n 3, 1) := by decide +kernel
theorem dX8_isOn_87 : decode cX8_isOn 87 = .ok (.iload 5, 2) := by decide +kernel
theorem dX8_isOn_89 : decode cX8_isOn 89 = .ok (.iload 7, 2) := by decide +kernel
theorem dX8_isOn_91 : decode cX8_isOn 91 = .ok (.if_icmp .ge 8, 3) := by decide +kernel
theorem dX8_isOn_94 : decode cX8_isOn 94 = .ok (.iload 5, 2) := by decide +kernel
theorem dX8_isOn_96 : decode cX8_isOn 96 = .ok (.goto 5, 3) := by decide +kernel
theorem dX8_isOn_99 : decode cX8_isOn 99 = .ok (.iload 7, 2) := by decide +kernel
theorem dX8_isOn_101 : decode cX8_isOn 101 = .ok (.if_icmp .lt 25, 3) := by decide +kernel
theorem dX8_isOn_104 : decode cX8_isOn 104 = .ok (.iload_n 3, 1) := by decide +kernel
theorem dX8_isOn_105 : decode cX8_isOn 105 = .ok (.iload 5, 2) := by decide +kernel
theorem dX8_isOn_107 : decode cX8_isOn 107 = .ok (.iload 7, 2) := by decide +kernel
theorem dX8_isOn_109 : decode cX8_isOn 109 = .ok (.if_icmp .le 8, 3) := by decide +kernel
theorem dX8_isOn_112 : decode cX8_isOn 112 = .ok (.iload 5, 2) := by decide +kernel
theorem dX8_isOn_114 : decode cX8_isOn 114 = .ok (.goto 5, 3) := by decide +kernel
theorem dX8_isOn_117 : decode cX8_isOn 117 = .ok (.iload 7, 2) := by decide +kernel
theorem dX8_isOn_119 : decode cX8_isOn 119 = .ok (.if_icmp .gt 7, 3) := by decide +kernel
theorem dX8_isOn_122 : decode cX8_isOn 122 = .ok (.iconst 1, 1) := by decide +kernel
theorem dX8_isOn_123 : decode cX8_isOn 123 = .ok (.goto 4, 3) := by decide +kernel
theorem dX8_isOn_126 : decode cX8_isOn 126 = .ok (.iconst 0, 1) := by decide +kernel
theorem dX8_isOn_127 : decode cX8_isOn 127 = .ok (.ireturn, 1) := by decide +kernel
set_option maxRecDepth 20000 in
theorem ggX8_doMeet_X8_xOf : GoodIn wsX8_doMeet wsX8_xOf := goodIn_r _ [5, 6, 7, 8, 9, 4, 10, 22, 23, 24, 25, 26, 27, 28, 29, 30, 31, 32, 33, 34, 35, 36, 37, 38, 39, 40, 41, 42, 43, 44] (by decide +kernel) (by decide +kernel)
set_option maxRecDepth 20000 in
theorem gX8_doMeet_X8_xOf : GoodIn wsX8_doMeet (wsV RX8 112 RX8 yX8_xOf wsX8_xOf) := goodIn_app (goodIn_of _ (by decide +kernel)) ggX8_doMeet_X8_xOf
set_option maxRecDepth 20000 in
theorem ggX8_doMeet_X8_yOf : GoodIn wsX8_doMeet wsX8_yOf := goodIn_r _ [14, 6, 7, 8, 9, 4, 10, 22, 23, 24, 25, 26, 27, 28, 29, 30, 31, 32, 33, 34, 35, 36, 37, 38, 39, 40, 41, 42, 43, 44] (by decide +kernel) (by decide +kernel)
set_option maxRecDepth 20000 in
theorem gX8_doMeet_X8_yOf : GoodIn wsX8_doMeet (wsV RX8 115 RX8 yX8_yOf wsX8_yOf) := goodIn_app (goodIn_of _ (by decide +kernel)) ggX8_doMeet_X8_yOf
set_option maxRecDepth 20000 in
theorem ggX8_doMeet_X8_isOn : GoodIn wsX8_doMeet wsX8_isOn := goodIn_r _ [18, 1, 2, 3, 4, 5, 6, 7, 8, 9, 10, 11, 12, 13, 14, 19, 20, 21, 22, 23, 24, 25, 26, 27, 28, 29, 30, 31, 32, 33, 34, 35, 36, 37, 38, 39, 40, 41, 42, 43, 44] (by decide +kernel) (by decide +kernel)
set_option maxRecDepth 20000 in
theorem gX8_doMeet_X8_isOn : GoodIn wsX8_doMeet (wsV RX8 123 RX8 yX8_isOn wsX8_isOn) := goodIn_app (goodIn_of _ (by decide +kernel)) ggX8_doMeet_X8_isOn
set_option maxRecDepth 20000 in
theorem ggX8_doMeet_X8_turn : GoodIn wsX8_doMeet wsX8_turn := goodIn_r _ [21] (by decide +kernel) (by decide +kernel)
set_option maxRecDepth 20000 in
theorem gX8_doMeet_X8_turn : GoodIn wsX8_doMeet (va_wsS RX8 119 yX8_turn wsX8_turn) := goodIn_app (goodIn_of _ (by decide +kernel)) ggX8_doMeet_X8_turn
theorem dX8_doMeet_0 : decode cX8_doMeet 0 = .ok (.aload_n 0, 1) := by decide +kernel
theorem dX8_doMeet_1 : decode cX8_doMeet 1 = .ok (.iload_n 1, 1) := by decide +kernel
theorem dX8_doMeet_2 : decode cX8_doMeet 2 = .ok (.aload_n 0, 1) := by decide +kernel
theorem dX8_doMeet_3 : decode cX8_doMeet 3 = .ok (.iload_n 2, 1) := by decide +kernel
theorem dX8_doMeet_4 : decode cX8_doMeet 4 = .ok (.invokevirtual 112, 3) := by decide +kernel
theorem dX8_doMeet_7 : decode cX8_doMeet 7 = .ok (.aload_n 0, 1) := by decide +kernel
theorem dX8_doMeet_8 : decode cX8_doMeet 8 = .ok (.iload_n 2, 1) := by decide +kernel
theorem dX8_doMeet_9 : decode cX8_doMeet 9 = .ok (.invokevirtual 115, 3) := by decide +kernel
theorem dX8_doMeet_12 : decode cX8_doMeet 12 = .ok (.invokevirtual 123, 3) := by decide +kernel
theorem dX8_doMeet_15 : decode cX8_doMeet 15 = .ok (.ifCond .ne 65, 3) := by decide +kernel
theorem dX8_doMeet_18 : decode cX8_doMeet 18 = .ok (.aload_n 0, 1) := by decide +kernel
theorem dX8_doMeet_19 : decode cX8_doMeet 19 = .ok (.iload_n 1, 1) := by decide +kernel
theorem dX8_doMeet_20 : decode cX8_doMeet 20 = .ok (.aload_n 0, 1) := by decide +kernel
theorem dX8_doMeet_21 : decode cX8_doMeet 21 = .ok (.iload_n 2, 1) := by decide +kernel
theorem dX8_doMeet_22 : decode cX8_doMeet 22 = .ok (.iconst 1, 1) := by decide +kernel
theorem dX8_doMeet_23 : decode cX8_doMeet 23 = .ok (.iadd, 1) := by decide +kernel
theorem dX8_doMeet_24 : decode cX8_doMeet 24 = .ok (.invokevirtual 112, 3) := by decide +kernel
theorem dX8_doMeet_27 : decode cX8_doMeet 27 = .ok (.aload_n 0, 1) := by decide +kernel
theorem dX8_doMeet_28 : decode cX8_doMeet 28 = .ok (.iload_n 2, 1) := by decide +kernel
theorem dX8_doMeet_29 : decode cX8_doMeet 29 = .ok (.iconst 1, 1) := by decide +kernel
theorem dX8_doMeet_30 : decode cX8_doMeet 30 = .ok (.iadd, 1) := by decide +kernel
theorem dX8_doMeet_31 : decode cX8_doMeet 31 = .ok (.invokevirtual 115, 3) := by decide +kernel
theorem dX8_doMeet_34 : decode cX8_doMeet 34 = .ok (.invokevirtual 123, 3) := by decide +kernel
theorem dX8_doMeet_37 : decode cX8_doMeet 37 = .ok (.ifCond .ne 43, 3) := by decide +kernel
theorem dX8_doMeet_40 : decode cX8_doMeet 40 = .ok (.aload_n 0, 1) := by decide +kernel
theorem dX8_doMeet_41 : decode cX8_doMeet 41 = .ok (.iload_n 2, 1) := by decide +kernel
theorem dX8_doMeet_42 : decode cX8_doMeet 42 = .ok (.aload_n 0, 1) := by decide +kernel
theorem dX8_doMeet_43 : decode cX8_doMeet 43 = .ok (.iload_n 1, 1) := by decide +kernel
theorem dX8_doMeet_44 : decode cX8_doMeet 44 = .ok (.invokevirtual 112, 3) := by decide +kernel
theorem dX8_doMeet_47 : decode cX8_doMeet 47 = .ok (.aload_n 0, 1) := by decide +kernel
theorem dX8_doMeet_48 : decode cX8_doMeet 48 = .ok (.iload_n 1, 1) := by decide +kernel
theorem dX8_doMeet_49 : decode cX8_doMeet 49 = .ok (.invokevirtual 115, 3) := by decide +kernel
theorem dX8_doMeet_52 : decode cX8_doMeet 52 = .ok (.invokevirtual 123, 3) := by decide +kernel
theorem dX8_doMeet_55 : decode cX8_doMeet 55 = .ok (.ifCond .ne 25, 3) := by decide +kernel
theorem dX8_doMeet_58 : decode cX8_doMeet 58 = .ok (.aload_n 0, 1) := by decide +kernel
theorem dX8_doMeet_59 : decode cX8_doMeet 59 = .ok (.iload_n 2, 1) := by decide +kernel
theorem dX8_doMeet_60 : decode cX8_doMeet 60 = .ok (.aload_n 0, 1) := by decide +kernel
theorem dX8_doMeet_61 : decode cX8_doMeet 61 = .ok (.iload_n 1, 1) := by decide +kernel
theorem dX8_doMeet_62 : decode cX8_doMeet 62 = .ok (.iconst 1, 1) := by decide +kernel
theorem dX8_doMeet_63 : decode cX8_doMeet 63 = .ok (.iadd, 1) := by decide +kernel
theorem dX8_doMeet_64 : decode cX8_doMeet 64 = .ok (.invokevirtual 112, 3) := by decide +kernel
theorem dX8_doMeet_67 : decode cX8_doMeet 67 = .ok (.aload_n 0, 1) := by decide +kernel
theorem dX8_doMeet_68 : decode cX8_doMeet 68 = .ok (.iload_n 1, 1) := by decide +kernel
theorem dX8_doMeet_69 : decode cX8_doMeet 69 = .ok (.iconst 1, 1) := by decide +kernel
theorem dX8_doMeet_70 : decode cX8_doMeet 70 = .ok (.iadd, 1) := by decide +kernel
theorem dX8_doMeet_71 : decode cX8_doMeet 71 = .ok (.invokevirtual 115, 3) := by decide +kernel
theorem dX8_doMeet_74 : decode cX8_doMeet 74 = .ok (.invokevirtual 123, 3) := by decide +kernel
theorem dX8_doMeet_77 : decode cX8_doMeet 77 = .ok (.ifCond .eq 5, 3) := by decide +kernel
theorem dX8_doMeet_80 : decode cX8_doMeet 80 = .ok (.iconst 1, 1) := by decide +kernel
theorem dX8_doMeet_81 : decode cX8_doMeet 81 = .ok (.ireturn, 1) := by decide +kernel
theorem dX8_doMeet_82 : decode cX8_doMeet 82 = .ok (.aload_n 0, 1) := by decide +kernel
theorem dX8_doMeet_83 : decode cX8_doMeet 83 = .ok (.iload_n 1, 1) := by decide +kernel
theorem dX8_doMeet_84 : decode cX8_doMeet 84 = .ok (.invokevirtual 112, 3) := by decide +kernel
theorem dX8_doMeet_87 : decode cX8_doMeet 87 = .ok (.aload_n 0, 1) := by decide +kernel
theorem dX8_doMeet_88 : decode cX8_doMeet 88 = .ok (.iload_n 1, 1) := by decide +kernel
theorem dX8_doMeet_89 : decode cX8_doMeet 89 = .ok (.invokevirtual 115, 3) := by decide +kernel
theorem dX8_doMeet_92 : decode cX8_doMeet 92 = .ok (.aload_n 0, 1) := by decide +kernel
theorem dX8_doMeet_93 : decode cX8_doMeet 93 = .ok (.iload_n 1, 1) := by decide +kernel
theorem dX8_doMeet_94 : decode cX8_doMeet 94 = .ok (.iconst 1, 1) := by decide +kernel
theorem dX8_doMeet_95 : decode cX8_doMeet 95 = .ok (.iadd, 1) := by decide +kernel
theorem dX8_doMeet_96 : decode cX8_doMeet 96 = .ok (.invokevirtual 112, 3) := by decide +kernel
theorem dX8_doMeet_99 : decode cX8_doMeet 99 = .ok (.aload_n 0, 1) := by decide +kernel
theorem dX8_doMeet_100 : decode cX8_doMeet 100 = .ok (.iload_n 1, 1) := by decide +kernel
theorem dX8_doMeet_101 : decode cX8_doMeet 101 = .ok (.iconst 1, 1) := by decide +kernel
theorem dX8_doMeet_102 : decode cX8_doMeet 102 = .ok (.iadd, 1) := by decide +kernel
theorem dX8_doMeet_103 : decode cX8_doMeet 103 = .ok (.invokevirtual 115, 3) := by decide +kernel
theorem dX8_doMeet_106 : decode cX8_doMeet 106 = .ok (.aload_n 0, 1) := by decide +kernel
theorem dX8_doMeet_107 : decode cX8_doMeet 107 = .ok (.iload_n 2, 1) := by decide +kernel
theorem dX8_doMeet_108 : decode cX8_doMeet 108 = .ok (.invokevirtual 112, 3) := by decide +kernel
theorem dX8_doMeet_111 : decode cX8_doMeet 111 = .ok (.aload_n 0, 1) := by decide +kernel
theorem dX8_doMeet_112 : decode cX8_doMeet 112 = .ok (.iload_n 2, 1) := by decide +kernel
theorem dX8_doMeet_113 : decode cX8_doMeet 113 = .ok (.invokevirtual 115, 3) := by decide +kernel
theorem dX8_doMeet_116 : decode cX8_doMeet 116 = .ok (.invokestatic 119, 3) := by decide +kernel
theorem dX8_doMeet_119 : decode cX8_doMeet 119 = .ok (.istore_n 3, 1) := by decide +kernel
theorem dX8_doMeet_120 : decode cX8_doMeet 120 = .ok (.aload_n 0, 1) := by decide +kernel
theorem dX8_doMeet_121 : decode cX8_doMeet 121 = .ok (.iload_n 1, 1) := by decide +kernel
theorem dX8_doMeet_122 : decode cX8_doMeet 122 = .ok (.invokevirtual 112, 3) := by decide +kernel
theorem dX8_doMeet_125 : decode cX8_doMeet 125 = .ok (.aload_n 0, 1) := by decide +kernel
theorem dX8_doMeet_126 : decode cX8_doMeet 126 = .ok (.iload_n 1, 1) := by decide +kernel
theorem dX8_doMeet_127 : decode cX8_doMeet 127 = .ok (.invokevirtual 115, 3) := by decide +kernel
theorem dX8_doMeet_130 : decode cX8_doMeet 130 = .ok (.aload_n 0, 1) := by decide +kernel
theorem dX8_doMeet_131 : decode cX8_doMeet 131 = .ok (.iload_n 1, 1) := by decide +kernel
theorem dX8_doMeet_132 : decode cX8_doMeet 132 = .ok (.iconst 1, 1) := by decide +kernel
theorem dX8_doMeet_133 : decode cX8_doMeet 133 = .ok (.iadd, 1) := by decide +kernel
theorem dX8_doMeet_134 : decode cX8_doMeet 134 = .ok (.invokevirtual 112, 3) := by decide +kernel
theorem dX8_doMeet_137 : decode cX8_doMeet 137 = .ok (.aload_n 0, 1) := by decide +kernel
theorem dX8_doMeet_138 : decode cX8_doMeet 138 = .ok (.iload_n 1, 1) := by decide +kernel
theorem dX8_doMeet_139 : decode cX8_doMeet 139 = .ok (.iconst 1, 1) := by decide +kernel
theorem dX8_doMeet_140 : decode cX8_doMeet 140 = .ok (.iadd, 1) := by decide +kernel
theorem dX8_doMeet_141 : decode cX8_doMeet 141 = .ok (.invokevirtual 115, 3) := by decide +kernel
theorem dX8_doMeet_144 : decode cX8_doMeet 144 = .ok (.aload_n 0, 1) := by decide +kernel
theorem dX8_doMeet_145 : decode cX8_doMeet 145 = .ok (.iload_n 2, 1) := by decide +kernel
theorem dX8_doMeet_146 : decode cX8_doMeet 146 = .ok (.iconst 1, 1) := by decide +kernel
theorem dX8_doMeet_147 : decode cX8_doMeet 147 = .ok (.iadd, 1) := by decide +kernel
theorem dX8_doMeet_148 : decode cX8_doMeet 148 = .ok (.invokevirtual 112, 3) := by decide +kernel
theorem dX8_doMeet_151 : decode cX8_doMeet 151 = .ok (.aload_n 0, 1) := by decide +kernel
theorem dX8_doMeet_152 : decode cX8_doMeet 152 = .ok (.iload_n 2, 1) := by decide +kernel
theorem dX8_doMeet_153 : decode cX8_doMeet 153 = .ok (.iconst 1, 1) := by decide +kernel
theorem dX8_doMeet_154 : decode cX8_doMeet 154 = .ok (.iadd, 1) := by decide +kernel
theorem dX8_doMeet_155 : decode cX8_doMeet 155 = .ok (.invokevirtual 115, 3) := by decide +kernel
theorem dX8_doMeet_158 : decode cX8_doMeet 158 = .ok (.invokestatic 119, 3) := by decide +kernel
theorem dX8_doMeet_161 : decode cX8_doMeet 161 = .ok (.istore 4, 2) := by decide +kernel
theorem dX8_doMeet_163 : decode cX8_doMeet 163 = .ok (.aload_n 0, 1) := by decide +kernel
theorem dX8_doMeet_164 : decode cX8_doMeet 164 = .ok (.iload_n 2, 1) := by decide +kernel
theorem dX8_doMeet_165 : decode cX8_doMeet 165 = .ok (.invokevirtual 112, 3) := by decide +kernel
theorem dX8_doMeet_168 : decode cX8_doMeet 168 = .ok (.aload_n 0, 1) := by decide +kernel
theorem dX8_doMeet_169 : decode cX8_doMeet 169 = .ok (.iload_n 2, 1) := by decide +kernel
theorem dX8_doMeet_170 : decode cX8_doMeet 170 = .ok (.invokevirtual 115, 3) := by decide +kernel
theorem dX8_doMeet_173 : decode cX8_doMeet 173 = .ok (.aload_n 0, 1) := by decide +kernel
theorem dX8_doMeet_174 : decode cX8_doMeet 174 = .ok (.iload_n 2, 1) := by decide +kernel
theorem dX8_doMeet_175 : decode cX8_doMeet 175 = .ok (.iconst 1, 1) := by decide +kernel
theorem dX8_doMeet_176 : decode cX8_doMeet 176 = .ok (.iadd, 1) := by decide +kernel
theorem dX8_doMeet_177 : decode cX8_doMeet 177 = .ok (.invokevirtual 112, 3) := by decide +kernel
theorem dX8_doMeet_180 : decode cX8_doMeet 180 = .ok (.aload_n 0, 1) := by decide +kernel
theorem dX8_doMeet_181 : decode cX8_doMeet 181 = .ok (.iload_n 2, 1) := by decide +kernel
theorem dX8_doMeet_182 : decode cX8_doMeet 182 = .ok (.iconst 1, 1) := by decide +kernel
theorem dX8_doMeet_183 : decode cX8_doMeet 183 = .ok (.iadd, 1) := by decide +kernel
theorem dX8_doMeet_184 : decode cX8_doMeet 184 = .ok (.invokevirtual 115, 3) := by decide +kernel
theorem dX8_doMeet_187 : decode cX8_doMeet 187 = .ok (.aload_n 0, 1) := by decide +kernel
theorem dX8_doMeet_188 : decode cX8_doMeet 188 = .ok (.iload_n 1, 1) := by decide +kernel
theorem dX8_doMeet_189 : decode cX8_doMeet 189 = .ok (.invokevirtual 112, 3) := by decide +kernel
theorem dX8_doMeet_192 : decode cX8_doMeet 192 = .ok (.aload_n 0, 1) := by decide +kernel
theorem dX8_doMeet_193 : decode cX8_doMeet 193 = .ok (.iload_n 1, 1) := by decide +kernel
theorem dX8_doMeet_194 : decode cX8_doMeet 194 = .ok (.invokevirtual 115, 3) := by decide +kernel
theorem dX8_doMeet_197 : decode cX8_doMeet 197 = .ok (.invokestatic 119, 3) := by decide +kernel
theorem dX8_doMeet_200 : decode cX8_doMeet 200 = .ok (.istore 5, 2) := by decide +kernel
theorem dX8_doMeet_202 : decode cX8_doMeet 202 = .ok (.aload_n 0, 1) := by decide +kernel
theorem dX8_doMeet_203 : decode cX8_doMeet 203 = .ok (.iload_n 2, 1) := by decide +kernel
theorem dX8_doMeet_204 : decode cX8_doMeet 204 = .ok (.invokevirtual 112, 3) := by decide +kernel
theorem dX8_doMeet_207 : decode cX8_doMeet 207 = .ok (.aload_n 0, 1) := by decide +kernel
theorem dX8_doMeet_208 : decode cX8_doMeet 208 = .ok (.iload_n 2, 1) := by decide +kernel
theorem dX8_doMeet_209 : decode cX8_doMeet 209 = .ok (.invokevirtual 115, 3) := by decide +kernel
theorem dX8_doMeet_212 : decode cX8_doMeet 212 = .ok (.aload_n 0, 1) := by decide +kernel
theorem dX8_doMeet_213 : decode cX8_doMeet 213 = .ok (.iload_n 2, 1) := by decide +kernel
theorem dX8_doMeet_214 : decode cX8_doMeet 214 = .ok (.iconst 1, 1) := by decide +kernel
theorem dX8_doMeet_215 : decode cX8_doMeet 215 = .ok (.iadd, 1) := by decide +kernel
theorem dX8_doMeet_216 : decode cX8_doMeet 216 = .ok (.invokevirtual 112, 3) := by decide +kernel
theorem dX8_doMeet_219 : decode cX8_doMeet 219 = .ok (.aload_n 0, 1) := by decide +kernel
theorem dX8_doMeet_220 : decode cX8_doMeet 220 = .ok (.iload_n 2, 1) := by decide +kernel
theorem dX8_doMeet_221 : decode cX8_doMeet 221 = .ok (.iconst 1, 1) := by decide +kernel
theorem dX8_doMeet_222 : decode cX8_doMeet 222 = .ok (.iadd, 1) := by decide +kernel
theorem dX8_doMeet_223 : decode cX8_doMeet 223 = .ok (.invokevirtual 115, 3) := by decide +kernel
theorem dX8_doMeet_226 : decode cX8_doMeet 226 = .ok (.aload_n 0, 1) := by decide +kernel
theorem dX8_doMeet_227 : decode cX8_doMeet 227 = .ok (.iload_n 1, 1) := by decide +kernel
theorem dX8_doMeet_228 : decode cX8_doMeet 228 = .ok (.iconst 1, 1) := by decide +kernel
theorem dX8_doMeet_229 : decode cX8_doMeet 229 = .ok (.iadd, 1) := by decide +kernel
theorem dX8_doMeet_230 : decode cX8_doMeet 230 = .ok (.invokevirtual 112, 3) := by decide +kernel
theorem dX8_doMeet_233 : decode cX8_doMeet 233 = .ok (.aload_n 0, 1) := by decide +kernel
theorem dX8_doMeet_234 : decode cX8_doMeet 234 = .ok (.iload_n 1, 1) := by decide +kernel
theorem dX8_doMeet_235 : decode cX8_doMeet 235 = .ok (.iconst 1, 1) := by decide +kernel
theorem dX8_doMeet_236 : decode cX8_doMeet 236 = .ok (.iadd, 1) := by decide +kernel
theorem dX8_doMeet_237 : decode cX8_doMeet 237 = .ok (.invokevirtual 115, 3) := by decide +kernel
theorem dX8_doMeet_240 : decode cX8_doMeet 240 = .ok (.invokestatic 119, 3) := by decide +kernel
theorem dX8_doMeet_243 : decode cX8_doMeet 243 = .ok (.istore 6, 2) := by decide +kernel
theorem dX8_doMeet_245 : decode cX8_doMeet 245 = .ok (.iload_n 3, 1) := by decide +kernel
theorem dX8_doMeet_246 : decode cX8_doMeet 246 = .ok (.iload 4, 2) := by decide +kernel
theorem dX8_doMeet_248 : decode cX8_doMeet 248 = .ok (.imul, 1) := by decide +kernel
theorem dX8_doMeet_249 : decode cX8_doMeet 249 = .ok (.ifCond .ge 15, 3) := by decide +kernel
theorem dX8_doMeet_252 : decode cX8_doMeet 252 = .ok (.iload 5, 2) := by decide +kernel
theorem dX8_doMeet_254 : decode cX8_doMeet 254 = .ok (.iload 6, 2) := by decide +kernel
theorem dX8_doMeet_256 : decode cX8_doMeet 256 = .ok (.imul, 1) := by decide +kernel
theorem dX8_doMeet_257 : decode cX8_doMeet 257 = .ok (.ifCond .ge 7, 3) := by decide +kernel
theorem dX8_doMeet_260 : decode cX8_doMeet 260 = .ok (.iconst 1, 1) := by decide +kernel
theorem dX8_doMeet_261 : decode cX8_doMeet 261 = .ok (.goto 4, 3) := by decide +kernel
theorem dX8_doMeet_264 : decode cX8_doMeet 264 = .ok (.iconst 0, 1) := by decide +kernel
theorem dX8_doMeet_265 : decode cX8_doMeet 265 = .ok (.ireturn, 1) := by decide +kernel
set_option maxRecDepth 20000 in
theorem ggX8_isSimple_X8_corners : GoodIn wsX8_isSimple wsX8_corners := goodIn_r _ [5, 6, 26, 27, 28, 29, 30, 31, 32, 33, 34, 35, 36, 37, 38, 39, 40, 41, 42, 43, 44, 45, 46, 47, 48] (by decide +kernel) (by decide +kernel)
set_option maxRecDepth 20000 in
theorem gX8_isSimple_X8_corners : GoodIn wsX8_isSimple (wsV RX8 108 RX8 yX8_corners wsX8_corners) := goodIn_app (goodIn_of _ (by decide +kernel)) ggX8_isSimple_X8_corners
set_option maxRecDepth 20000 in
theorem ggX8_isSimple_X8_xOf : GoodIn wsX8_isSimple wsX8_xOf := goodIn_r _ [10, 6, 1, 2, 3, 4, 5, 26, 27, 28, 29, 30, 31, 32, 33, 34, 35, 36, 37, 38, 39, 40, 41, 42, 43, 44, 45, 46, 47, 48] (by decide +kernel) (by decide +kernel)
set_option maxRecDepth 20000 in
theorem gX8_isSimple_X8_xOf : GoodIn wsX8_isSimple (wsV RX8 112 RX8 yX8_xOf wsX8_xOf) := goodIn_app (goodIn_of _ (by decide +kernel)) ggX8_isSimple_X8_xOf
set_option maxRecDepth 20000 in
theorem ggX8_isSimple_X8_yOf : GoodIn wsX8_isSimple wsX8_yOf := goodIn_r _ [14, 6, 1, 2, 3, 4, 5, 26, 27, 28, 29, 30, 31, 32, 33, 34, 35, 36, 37, 38, 39, 40, 41, 42, 43, 44, 45, 46, 47, 48] (by decide +kernel) (by decide +kernel)
set_option maxRecDepth 20000 in
theorem gX8_isSimple_X8_yOf : GoodIn wsX8_isSimple (wsV RX8 115 RX8 yX8_yOf wsX8_yOf) := goodIn_app (goodIn_of _ (by decide +kernel)) ggX8_isSimple_X8_yOf
set_option maxRecDepth 20000 in
theorem ggX8_isSimple_X8_isOn : GoodIn wsX8_isSimple wsX8_isOn := goodIn_r _ [18, 7, 8, 9, 4, 10, 6, 1, 2, 3, 5, 11, 12, 13, 14, 19, 20, 21, 26, 27, 28, 29, 30, 31, 32, 33, 34, 35, 36, 37, 38, 39, 40, 41, 42, 43, 44, 45, 46, 47, 48] (by decide +kernel) (by decide +kernel)
set_option maxRecDepth 20000 in
theorem gX8_isSimple_X8_isOn : GoodIn wsX8_isSimple (wsV RX8 123 RX8 yX8_isOn wsX8_isOn) := goodIn_app (goodIn_of _ (by decide +kernel)) ggX8_isSimple_X8_isOn
set_option maxRecDepth 20000 in
theorem ggX8_isSimple_X8_doMeet : GoodIn wsX8_isSimple wsX8_doMeet := goodIn_r _ [25, 7, 8, 9, 4, 10, 6, 1, 2, 3, 5, 11, 12, 13, 14, 15, 16, 17, 18, 19, 20, 21, 26, 27, 28, 29, 30, 31, 32, 33, 34, 35, 36, 37, 38, 39, 40, 41, 42, 43, 44, 45, 46, 47, 48] (by decide +kernel) (by decide +kernel)
set_option maxRecDepth 20000 in
theorem gX8_isSimple_X8_doMeet : GoodIn wsX8_isSimple (wsV RX8 126 RX8 yX8_doMeet wsX8_doMeet) := goodIn_app (goodIn_of _ (by decide +kernel)) ggX8_isSimple_X8_doMeet


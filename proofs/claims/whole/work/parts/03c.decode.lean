theorem dX7_within_0 : decode cX7_within 0 = .ok (.iload_n 1, 1) := by decide +kernel
theorem dX7_within_1 : decode cX7_within 1 = .ok (.iload_n 2, 1) := by decide +kernel
theorem dX7_within_2 : decode cX7_within 2 = .ok (.invokestatic 104, 3) := by decide +kernel
theorem dX7_within_5 : decode cX7_within 5 = .ok (.ifCond .ne 10, 3) := by decide +kernel
theorem dX7_within_8 : decode cX7_within 8 = .ok (.aload_n 0, 1) := by decide +kernel
theorem dX7_within_9 : decode cX7_within 9 = .ok (.ldc 83, 2) := by decide +kernel
theorem dX7_within_11 : decode cX7_within 11 = .ok (.invokevirtual 84, 3) := by decide +kernel
theorem dX7_within_14 : decode cX7_within 14 = .ok (.ireturn, 1) := by decide +kernel
theorem dX7_within_15 : decode cX7_within 15 = .ok (.aload_n 0, 1) := by decide +kernel
theorem dX7_within_16 : decode cX7_within 16 = .ok (.getfield 22, 3) := by decide +kernel
theorem dX7_within_19 : decode cX7_within 19 = .ok (.invokevirtual 176, 3) := by decide +kernel
theorem dX7_within_22 : decode cX7_within 22 = .ok (.ifCond .ne 10, 3) := by decide +kernel
theorem dX7_within_25 : decode cX7_within 25 = .ok (.aload_n 0, 1) := by decide +kernel
theorem dX7_within_26 : decode cX7_within 26 = .ok (.ldc 182, 2) := by decide +kernel
theorem dX7_within_28 : decode cX7_within 28 = .ok (.invokevirtual 84, 3) := by decide +kernel
theorem dX7_within_31 : decode cX7_within 31 = .ok (.ireturn, 1) := by decide +kernel
theorem dX7_within_32 : decode cX7_within 32 = .ok (.aload_n 0, 1) := by decide +kernel
theorem dX7_within_33 : decode cX7_within 33 = .ok (.getfield 22, 3) := by decide +kernel
theorem dX7_within_36 : decode cX7_within 36 = .ok (.iload_n 1, 1) := by decide +kernel
theorem dX7_within_37 : decode cX7_within 37 = .ok (.iload_n 2, 1) := by decide +kernel
theorem dX7_within_38 : decode cX7_within 38 = .ok (.invokevirtual 183, 3) := by decide +kernel
theorem dX7_within_41 : decode cX7_within 41 = .ok (.ireturn, 1) := by decide +kernel
set_option maxRecDepth 20000 in
theorem ggX7_across_X7_refusalOfPiece : GoodIn wsX7_across wsX7_refusalOfPiece := goodIn_r _ [5, 6, 7, 8, 9, 10, 11, 12, 13, 14, 15, 16, 17, 18, 19, 20, 124, 125, 126, 127, 128, 129, 130, 131, 132, 133, 134, 135, 136, 137, 138, 139] (by decide +kernel) (by decide +kernel)
set_option maxRecDepth 20000 in
theorem gX7_across_X7_refusalOfPiece : GoodIn wsX7_across (wsV RX7 186 RX7 yX7_refusalOfPiece wsX7_refusalOfPiece) := goodIn_app (goodIn_of _ (by decide +kernel)) ggX7_across_X7_refusalOfPiece
set_option maxRecDepth 20000 in
theorem ggX7_across_X7_finding : GoodIn wsX7_across wsX7_finding := goodIn_r _ [24, 25, 124, 125, 126, 127, 128, 129, 130, 131, 132, 133, 134, 135, 136] (by decide +kernel) (by decide +kernel)
set_option maxRecDepth 20000 in
theorem gX7_across_X7_finding : GoodIn wsX7_across (wsV RX7 84 RX7 yX7_finding wsX7_finding) := goodIn_app (goodIn_of _ (by decide +kernel)) ggX7_across_X7_finding
set_option maxRecDepth 20000 in
theorem ggX7_across_X7_signAcross : GoodIn wsX7_across wsX7_signAcross := goodIn_r _ [29, 30, 31, 32, 33, 34, 4, 35, 6, 36, 37, 38, 39, 40, 41, 42, 43, 44, 45, 46, 47, 48, 49, 50, 51, 52, 53, 54, 55, 11, 12, 13, 14, 15, 56, 17, 18, 19, 20, 57, 58, 59, 60, 61, 62, 63, 64, 65, 66, 67, 68, 69, 70, 71, 72, 73, 74, 75, 10, 16, 76, 77, 78, 79, 80, 81, 82, 83, 84, 85, 86, 87, 88, 89, 90, 91, 92, 93, 94, 95, 96, 97, 98, 99, 100, 101, 102, 103, 104, 105, 106, 107, 108, 109, 110, 111, 112, 113, 114, 115, 116, 117, 118, 119, 120, 121, 122, 123, 124, 125, 126, 127, 128, 129, 130, 131, 132, 133, 134, 135, 136, 140, 141, 142, 143, 144, 137, 138, 139, 145] (by decide +kernel) (by decide +kernel)
set_option maxRecDepth 20000 in
theorem gX7_across_X7_signAcross : GoodIn wsX7_across (wsV RX7 189 RX7 yX7_signAcross wsX7_signAcross) := goodIn_app (goodIn_of _ (by decide +kernel)) ggX7_across_X7_signAcross
theorem dX7_across_0 : decode cX7_across 0 = .ok (.aload_n 0, 1) := by decide +kernel
theorem dX7_across_1 : decode cX7_across 1 = .ok (.iload_n 1, 1) := by decide +kernel
theorem dX7_across_2 : decode cX7_across 2 = .ok (.invokevirtual 186, 3) := by decide +kernel
theorem dX7_across_5 : decode cX7_across 5 = .ok (.istore_n 2, 1) := by decide +kernel
theorem dX7_across_6 : decode cX7_across 6 = .ok (.iload_n 2, 1) := by decide +kernel
theorem dX7_across_7 : decode cX7_across 7 = .ok (.ifCond .eq 9, 3) := by decide +kernel
theorem dX7_across_10 : decode cX7_across 10 = .ok (.aload_n 0, 1) := by decide +kernel
theorem dX7_across_11 : decode cX7_across 11 = .ok (.iload_n 2, 1) := by decide +kernel
theorem dX7_across_12 : decode cX7_across 12 = .ok (.invokevirtual 84, 3) := by decide +kernel
theorem dX7_across_15 : decode cX7_across 15 = .ok (.ireturn, 1) := by decide +kernel
theorem dX7_across_16 : decode cX7_across 16 = .ok (.aload_n 0, 1) := by decide +kernel
theorem dX7_across_17 : decode cX7_across 17 = .ok (.iload_n 1, 1) := by decide +kernel
theorem dX7_across_18 : decode cX7_across 18 = .ok (.invokevirtual 189, 3) := by decide +kernel
theorem dX7_across_21 : decode cX7_across 21 = .ok (.ireturn, 1) := by decide +kernel
set_option maxRecDepth 20000 in
theorem ggX7_turns_X7_refusalOfPiece : GoodIn wsX7_turns wsX7_refusalOfPiece := goodIn_r _ [6, 7, 8, 9, 10, 11, 12, 13, 14, 15, 16, 17, 18, 19, 20, 21, 118, 119, 120, 121, 122, 123, 124, 125, 126, 127, 128, 129, 130, 131, 132, 133] (by decide +kernel) (by decide +kernel)
set_option maxRecDepth 20000 in
theorem gX7_turns_X7_refusalOfPiece : GoodIn wsX7_turns (wsV RX7 186 RX7 yX7_refusalOfPiece wsX7_refusalOfPiece) := goodIn_app (goodIn_of _ (by decide +kernel)) ggX7_turns_X7_refusalOfPiece
set_option maxRecDepth 20000 in
theorem ggX7_turns_X7_finding : GoodIn wsX7_turns wsX7_finding := goodIn_r _ [25, 26, 118, 119, 120, 121, 122, 123, 124, 125, 126, 127, 128, 129, 130] (by decide +kernel) (by decide +kernel)
set_option maxRecDepth 20000 in
theorem gX7_turns_X7_finding : GoodIn wsX7_turns (wsV RX7 84 RX7 yX7_finding wsX7_finding) := goodIn_app (goodIn_of _ (by decide +kernel)) ggX7_turns_X7_finding
set_option maxRecDepth 20000 in
theorem ggX7_turns_X7_followAcross : GoodIn wsX7_turns wsX7_followAcross := goodIn_r _ [30, 1, 7, 31, 32, 33, 34, 35, 5, 36, 37, 38, 39, 40, 41, 42, 43, 44, 45, 46, 47, 48, 49, 50, 12, 13, 14, 15, 16, 51, 18, 19, 20, 21, 52, 53, 54, 55, 56, 57, 58, 59, 60, 61, 62, 63, 64, 65, 66, 67, 68, 69, 70, 11, 17, 71, 72, 73, 74, 118, 119, 120, 121, 122, 123, 124, 125, 126, 127, 128, 129, 130, 134, 135, 131, 132, 133, 136, 137, 138, 139] (by decide +kernel) (by decide +kernel)
set_option maxRecDepth 20000 in
theorem gX7_turns_X7_followAcross : GoodIn wsX7_turns (wsV RX7 192 RX7 yX7_followAcross wsX7_followAcross) := goodIn_app (goodIn_of _ (by decide +kernel)) ggX7_turns_X7_followAcross
set_option maxRecDepth 20000 in
theorem ggX7_turns_X4_zerosOnPiece : GoodIn wsX7_turns wsX4_zerosOnPiece := goodIn_r _ [78, 79, 80, 81, 43, 82, 47, 48, 49, 83, 84, 85, 86, 87, 88, 89, 90, 91, 92, 93, 94, 95, 96, 97, 98, 99, 100, 101, 102, 103, 104, 105, 106, 107, 108, 109, 110, 111, 112, 113, 114, 115, 116, 117, 136, 137, 138] (by decide +kernel) (by decide +kernel)
set_option maxRecDepth 20000 in
theorem gX7_turns_X4_zerosOnPiece : GoodIn wsX7_turns (wsV RX7 196 RX4 yX4_zerosOnPiece wsX4_zerosOnPiece) := goodIn_app (goodIn_of _ (by decide +kernel)) ggX7_turns_X4_zerosOnPiece
theorem dX7_turns_0 : decode cX7_turns 0 = .ok (.aload_n 0, 1) := by decide +kernel
theorem dX7_turns_1 : decode cX7_turns 1 = .ok (.iload_n 1, 1) := by decide +kernel
theorem dX7_turns_2 : decode cX7_turns 2 = .ok (.invokevirtual 186, 3) := by decide +kernel
theorem dX7_turns_5 : decode cX7_turns 5 = .ok (.istore_n 2, 1) := by decide +kernel
theorem dX7_turns_6 : decode cX7_turns 6 = .ok (.iload_n 2, 1) := by decide +kernel
theorem dX7_turns_7 : decode cX7_turns 7 = .ok (.ifCond .eq 9, 3) := by decide +kernel
theorem dX7_turns_10 : decode cX7_turns 10 = .ok (.aload_n 0, 1) := by decide +kernel
theorem dX7_turns_11 : decode cX7_turns 11 = .ok (.iload_n 2, 1) := by decide +kernel
theorem dX7_turns_12 : decode cX7_turns 12 = .ok (.invokevirtual 84, 3) := by decide +kernel
theorem dX7_turns_15 : decode cX7_turns 15 = .ok (.ireturn, 1) := by decide +kernel
theorem dX7_turns_16 : decode cX7_turns 16 = .ok (.aload_n 0, 1) := by decide +kernel
theorem dX7_turns_17 : decode cX7_turns 17 = .ok (.iload_n 1, 1) := by decide +kernel
theorem dX7_turns_18 : decode cX7_turns 18 = .ok (.invokevirtual 192, 3) := by decide +kernel
theorem dX7_turns_21 : decode cX7_turns 21 = .ok (.aload_n 0, 1) := by decide +kernel
theorem dX7_turns_22 : decode cX7_turns 22 = .ok (.getfield 58, 3) := by decide +kernel
theorem dX7_turns_25 : decode cX7_turns 25 = .ok (.invokevirtual 196, 3) := by decide +kernel
theorem dX7_turns_28 : decode cX7_turns 28 = .ok (.ireturn, 1) := by decide +kernel
set_option maxRecDepth 20000 in
theorem ggX7_held_X0_isLeft : GoodIn wsX7_held wsX0_isLeft := goodIn_r _ [8, 9, 10, 11, 7, 12, 13, 14, 15, 16, 17, 18, 19, 20, 21, 22, 23, 24, 25, 26, 27, 28, 29, 30, 31, 32, 33, 34, 35, 36, 37, 38, 39, 40, 41, 42, 43, 44, 45, 46, 47, 48, 49, 50, 51, 52, 53, 54, 180, 181, 182] (by decide +kernel) (by decide +kernel)
set_option maxRecDepth 20000 in
theorem gX7_held_X0_isLeft : GoodIn wsX7_held (wsV RX7 172 RX0 yX0_isLeft wsX0_isLeft) := goodIn_app (goodIn_of _ (by decide +kernel)) ggX7_held_X0_isLeft
set_option maxRecDepth 20000 in
theorem ggX7_held_X7_finding : GoodIn wsX7_held wsX7_finding := goodIn_r _ [59, 60, 167, 168, 169, 170, 171, 172, 173, 174, 175, 176, 177, 178, 179] (by decide +kernel) (by decide +kernel)
set_option maxRecDepth 20000 in
theorem gX7_held_X7_finding : GoodIn wsX7_held (wsV RX7 84 RX7 yX7_finding wsX7_finding) := goodIn_app (goodIn_of _ (by decide +kernel)) ggX7_held_X7_finding
set_option maxRecDepth 20000 in
theorem ggX7_held_X7_signAcross : GoodIn wsX7_held wsX7_signAcross := goodIn_r _ [64, 65, 66, 67, 68, 69, 58, 70, 1, 71, 72, 73, 74, 75, 76, 77, 78, 79, 80, 81, 82, 83, 84, 85, 86, 87, 88, 89, 90, 91, 92, 7, 93, 18, 94, 95, 96, 97, 19, 98, 99, 100, 101, 102, 103, 104, 105, 106, 107, 108, 109, 110, 111, 112, 113, 114, 115, 116, 117, 118, 119, 120, 121, 122, 123, 124, 125, 126, 127, 128, 129, 130, 131, 132, 133, 134, 135, 136, 137, 138, 139, 140, 141, 142, 143, 144, 145, 146, 147, 148, 149, 150, 151, 152, 153, 154, 155, 156, 157, 158, 159, 160, 161, 162, 163, 164, 165, 166, 167, 168, 169, 170, 171, 172, 173, 174, 175, 176, 177, 178, 179, 183, 184, 185, 186, 187, 180, 181, 182, 188] (by decide +kernel) (by decide +kernel)
set_option maxRecDepth 20000 in
theorem gX7_held_X7_signAcross : GoodIn wsX7_held (wsV RX7 189 RX7 yX7_signAcross wsX7_signAcross) := goodIn_app (goodIn_of _ (by decide +kernel)) ggX7_held_X7_signAcross
theorem dX7_held_0 : decode cX7_held 0 = .ok (.aload_n 0, 1) := by decide +kernel
theorem dX7_held_1 : decode cX7_held 1 = .ok (.getfield 22, 3) := by decide +kernel
theorem dX7_held_4 : decode cX7_held 4 = .ok (.invokevirtual 172, 3) := by decide +kernel
theorem dX7_held_7 : decode cX7_held 7 = .ok (.ifCond .ne 10, 3) := by decide +kernel
theorem dX7_held_10 : decode cX7_held 10 = .ok (.aload_n 0, 1) := by decide +kernel
theorem dX7_held_11 : decode cX7_held 11 = .ok (.ldc 182, 2) := by decide +kernel
theorem dX7_held_13 : decode cX7_held 13 = .ok (.invokevirtual 84, 3) := by decide +kernel
theorem dX7_held_16 : decode cX7_held 16 = .ok (.ireturn, 1) := by decide +kernel
theorem dX7_held_17 : decode cX7_held 17 = .ok (.iload_n 1, 1) := by decide +kernel
theorem dX7_held_18 : decode cX7_held 18 = .ok (.ifCond .eq 7, 3) := by decide +kernel
theorem dX7_held_21 : decode cX7_held 21 = .ok (.iconst (-1), 1) := by decide +kernel
theorem dX7_held_22 : decode cX7_held 22 = .ok (.goto 4, 3) := by decide +kernel
theorem dX7_held_25 : decode cX7_held 25 = .ok (.iconst 1, 1) := by decide +kernel
theorem dX7_held_26 : decode cX7_held 26 = .ok (.istore_n 2, 1) := by decide +kernel
theorem dX7_held_27 : decode cX7_held 27 = .ok (.iconst 0, 1) := by decide +kernel
theorem dX7_held_28 : decode cX7_held 28 = .ok (.istore_n 3, 1) := by decide +kernel
theorem dX7_held_29 : decode cX7_held 29 = .ok (.iload_n 3, 1) := by decide +kernel
theorem dX7_held_30 : decode cX7_held 30 = .ok (.aload_n 0, 1) := by decide +kernel
theorem dX7_held_31 : decode cX7_held 31 = .ok (.getfield 22, 3) := by decide +kernel
theorem dX7_held_34 : decode cX7_held 34 = .ok (.getfield 160, 3) := by decide +kernel
theorem dX7_held_37 : decode cX7_held 37 = .ok (.if_icmp .ge 20, 3) := by decide +kernel
theorem dX7_held_40 : decode cX7_held 40 = .ok (.aload_n 0, 1) := by decide +kernel
theorem dX7_held_41 : decode cX7_held 41 = .ok (.iload_n 3, 1) := by decide +kernel
theorem dX7_held_42 : decode cX7_held 42 = .ok (.invokevirtual 189, 3) := by decide +kernel
theorem dX7_held_45 : decode cX7_held 45 = .ok (.iload_n 2, 1) := by decide +kernel
theorem dX7_held_46 : decode cX7_held 46 = .ok (.if_icmp .eq 5, 3) := by decide +kernel
theorem dX7_held_49 : decode cX7_held 49 = .ok (.iconst 0, 1) := by decide +kernel
theorem dX7_held_50 : decode cX7_held 50 = .ok (.ireturn, 1) := by decide +kernel
theorem dX7_held_51 : decode cX7_held 51 = .ok (.iinc 3 1, 3) := by decide +kernel
theorem dX7_held_54 : decode cX7_held 54 = .ok (.goto (-25), 3) := by decide +kernel
theorem dX7_held_57 : decode cX7_held 57 = .ok (.iconst 1, 1) := by decide +kernel
theorem dX7_held_58 : decode cX7_held 58 = .ok (.ireturn, 1) := by decide +kernel
set_option maxRecDepth 20000 in
theorem ggX7_wind_X7_finding : GoodIn wsX7_wind wsX7_finding := goodIn_r _ [11, 12, 123, 124, 125, 126, 127, 128, 129, 130, 131, 132, 133, 134, 135] (by decide +kernel) (by decide +kernel)
set_option maxRecDepth 20000 in
theorem gX7_wind_X7_finding : GoodIn wsX7_wind (wsV RX7 84 RX7 yX7_finding wsX7_finding) := goodIn_app (goodIn_of _ (by decide +kernel)) ggX7_wind_X7_finding
set_option maxRecDepth 20000 in
theorem ggX7_wind_X7_followSpeeds : GoodIn wsX7_wind wsX7_followSpeeds := goodIn_r _ [16, 5, 17, 18, 1, 4, 19, 20, 21, 22, 23, 24, 25, 26, 27, 28, 29, 30, 31, 32, 33, 34, 35, 36, 37, 38, 39, 40, 41, 42, 43, 44, 45, 46, 47, 48, 49, 50, 51, 52, 53, 54, 55, 56, 57, 58, 59, 123, 124, 125, 126, 127, 128, 129, 130, 131, 132, 133, 134, 135, 139, 140, 136, 137, 138, 141, 142, 143, 144] (by decide +kernel) (by decide +kernel)
set_option maxRecDepth 20000 in
theorem gX7_wind_X7_followSpeeds : GoodIn wsX7_wind (wsV RX7 199 RX7 yX7_followSpeeds wsX7_followSpeeds) := goodIn_app (goodIn_of _ (by decide +kernel)) ggX7_wind_X7_followSpeeds
set_option maxRecDepth 20000 in
theorem ggX7_wind_X4_meetsZeroOf : GoodIn wsX7_wind wsX4_meetsZeroOf := goodIn_r _ [63, 64, 65, 66, 23, 67, 27, 28, 29, 68, 69, 70, 71, 72, 73, 74, 75, 76, 77, 78, 79, 80, 81, 82, 83, 84, 85, 86, 87, 88, 89, 90, 91, 92, 93, 94, 95, 96, 97, 98, 99, 100, 101, 102, 103, 104, 105, 106, 107, 108, 109, 110, 141, 142, 143] (by decide +kernel) (by decide +kernel)
set_option maxRecDepth 20000 in
theorem gX7_wind_X4_meetsZeroOf : GoodIn wsX7_wind (wsV RX7 202 RX4 yX4_meetsZeroOf wsX4_meetsZeroOf) := goodIn_app (goodIn_of _ (by decide +kernel)) ggX7_wind_X4_meetsZeroOf
set_option maxRecDepth 20000 in
theorem ggX7_wind_X4_upwardCrossings : GoodIn wsX7_wind wsX4_upwardCrossings := goodIn_r _ [114, 72, 73, 74, 23, 75, 27, 28, 76, 77, 78, 79, 80, 29, 81, 82, 83, 84, 85, 86, 87, 88, 89, 90, 91, 92, 93, 94, 95, 96, 97, 98, 99, 100, 101, 102, 103, 104, 105, 106, 107, 108, 109, 110, 115, 116, 117, 118, 119, 120, 121, 122, 141, 142, 143] (by decide +kernel) (by decide +kernel)
set_option maxRecDepth 20000 in
theorem gX7_wind_X4_upwardCrossings : GoodIn wsX7_wind (wsV RX7 207 RX4 yX4_upwardCrossings wsX4_upwardCrossings) := goodIn_app (goodIn_of _ (by decide +kernel)) ggX7_wind_X4_upwardCrossings
theorem dX7_wind_0 : decode cX7_wind 0 = .ok (.aload_n 0, 1) := by decide +kernel
theorem dX7_wind_1 : decode cX7_wind 1 = .ok (.getfield 22, 3) := by decide +kernel
theorem dX7_wind_4 : decode cX7_wind 4 = .ok (.getfield 160, 3) := by decide +kernel
theorem dX7_wind_7 : decode cX7_wind 7 = .ok (.iconst 2, 1) := by decide +kernel
theorem dX7_wind_8 : decode cX7_wind 8 = .ok (.if_icmp .ge 10, 3) := by decide +kernel
theorem dX7_wind_11 : decode cX7_wind 11 = .ok (.aload_n 0, 1) := by decide +kernel
theorem dX7_wind_12 : decode cX7_wind 12 = .ok (.ldc 146, 2) := by decide +kernel
theorem dX7_wind_14 : decode cX7_wind 14 = .ok (.invokevirtual 84, 3) := by decide +kernel
theorem dX7_wind_17 : decode cX7_wind 17 = .ok (.ireturn, 1) := by decide +kernel
theorem dX7_wind_18 : decode cX7_wind 18 = .ok (.iconst 0, 1) := by decide +kernel
theorem dX7_wind_19 : decode cX7_wind 19 = .ok (.istore_n 1, 1) := by decide +kernel
theorem dX7_wind_20 : decode cX7_wind 20 = .ok (.iconst 0, 1) := by decide +kernel
theorem dX7_wind_21 : decode cX7_wind 21 = .ok (.istore_n 2, 1) := by decide +kernel
theorem dX7_wind_22 : decode cX7_wind 22 = .ok (.iload_n 2, 1) := by decide +kernel
theorem dX7_wind_23 : decode cX7_wind 23 = .ok (.aload_n 0, 1) := by decide +kernel
theorem dX7_wind_24 : decode cX7_wind 24 = .ok (.getfield 22, 3) := by decide +kernel
theorem dX7_wind_27 : decode cX7_wind 27 = .ok (.getfield 160, 3) := by decide +kernel
theorem dX7_wind_30 : decode cX7_wind 30 = .ok (.if_icmp .ge 49, 3) := by decide +kernel
theorem dX7_wind_33 : decode cX7_wind 33 = .ok (.aload_n 0, 1) := by decide +kernel
theorem dX7_wind_34 : decode cX7_wind 34 = .ok (.iload_n 2, 1) := by decide +kernel
theorem dX7_wind_35 : decode cX7_wind 35 = .ok (.invokevirtual 199, 3) := by decide +kernel
theorem dX7_wind_38 : decode cX7_wind 38 = .ok (.aload_n 0, 1) := by decide +kernel
theorem dX7_wind_39 : decode cX7_wind 39 = .ok (.getfield 55, 3) := by decide +kernel
theorem dX7_wind_42 : decode cX7_wind 42 = .ok (.aload_n 0, 1) := by decide +kernel
theorem dX7_wind_43 : decode cX7_wind 43 = .ok (.getfield 51, 3) := by decide +kernel
theorem dX7_wind_46 : decode cX7_wind 46 = .ok (.invokevirtual 202, 3) := by decide +kernel
theorem dX7_wind_49 : decode cX7_wind 49 = .ok (.ifCond .eq 10, 3) := by decide +kernel
theorem dX7_wind_52 : decode cX7_wind 52 = .ok (.aload_n 0, 1) := by decide +kernel
theorem dX7_wind_53 : decode cX7_wind 53 = .ok (.ldc 206, 2) := by decide +kernel
theorem dX7_wind_55 : decode cX7_wind 55 = .ok (.invokevirtual 84, 3) := by decide +kernel
theorem dX7_wind_58 : decode cX7_wind 58 = .ok (.ireturn, 1) := by decide +kernel
theorem dX7_wind_59 : decode cX7_wind 59 = .ok (.iload_n 1, 1) := by decide +kernel
theorem dX7_wind_60 : decode cX7_wind 60 = .ok (.aload_n 0, 1) := by decide +kernel
theorem dX7_wind_61 : decode cX7_wind 61 = .ok (.getfield 55, 3) := by decide +kernel
theorem dX7_wind_64 : decode cX7_wind 64 = .ok (.aload_n 0, 1) := by decide +kernel
theorem dX7_wind_65 : decode cX7_wind 65 = .ok (.getfield 51, 3) := by decide +kernel
theorem dX7_wind_68 : decode cX7_wind 68 = .ok (.invokevirtual 207, 3) := by decide +kernel
theorem dX7_wind_71 : decode cX7_wind 71 = .ok (.iadd, 1) := by decide +kernel
theorem dX7_wind_72 : decode cX7_wind 72 = .ok (.istore_n 1, 1) := by decide +kernel
theorem dX7_wind_73 : decode cX7_wind 73 = .ok (.iinc 2 1, 3) := by decide +kernel
theorem dX7_wind_76 : decode cX7_wind 76 = .ok (.goto (-54), 3) := by decide +kernel
theorem dX7_wind_79 : decode cX7_wind 79 = .ok (.iload_n 1, 1) := by decide +kernel
theorem dX7_wind_80 : decode cX7_wind 80 = .ok (.ireturn, 1) := by decide +kernel
set_option maxRecDepth 20000 in
theorem ggX7_indexes_X0_isSimple : GoodIn wsX7_indexes wsX0_isSimple := goodIn_r _ [9, 10, 11, 12, 13, 8, 14, 15, 16, 17, 18, 19, 20, 21, 22, 23, 24, 25, 26, 27, 28, 29, 30, 31, 32, 33, 34, 35, 36, 37, 38, 39, 40, 41, 42, 43, 44, 45, 46, 47, 104, 105, 106] (by decide +kernel) (by decide +kernel)
set_option maxRecDepth 20000 in
theorem gX7_indexes_X0_isSimple : GoodIn wsX7_indexes (wsV RX7 176 RX0 yX0_isSimple wsX0_isSimple) := goodIn_app (goodIn_of _ (by decide +kernel)) ggX7_indexes_X0_isSimple
set_option maxRecDepth 20000 in
theorem ggX7_indexes_X7_finding : GoodIn wsX7_indexes wsX7_finding := goodIn_r _ [52, 53, 91, 92, 93, 94, 95, 96, 97, 98, 99, 100, 101, 102, 103] (by decide +kernel) (by decide +kernel)
set_option maxRecDepth 20000 in
theorem gX7_indexes_X7_finding : GoodIn wsX7_indexes (wsV RX7 84 RX7 yX7_finding wsX7_finding) := goodIn_app (goodIn_of _ (by decide +kernel)) ggX7_indexes_X7_finding
set_option maxRecDepth 20000 in
theorem ggX7_indexes_X1_isRest : GoodIn wsX7_indexes wsX1_isRest := goodIn_r _ [58, 59, 60, 61, 62, 63, 64, 65, 66, 67, 68, 69, 70, 107, 108, 109] (by decide +kernel) (by decide +kernel)
set_option maxRecDepth 20000 in
theorem gX7_indexes_X1_isRest : GoodIn wsX7_indexes (wsV RX7 150 RX1 yX1_isRest wsX1_isRest) := goodIn_app (goodIn_of _ (by decide +kernel)) ggX7_indexes_X1_isRest
set_option maxRecDepth 20000 in
theorem ggX7_indexes_X0_whereIs : GoodIn wsX7_indexes wsX0_whereIs := goodIn_r _ [74, 10, 25, 26, 27, 8, 28, 15, 29, 30, 31, 32, 33, 34, 35, 16, 36, 37, 38, 39, 75, 76, 77, 78, 104, 105, 106] (by decide +kernel) (by decide +kernel)
set_option maxRecDepth 20000 in
theorem gX7_indexes_X0_whereIs : GoodIn wsX7_indexes (wsV RX7 183 RX0 yX0_whereIs wsX0_whereIs) := goodIn_app (goodIn_of _ (by decide +kernel)) ggX7_indexes_X0_whereIs
set_option maxRecDepth 20000 in
theorem ggX7_indexes_X1_sortAt : GoodIn wsX7_indexes wsX1_sortAt := goodIn_r _ [82, 59, 60, 83, 84, 85, 64, 86, 66, 87, 88, 89, 90, 107, 108, 109] (by decide +kernel) (by decide +kernel)
set_option maxRecDepth 20000 in
theorem gX7_indexes_X1_sortAt : GoodIn wsX7_indexes (wsV RX7 153 RX1 yX1_sortAt wsX1_sortAt) := goodIn_app (goodIn_of _ (by decide +kernel)) ggX7_indexes_X1_sortAt
theorem dX7_indexes_0 : decode cX7_indexes 0 = .ok (.aload_n 0, 1) := by decide +kernel
theorem dX7_indexes_1 : decode cX7_indexes 1 = .ok (.getfield 22, 3) := by decide +kernel
theorem dX7_indexes_4 : decode cX7_indexes 4 = .ok (.invokevirtual 176, 3) := by decide +kernel
theorem dX7_indexes_7 : decode cX7_indexes 7 = .ok (.ifCond .ne 10, 3) := by decide +kernel
theorem dX7_indexes_10 : decode cX7_indexes 10 = .ok (.aload_n 0, 1) := by decide +kernel
theorem dX7_indexes_11 : decode cX7_indexes 11 = .ok (.ldc 182, 2) := by decide +kernel
theorem dX7_indexes_13 : decode cX7_indexes 13 = .ok (.invokevirtual 84, 3) := by decide +kernel
theorem dX7_indexes_16 : decode cX7_indexes 16 = .ok (.ireturn, 1) := by decide +kernel
theorem dX7_indexes_17 : decode cX7_indexes 17 = .ok (.iconst 0, 1) := by decide +kernel
theorem dX7_indexes_18 : decode cX7_indexes 18 = .ok (.istore_n 1, 1) := by decide +kernel
theorem dX7_indexes_19 : decode cX7_indexes 19 = .ok (.bipush (-6), 2) := by decide +kernel
theorem dX7_indexes_21 : decode cX7_indexes 21 = .ok (.istore_n 2, 1) := by decide +kernel
theorem dX7_indexes_22 : decode cX7_indexes 22 = .ok (.iload_n 2, 1) := by decide +kernel
theorem dX7_indexes_23 : decode cX7_indexes 23 = .ok (.bipush 6, 2) := by decide +kernel
theorem dX7_indexes_25 : decode cX7_indexes 25 = .ok (.if_icmp .gt 90, 3) := by decide +kernel
theorem dX7_indexes_28 : decode cX7_indexes 28 = .ok (.bipush (-6), 2) := by decide +kernel
theorem dX7_indexes_30 : decode cX7_indexes 30 = .ok (.istore_n 3, 1) := by decide +kernel
theorem dX7_indexes_31 : decode cX7_indexes 31 = .ok (.iload_n 3, 1) := by decide +kernel
theorem dX7_indexes_32 : decode cX7_indexes 32 = .ok (.bipush 6, 2) := by decide +kernel
theorem dX7_indexes_34 : decode cX7_indexes 34 = .ok (.if_icmp .gt 75, 3) := by decide +kernel
theorem dX7_indexes_37 : decode cX7_indexes 37 = .ok (.aload_n 0, 1) := by decide +kernel
theorem dX7_indexes_38 : decode cX7_indexes 38 = .ok (.getfield 10, 3) := by decide +kernel
theorem dX7_indexes_41 : decode cX7_indexes 41 = .ok (.iload_n 2, 1) := by decide +kernel
theorem dX7_indexes_42 : decode cX7_indexes 42 = .ok (.iload_n 3, 1) := by decide +kernel
theorem dX7_indexes_43 : decode cX7_indexes 43 = .ok (.invokevirtual 150, 3) := by decide +kernel
theorem dX7_indexes_46 : decode cX7_indexes 46 = .ok (.ifCond .eq 57, 3) := by decide +kernel
theorem dX7_indexes_49 : decode cX7_indexes 49 = .ok (.aload_n 0, 1) := by decide +kernel
theorem dX7_indexes_50 : decode cX7_indexes 50 = .ok (.getfield 22, 3) := by decide +kernel
theorem dX7_indexes_53 : decode cX7_indexes 53 = .ok (.iload_n 2, 1) := by decide +kernel
theorem dX7_indexes_54 : decode cX7_indexes 54 = .ok (.iload_n 3, 1) := by decide +kernel
theorem dX7_indexes_55 : decode cX7_indexes 55 = .ok (.invokevirtual 183, 3) := by decide +kernel
theorem dX7_indexes_58 : decode cX7_indexes 58 = .ok (.iconst 2, 1) := by decide +kernel
theorem dX7_indexes_59 : decode cX7_indexes 59 = .ok (.if_icmp .eq 6, 3) := by decide +kernel
theorem dX7_indexes_62 : decode cX7_indexes 62 = .ok (.goto 41, 3) := by decide +kernel
theorem dX7_indexes_65 : decode cX7_indexes 65 = .ok (.aload_n 0, 1) := by decide +kernel
theorem dX7_indexes_66 : decode cX7_indexes 66 = .ok (.getfield 10, 3) := by decide +kernel
theorem dX7_indexes_69 : decode cX7_indexes 69 = .ok (.iload_n 2, 1) := by decide +kernel
theorem dX7_indexes_70 : decode cX7_indexes 70 = .ok (.iload_n 3, 1) := by decide +kernel
theorem dX7_indexes_71 : decode cX7_indexes 71 = .ok (.invokevirtual 153, 3) := by decide +kernel
theorem dX7_indexes_74 : decode cX7_indexes 74 = .ok (.istore 4, 2) := by decide +kernel
theorem dX7_indexes_76 : decode cX7_indexes 76 = .ok (.iload 4, 2) := by decide +kernel
theorem dX7_indexes_78 : decode cX7_indexes 78 = .ok (.iconst 5, 1) := by decide +kernel
theorem dX7_indexes_79 : decode cX7_indexes 79 = .ok (.if_icmp .ne 10, 3) := by decide +kernel
theorem dX7_indexes_82 : decode cX7_indexes 82 = .ok (.aload_n 0, 1) := by decide +kernel
theorem dX7_indexes_83 : decode cX7_indexes 83 = .ok (.ldc 146, 2) := by decide +kernel
theorem dX7_indexes_85 : decode cX7_indexes 85 = .ok (.invokevirtual 84, 3) := by decide +kernel
theorem dX7_indexes_88 : decode cX7_indexes 88 = .ok (.ireturn, 1) := by decide +kernel
theorem dX7_indexes_89 : decode cX7_indexes 89 = .ok (.iload_n 1, 1) := by decide +kernel
theorem dX7_indexes_90 : decode cX7_indexes 90 = .ok (.iload 4, 2) := by decide +kernel
theorem dX7_indexes_92 : decode cX7_indexes 92 = .ok (.iconst 1, 1) := by decide +kernel
theorem dX7_indexes_93 : decode cX7_indexes 93 = .ok (.if_icmp .ne 7, 3) := by decide +kernel
theorem dX7_indexes_96 : decode cX7_indexes 96 = .ok (.iconst (-1), 1) := by decide +kernel
theorem dX7_indexes_97 : decode cX7_indexes 97 = .ok (.goto 4, 3) := by decide +kernel
theorem dX7_indexes_100 : decode cX7_indexes 100 = .ok (.iconst 1, 1) := by decide +kernel
theorem dX7_indexes_101 : decode cX7_indexes 101 = .ok (.iadd, 1) := by decide +kernel
theorem dX7_indexes_102 : decode cX7_indexes 102 = .ok (.istore_n 1, 1) := by decide +kernel
theorem dX7_indexes_103 : decode cX7_indexes 103 = .ok (.iinc 3 1, 3) := by decide +kernel
theorem dX7_indexes_106 : decode cX7_indexes 106 = .ok (.goto (-75), 3) := by decide +kernel
theorem dX7_indexes_109 : decode cX7_indexes 109 = .ok (.iinc 2 1, 3) := by decide +kernel
theorem dX7_indexes_112 : decode cX7_indexes 112 = .ok (.goto (-90), 3) := by decide +kernel
theorem dX7_indexes_115 : decode cX7_indexes 115 = .ok (.iload_n 1, 1) := by decide +kernel
theorem dX7_indexes_116 : decode cX7_indexes 116 = .ok (.ireturn, 1) := by decide +kernel
set_option maxRecDepth 20000 in
theorem ggX7_along_X7_isSum : GoodIn wsX7_along wsX7_isSum := goodIn_r _ [9, 10, 11, 8, 12] (by decide +kernel) (by decide +kernel)
set_option maxRecDepth 20000 in
theorem gX7_along_X7_isSum : GoodIn wsX7_along (va_wsS RX7 211 yX7_isSum wsX7_isSum) := goodIn_app (goodIn_of _ (by decide +kernel)) ggX7_along_X7_isSum
set_option maxRecDepth 20000 in
theorem ggX7_along_X7_finding : GoodIn wsX7_along wsX7_finding := goodIn_r _ [16, 17, 29, 30, 31, 32, 33, 34, 35, 36, 37, 38, 39, 40, 41] (by decide +kernel) (by decide +kernel)
set_option maxRecDepth 20000 in
theorem gX7_along_X7_finding : GoodIn wsX7_along (wsV RX7 84 RX7 yX7_finding wsX7_finding) := goodIn_app (goodIn_of _ (by decide +kernel)) ggX7_along_X7_finding
set_option maxRecDepth 20000 in
theorem ggX7_along_X7_clearChange : GoodIn wsX7_along wsX7_clearChange := goodIn_r _ [21, 5, 29, 30, 31, 32, 33, 34, 35, 36, 37, 38, 39, 40, 41] (by decide +kernel) (by decide +kernel)
set_option maxRecDepth 20000 in
theorem gX7_along_X7_clearChange : GoodIn wsX7_along (wsV RX7 215 RX7 yX7_clearChange wsX7_clearChange) := goodIn_app (goodIn_of _ (by decide +kernel)) ggX7_along_X7_clearChange
set_option maxRecDepth 20000 in
theorem ggX7_along_X7_addChange : GoodIn wsX7_along wsX7_addChange := goodIn_r _ [25, 26, 5, 27, 28, 44, 29, 30, 31, 32, 33, 34, 35, 36, 37, 38, 39, 40, 41] (by decide +kernel) (by decide +kernel)
set_option maxRecDepth 20000 in
theorem gX7_along_X7_addChange : GoodIn wsX7_along (wsV RX7 218 RX7 yX7_addChange wsX7_addChange) := goodIn_app (goodIn_of _ (by decide +kernel)) ggX7_along_X7_addChange
theorem dX7_along_0 : decode cX7_along 0 = .ok (.iload_n 1, 1) := by decide +kernel
theorem dX7_along_1 : decode cX7_along 1 = .ok (.iload_n 2, 1) := by decide +kernel
theorem dX7_along_2 : decode cX7_along 2 = .ok (.iload_n 3, 1) := by decide +kernel
theorem dX7_along_3 : decode cX7_along 3 = .ok (.iload 4, 2) := by decide +kernel
theorem dX7_along_5 : decode cX7_along 5 = .ok (.iload 5, 2) := by decide +kernel
theorem dX7_along_7 : decode cX7_along 7 = .ok (.invokestatic 211, 3) := by decide +kernel
theorem dX7_along_10 : decode cX7_along 10 = .ok (.ifCond .eq 15, 3) := by decide +kernel
theorem dX7_along_13 : decode cX7_along 13 = .ok (.iload 6, 2) := by decide +kernel
theorem dX7_along_15 : decode cX7_along 15 = .ok (.ifCond .lt 10, 3) := by decide +kernel
theorem dX7_along_18 : decode cX7_along 18 = .ok (.iload 6, 2) := by decide +kernel
theorem dX7_along_20 : decode cX7_along 20 = .ok (.bipush 10, 2) := by decide +kernel
theorem dX7_along_22 : decode cX7_along 22 = .ok (.if_icmp .lt 10, 3) := by decide +kernel
theorem dX7_along_25 : decode cX7_along 25 = .ok (.aload_n 0, 1) := by decide +kernel
theorem dX7_along_26 : decode cX7_along 26 = .ok (.ldc 83, 2) := by decide +kernel
theorem dX7_along_28 : decode cX7_along 28 = .ok (.invokevirtual 84, 3) := by decide +kernel
theorem dX7_along_31 : decode cX7_along 31 = .ok (.ireturn, 1) := by decide +kernel
theorem dX7_along_32 : decode cX7_along 32 = .ok (.aload_n 0, 1) := by decide +kernel
theorem dX7_along_33 : decode cX7_along 33 = .ok (.invokevirtual 215, 3) := by decide +kernel
theorem dX7_along_36 : decode cX7_along 36 = .ok (.aload_n 0, 1) := by decide +kernel
theorem dX7_along_37 : decode cX7_along 37 = .ok (.aload_n 0, 1) := by decide +kernel
theorem dX7_along_38 : decode cX7_along 38 = .ok (.getfield 10, 3) := by decide +kernel
theorem dX7_along_41 : decode cX7_along 41 = .ok (.getfield 117, 3) := by decide +kernel
theorem dX7_along_44 : decode cX7_along 44 = .ok (.iload_n 1, 1) := by decide +kernel
theorem dX7_along_45 : decode cX7_along 45 = .ok (.iconst 2, 1) := by decide +kernel
theorem dX7_along_46 : decode cX7_along 46 = .ok (.iload_n 3, 1) := by decide +kernel
theorem dX7_along_47 : decode cX7_along 47 = .ok (.imul, 1) := by decide +kernel
theorem dX7_along_48 : decode cX7_along 48 = .ok (.iload 4, 2) := by decide +kernel
theorem dX7_along_50 : decode cX7_along 50 = .ok (.invokevirtual 218, 3) := by decide +kernel
theorem dX7_along_53 : decode cX7_along 53 = .ok (.aload_n 0, 1) := by decide +kernel
theorem dX7_along_54 : decode cX7_along 54 = .ok (.aload_n 0, 1) := by decide +kernel
theorem dX7_along_55 : decode cX7_along 55 = .ok (.getfield 10, 3) := by decide +kernel
theorem dX7_along_58 : decode cX7_along 58 = .ok (.getfield 125, 3) := by decide +kernel
theorem dX7_along_61 : decode cX7_along 61 = .ok (.iload_n 2, 1) := by decide +kernel
theorem dX7_along_62 : decode cX7_along 62 = .ok (.iload 4, 2) := by decide +kernel
theorem dX7_along_64 : decode cX7_along 64 = .ok (.iconst 2, 1) := by decide +kernel
theorem dX7_along_65 : decode cX7_along 65 = .ok (.iload 5, 2) := by decide +kernel
theorem dX7_along_67 : decode cX7_along 67 = .ok (.imul, 1) := by decide +kernel
theorem dX7_along_68 : decode cX7_along 68 = .ok (.invokevirtual 218, 3) := by decide +kernel
theorem dX7_along_71 : decode cX7_along 71 = .ok (.aload_n 0, 1) := by decide +kernel
theorem dX7_along_72 : decode cX7_along 72 = .ok (.getfield 61, 3) := by decide +kernel
theorem dX7_along_75 : decode cX7_along 75 = .ok (.iload 6, 2) := by decide +kernel
theorem dX7_along_77 : decode cX7_along 77 = .ok (.iaload, 1) := by decide +kernel
theorem dX7_along_78 : decode cX7_along 78 = .ok (.ireturn, 1) := by decide +kernel
set_option maxRecDepth 20000 in
theorem ggX7_falls_X7_isSum : GoodIn wsX7_falls wsX7_isSum := goodIn_r _ [8, 9, 10, 7, 11] (by decide +kernel) (by decide +kernel)
set_option maxRecDepth 20000 in
theorem gX7_falls_X7_isSum : GoodIn wsX7_falls (va_wsS RX7 211 yX7_isSum wsX7_isSum) := goodIn_app (goodIn_of _ (by decide +kernel)) ggX7_falls_X7_isSum
set_option maxRecDepth 20000 in
theorem ggX7_falls_X7_isPlace : GoodIn wsX7_falls wsX7_isPlace := goodIn_r _ [14, 9, 10, 7, 11] (by decide +kernel) (by decide +kernel)
set_option maxRecDepth 20000 in
theorem gX7_falls_X7_isPlace : GoodIn wsX7_falls (va_wsS RX7 104 yX7_isPlace wsX7_isPlace) := goodIn_app (goodIn_of _ (by decide +kernel)) ggX7_falls_X7_isPlace
set_option maxRecDepth 20000 in
theorem ggX7_falls_X7_finding : GoodIn wsX7_falls wsX7_finding := goodIn_r _ [18, 19, 30, 31, 32, 33, 34, 35, 36, 37, 38, 39, 40, 41, 42] (by decide +kernel) (by decide +kernel)
set_option maxRecDepth 20000 in
theorem gX7_falls_X7_finding : GoodIn wsX7_falls (wsV RX7 84 RX7 yX7_finding wsX7_finding) := goodIn_app (goodIn_of _ (by decide +kernel)) ggX7_falls_X7_finding
set_option maxRecDepth 20000 in
theorem ggX7_falls_X3_at : GoodIn wsX7_falls wsX3_at := goodIn_r _ [24, 25, 26, 27, 28, 23, 29, 45] (by decide +kernel) (by decide +kernel)
set_option maxRecDepth 20000 in
theorem gX7_falls_X3_at : GoodIn wsX7_falls (wsV RX7 107 RX3 yX3_at wsX3_at) := goodIn_app (goodIn_of _ (by decide +kernel)) ggX7_falls_X3_at
theorem dX7_falls_0 : decode cX7_falls 0 = .ok (.iload_n 1, 1) := by decide +kernel
theorem dX7_falls_1 : decode cX7_falls 1 = .ok (.iload_n 2, 1) := by decide +kernel
theorem dX7_falls_2 : decode cX7_falls 2 = .ok (.iload_n 3, 1) := by decide +kernel
theorem dX7_falls_3 : decode cX7_falls 3 = .ok (.iload 4, 2) := by decide +kernel
theorem dX7_falls_5 : decode cX7_falls 5 = .ok (.iload 5, 2) := by decide +kernel
theorem dX7_falls_7 : decode cX7_falls 7 = .ok (.invokestatic 211, 3) := by decide +kernel
theorem dX7_falls_10 : decode cX7_falls 10 = .ok (.ifCond .eq 13, 3) := by decide +kernel
theorem dX7_falls_13 : decode cX7_falls 13 = .ok (.iload 6, 2) := by decide +kernel
theorem dX7_falls_15 : decode cX7_falls 15 = .ok (.iload 7, 2) := by decide +kernel
theorem dX7_falls_17 : decode cX7_falls 17 = .ok (.invokestatic 104, 3) := by decide +kernel
theorem dX7_falls_20 : decode cX7_falls 20 = .ok (.ifCond .ne 10, 3) := by decide +kernel
theorem dX7_falls_23 : decode cX7_falls 23 = .ok (.aload_n 0, 1) := by decide +kernel
theorem dX7_falls_24 : decode cX7_falls 24 = .ok (.ldc 83, 2) := by decide +kernel
theorem dX7_falls_26 : decode cX7_falls 26 = .ok (.invokevirtual 84, 3) := by decide +kernel
theorem dX7_falls_29 : decode cX7_falls 29 = .ok (.ireturn, 1) := by decide +kernel
theorem dX7_falls_30 : decode cX7_falls 30 = .ok (.iload_n 1, 1) := by decide +kernel
theorem dX7_falls_31 : decode cX7_falls 31 = .ok (.iconst 2, 1) := by decide +kernel
theorem dX7_falls_32 : decode cX7_falls 32 = .ok (.iload_n 3, 1) := by decide +kernel
theorem dX7_falls_33 : decode cX7_falls 33 = .ok (.imul, 1) := by decide +kernel
theorem dX7_falls_34 : decode cX7_falls 34 = .ok (.iload 6, 2) := by decide +kernel
theorem dX7_falls_36 : decode cX7_falls 36 = .ok (.imul, 1) := by decide +kernel
theorem dX7_falls_37 : decode cX7_falls 37 = .ok (.iadd, 1) := by decide +kernel
theorem dX7_falls_38 : decode cX7_falls 38 = .ok (.iload 4, 2) := by decide +kernel
theorem dX7_falls_40 : decode cX7_falls 40 = .ok (.iload 7, 2) := by decide +kernel
theorem dX7_falls_42 : decode cX7_falls 42 = .ok (.imul, 1) := by decide +kernel
theorem dX7_falls_43 : decode cX7_falls 43 = .ok (.iadd, 1) := by decide +kernel
theorem dX7_falls_44 : decode cX7_falls 44 = .ok (.istore 8, 2) := by decide +kernel
theorem dX7_falls_46 : decode cX7_falls 46 = .ok (.iload_n 2, 1) := by decide +kernel
theorem dX7_falls_47 : decode cX7_falls 47 = .ok (.iload 4, 2) := by decide +kernel
theorem dX7_falls_49 : decode cX7_falls 49 = .ok (.iload 6, 2) := by decide +kernel
theorem dX7_falls_51 : decode cX7_falls 51 = .ok (.imul, 1) := by decide +kernel
theorem dX7_falls_52 : decode cX7_falls 52 = .ok (.iadd, 1) := by decide +kernel
theorem dX7_falls_53 : decode cX7_falls 53 = .ok (.iconst 2, 1) := by decide +kernel
theorem dX7_falls_54 : decode cX7_falls 54 = .ok (.iload 5, 2) := by decide +kernel
theorem dX7_falls_56 : decode cX7_falls 56 = .ok (.imul, 1) := by decide +kernel
theorem dX7_falls_57 : decode cX7_falls 57 = .ok (.iload 7, 2) := by decide +kernel
theorem dX7_falls_59 : decode cX7_falls 59 = .ok (.imul, 1) := by decide +kernel
theorem dX7_falls_60 : decode cX7_falls 60 = .ok (.iadd, 1) := by decide +kernel
theorem dX7_falls_61 : decode cX7_falls 61 = .ok (.istore 9, 2) := by decide +kernel
theorem dX7_falls_63 : decode cX7_falls 63 = .ok (.iload 8, 2) := by decide +kernel
theorem dX7_falls_65 : decode cX7_falls 65 = .ok (.aload_n 0, 1) := by decide +kernel
theorem dX7_falls_66 : decode cX7_falls 66 = .ok (.getfield 10, 3) := by decide +kernel
theorem dX7_falls_69 : decode cX7_falls 69 = .ok (.getfield 117, 3) := by decide +kernel
theorem dX7_falls_72 : decode cX7_falls 72 = .ok (.iload 6, 2) := by decide +kernel
theorem dX7_falls_74 : decode cX7_falls 74 = .ok (.iload 7, 2) := by decide +kernel
theorem dX7_falls_76 : decode cX7_falls 76 = .ok (.invokevirtual 107, 3) := by decide +kernel
theorem dX7_falls_79 : decode cX7_falls 79 = .ok (.imul, 1) := by decide +kernel
theorem dX7_falls_80 : decode cX7_falls 80 = .ok (.iload 9, 2) := by decide +kernel
theorem dX7_falls_82 : decode cX7_falls 82 = .ok (.aload_n 0, 1) := by decide +kernel
theorem dX7_falls_83 : decode cX7_falls 83 = .ok (.getfield 10, 3) := by decide +kernel
theorem dX7_falls_86 : decode cX7_falls 86 = .ok (.getfield 125, 3) := by decide +kernel
theorem dX7_falls_89 : decode cX7_falls 89 = .ok (.iload 6, 2) := by decide +kernel
theorem dX7_falls_91 : decode cX7_falls 91 = .ok (.iload 7, 2) := by decide +kernel
theorem dX7_falls_93 : decode cX7_falls 93 = .ok (.invokevirtual 107, 3) := by decide +kernel
theorem dX7_falls_96 : decode cX7_falls 96 = .ok (.imul, 1) := by decide +kernel
theorem dX7_falls_97 : decode cX7_falls 97 = .ok (.iadd, 1) := by decide +kernel
theorem dX7_falls_98 : decode cX7_falls 98 = .ok (.ireturn, 1) := by decide +kernel
set_option maxRecDepth 20000 in
theorem ggX7_kept_X7_clearChange : GoodIn wsX7_kept wsX7_clearChange := goodIn_r _ [10, 5, 43, 44, 45, 46, 47, 48, 49, 50, 51, 52, 53, 54, 55] (by decide +kernel) (by decide +kernel)
set_option maxRecDepth 20000 in
theorem gX7_kept_X7_clearChange : GoodIn wsX7_kept (wsV RX7 215 RX7 yX7_clearChange wsX7_clearChange) := goodIn_app (goodIn_of _ (by decide +kernel)) ggX7_kept_X7_clearChange
set_option maxRecDepth 20000 in
theorem ggX7_kept_X7_oneIf : GoodIn wsX7_kept wsX7_oneIf := goodIn_r _ [13] (by decide +kernel) (by decide +kernel)
set_option maxRecDepth 20000 in
theorem gX7_kept_X7_oneIf : GoodIn wsX7_kept (va_wsS RX7 222 yX7_oneIf wsX7_oneIf) := goodIn_app (goodIn_of _ (by decide +kernel)) ggX7_kept_X7_oneIf
set_option maxRecDepth 20000 in
theorem ggX7_kept_X7_addChange : GoodIn wsX7_kept wsX7_addChange := goodIn_r _ [17, 18, 5, 19, 20, 58, 43, 44, 45, 46, 47, 48, 49, 50, 51, 52, 53, 54, 55] (by decide +kernel) (by decide +kernel)
set_option maxRecDepth 20000 in
theorem gX7_kept_X7_addChange : GoodIn wsX7_kept (wsV RX7 218 RX7 yX7_addChange wsX7_addChange) := goodIn_app (goodIn_of _ (by decide +kernel)) ggX7_kept_X7_addChange
set_option maxRecDepth 20000 in
theorem ggX7_kept_X6_fillRow : GoodIn wsX7_kept wsX6_fillRow := goodIn_r _ [25, 26, 59] (by decide +kernel) (by decide +kernel)
set_option maxRecDepth 20000 in
theorem gX7_kept_X6_fillRow : GoodIn wsX7_kept (wsV RX7 226 RX6 yX6_fillRow wsX6_fillRow) := goodIn_app (goodIn_of _ (by decide +kernel)) ggX7_kept_X6_fillRow
set_option maxRecDepth 20000 in
theorem ggX7_kept_X6_rank : GoodIn wsX7_kept wsX6_rank := goodIn_r _ [30, 26, 31, 32, 33, 24, 34, 35, 36, 37, 38, 39, 40, 41, 42, 59] (by decide +kernel) (by decide +kernel)
set_option maxRecDepth 20000 in
theorem gX7_kept_X6_rank : GoodIn wsX7_kept (wsV RX7 230 RX6 yX6_rank wsX6_rank) := goodIn_app (goodIn_of _ (by decide +kernel)) ggX7_kept_X6_rank
theorem dX7_kept_0 : decode cX7_kept 0 = .ok (.iconst 0, 1) := by decide +kernel
theorem dX7_kept_1 : decode cX7_kept 1 = .ok (.istore_n 1, 1) := by decide +kernel
theorem dX7_kept_2 : decode cX7_kept 2 = .ok (.iload_n 1, 1) := by decide +kernel
theorem dX7_kept_3 : decode cX7_kept 3 = .ok (.iconst 5, 1) := by decide +kernel
theorem dX7_kept_4 : decode cX7_kept 4 = .ok (.if_icmp .ge 128, 3) := by decide +kernel
theorem dX7_kept_7 : decode cX7_kept 7 = .ok (.aload_n 0, 1) := by decide +kernel
theorem dX7_kept_8 : decode cX7_kept 8 = .ok (.invokevirtual 215, 3) := by decide +kernel
theorem dX7_kept_11 : decode cX7_kept 11 = .ok (.aload_n 0, 1) := by decide +kernel
theorem dX7_kept_12 : decode cX7_kept 12 = .ok (.aload_n 0, 1) := by decide +kernel
theorem dX7_kept_13 : decode cX7_kept 13 = .ok (.getfield 10, 3) := by decide +kernel
theorem dX7_kept_16 : decode cX7_kept 16 = .ok (.getfield 117, 3) := by decide +kernel
theorem dX7_kept_19 : decode cX7_kept 19 = .ok (.iload_n 1, 1) := by decide +kernel
theorem dX7_kept_20 : decode cX7_kept 20 = .ok (.ifCond .ne 7, 3) := by decide +kernel
theorem dX7_kept_23 : decode cX7_kept 23 = .ok (.iconst 1, 1) := by decide +kernel
theorem dX7_kept_24 : decode cX7_kept 24 = .ok (.goto 4, 3) := by decide +kernel
theorem dX7_kept_27 : decode cX7_kept 27 = .ok (.iconst 0, 1) := by decide +kernel
theorem dX7_kept_28 : decode cX7_kept 28 = .ok (.invokestatic 222, 3) := by decide +kernel
theorem dX7_kept_31 : decode cX7_kept 31 = .ok (.iconst 2, 1) := by decide +kernel
theorem dX7_kept_32 : decode cX7_kept 32 = .ok (.iload_n 1, 1) := by decide +kernel
theorem dX7_kept_33 : decode cX7_kept 33 = .ok (.iconst 2, 1) := by decide +kernel
theorem dX7_kept_34 : decode cX7_kept 34 = .ok (.if_icmp .ne 7, 3) := by decide +kernel
theorem dX7_kept_37 : decode cX7_kept 37 = .ok (.iconst 1, 1) := by decide +kernel
theorem dX7_kept_38 : decode cX7_kept 38 = .ok (.goto 4, 3) := by decide +kernel
theorem dX7_kept_41 : decode cX7_kept 41 = .ok (.iconst 0, 1) := by decide +kernel
theorem dX7_kept_42 : decode cX7_kept 42 = .ok (.invokestatic 222, 3) := by decide +kernel
theorem dX7_kept_45 : decode cX7_kept 45 = .ok (.imul, 1) := by decide +kernel
theorem dX7_kept_46 : decode cX7_kept 46 = .ok (.iload_n 1, 1) := by decide +kernel
theorem dX7_kept_47 : decode cX7_kept 47 = .ok (.iconst 3, 1) := by decide +kernel
theorem dX7_kept_48 : decode cX7_kept 48 = .ok (.if_icmp .ne 7, 3) := by decide +kernel
theorem dX7_kept_51 : decode cX7_kept 51 = .ok (.iconst 1, 1) := by decide +kernel
theorem dX7_kept_52 : decode cX7_kept 52 = .ok (.goto 4, 3) := by decide +kernel
theorem dX7_kept_55 : decode cX7_kept 55 = .ok (.iconst 0, 1) := by decide +kernel
theorem dX7_kept_56 : decode cX7_kept 56 = .ok (.invokestatic 222, 3) := by decide +kernel
theorem dX7_kept_59 : decode cX7_kept 59 = .ok (.invokevirtual 218, 3) := by decide +kernel
theorem dX7_kept_62 : decode cX7_kept 62 = .ok (.aload_n 0, 1) := by decide +kernel
theorem dX7_kept_63 : decode cX7_kept 63 = .ok (.aload_n 0, 1) := by decide +kernel
theorem dX7_kept_64 : decode cX7_kept 64 = .ok (.getfield 10, 3) := by decide +kernel
theorem dX7_kept_67 : decode cX7_kept 67 = .ok (.getfield 125, 3) := by decide +kernel
theorem dX7_kept_70 : decode cX7_kept 70 = .ok (.iload_n 1, 1) := by decide +kernel
theorem dX7_kept_71 : decode cX7_kept 71 = .ok (.iconst 1, 1) := by decide +kernel
theorem dX7_kept_72 : decode cX7_kept 72 = .ok (.if_icmp .ne 7, 3) := by decide +kernel
theorem dX7_kept_75 : decode cX7_kept 75 = .ok (.iconst 1, 1) := by decide +kernel
theorem dX7_kept_76 : decode cX7_kept 76 = .ok (.goto 4, 3) := by decide +kernel
theorem dX7_kept_79 : decode cX7_kept 79 = .ok (.iconst 0, 1) := by decide +kernel
theorem dX7_kept_80 : decode cX7_kept 80 = .ok (.invokestatic 222, 3) := by decide +kernel
theorem dX7_kept_83 : decode cX7_kept 83 = .ok (.iload_n 1, 1) := by decide +kernel
theorem dX7_kept_84 : decode cX7_kept 84 = .ok (.iconst 3, 1) := by decide +kernel
theorem dX7_kept_85 : decode cX7_kept 85 = .ok (.if_icmp .ne 7, 3) := by decide +kernel
theorem dX7_kept_88 : decode cX7_kept 88 = .ok (.iconst 1, 1) := by decide +kernel
theorem dX7_kept_89 : decode cX7_kept 89 = .ok (.goto 4, 3) := by decide +kernel
theorem dX7_kept_92 : decode cX7_kept 92 = .ok (.iconst 0, 1) := by decide +kernel
theorem dX7_kept_93 : decode cX7_kept 93 = .ok (.invokestatic 222, 3) := by decide +kernel
theorem dX7_kept_96 : decode cX7_kept 96 = .ok (.iconst 2, 1) := by decide +kernel
theorem dX7_kept_97 : decode cX7_kept 97 = .ok (.iload_n 1, 1) := by decide +kernel
theorem dX7_kept_98 : decode cX7_kept 98 = .ok (.iconst 4, 1) := by decide +kernel
theorem dX7_kept_99 : decode cX7_kept 99 = .ok (.if_icmp .ne 7, 3) := by decide +kernel
theorem dX7_kept_102 : decode cX7_kept 102 = .ok (.iconst 1, 1) := by decide +kernel
theorem dX7_kept_103 : decode cX7_kept 103 = .ok (.goto 4, 3) := by decide +kernel
theorem dX7_kept_106 : decode cX7_kept 106 = .ok (.iconst 0, 1) := by decide +kernel
theorem dX7_kept_107 : decode cX7_kept 107 = .ok (.invokestatic 222, 3) := by decide +kernel
theorem dX7_kept_110 : decode cX7_kept 110 = .ok (.imul, 1) := by decide +kernel
theorem dX7_kept_111 : decode cX7_kept 111 = .ok (.invokevirtual 218, 3) := by decide +kernel
theorem dX7_kept_114 : decode cX7_kept 114 = .ok (.aload_n 0, 1) := by decide +kernel
theorem dX7_kept_115 : decode cX7_kept 115 = .ok (.getfield 67, 3) := by decide +kernel
theorem dX7_kept_118 : decode cX7_kept 118 = .ok (.iload_n 1, 1) := by decide +kernel
theorem dX7_kept_119 : decode cX7_kept 119 = .ok (.aload_n 0, 1) := by decide +kernel
theorem dX7_kept_120 : decode cX7_kept 120 = .ok (.getfield 61, 3) := by decide +kernel
theorem dX7_kept_123 : decode cX7_kept 123 = .ok (.invokevirtual 226, 3) := by decide +kernel
theorem dX7_kept_126 : decode cX7_kept 126 = .ok (.iinc 1 1, 3) := by decide +kernel
theorem dX7_kept_129 : decode cX7_kept 129 = .ok (.goto (-127), 3) := by decide +kernel
theorem dX7_kept_132 : decode cX7_kept 132 = .ok (.iconst 5, 1) := by decide +kernel
theorem dX7_kept_133 : decode cX7_kept 133 = .ok (.aload_n 0, 1) := by decide +kernel
theorem dX7_kept_134 : decode cX7_kept 134 = .ok (.getfield 67, 3) := by decide +kernel
theorem dX7_kept_137 : decode cX7_kept 137 = .ok (.invokevirtual 230, 3) := by decide +kernel
theorem dX7_kept_140 : decode cX7_kept 140 = .ok (.isub, 1) := by decide +kernel
theorem dX7_kept_141 : decode cX7_kept 141 = .ok (.ireturn, 1) := by decide +kernel
set_option maxRecDepth 20000 in
theorem ggX7_none_X7_isPlace : GoodIn wsX7_none wsX7_isPlace := goodIn_r _ [13, 14, 15, 12, 16] (by decide +kernel) (by decide +kernel)
set_option maxRecDepth 20000 in
theorem gX7_none_X7_isPlace : GoodIn wsX7_none (va_wsS RX7 104 yX7_isPlace wsX7_isPlace) := goodIn_app (goodIn_of _ (by decide +kernel)) ggX7_none_X7_isPlace
set_option maxRecDepth 20000 in
theorem ggX7_none_X7_finding : GoodIn wsX7_none wsX7_finding := goodIn_r _ [20, 21, 39, 40, 41, 42, 43, 44, 45, 46, 47, 48, 49, 50, 51] (by decide +kernel) (by decide +kernel)
set_option maxRecDepth 20000 in
theorem gX7_none_X7_finding : GoodIn wsX7_none (wsV RX7 84 RX7 yX7_finding wsX7_finding) := goodIn_app (goodIn_of _ (by decide +kernel)) ggX7_none_X7_finding
set_option maxRecDepth 20000 in
theorem ggX7_none_X1_spreadAt : GoodIn wsX7_none wsX1_spreadAt := goodIn_r _ [26, 27, 28, 29, 30, 31, 32, 33, 34, 35, 36, 37, 38, 52, 53, 54] (by decide +kernel) (by decide +kernel)
set_option maxRecDepth 20000 in
theorem gX7_none_X1_spreadAt : GoodIn wsX7_none (wsV RX7 233 RX1 yX1_spreadAt wsX1_spreadAt) := goodIn_app (goodIn_of _ (by decide +kernel)) ggX7_none_X1_spreadAt
theorem dX7_none_0 : decode cX7_none 0 = .ok (.iload_n 1, 1) := by decide +kernel
theorem dX7_none_1 : decode cX7_none 1 = .ok (.iload_n 2, 1) := by decide +kernel
theorem dX7_none_2 : decode cX7_none 2 = .ok (.invokestatic 104, 3) := by decide +kernel
theorem dX7_none_5 : decode cX7_none 5 = .ok (.ifCond .eq 23, 3) := by decide +kernel
theorem dX7_none_8 : decode cX7_none 8 = .ok (.iload_n 3, 1) := by decide +kernel
theorem dX7_none_9 : decode cX7_none 9 = .ok (.iload 4, 2) := by decide +kernel
theorem dX7_none_11 : decode cX7_none 11 = .ok (.invokestatic 104, 3) := by decide +kernel
theorem dX7_none_14 : decode cX7_none 14 = .ok (.ifCond .eq 14, 3) := by decide +kernel
theorem dX7_none_17 : decode cX7_none 17 = .ok (.iload_n 1, 1) := by decide +kernel
theorem dX7_none_18 : decode cX7_none 18 = .ok (.iload_n 3, 1) := by decide +kernel
theorem dX7_none_19 : decode cX7_none 19 = .ok (.if_icmp .ge 9, 3) := by decide +kernel
theorem dX7_none_22 : decode cX7_none 22 = .ok (.iload_n 2, 1) := by decide +kernel
theorem dX7_none_23 : decode cX7_none 23 = .ok (.iload 4, 2) := by decide +kernel
theorem dX7_none_25 : decode cX7_none 25 = .ok (.if_icmp .lt 10, 3) := by decide +kernel
theorem dX7_none_28 : decode cX7_none 28 = .ok (.aload_n 0, 1) := by decide +kernel
theorem dX7_none_29 : decode cX7_none 29 = .ok (.ldc 83, 2) := by decide +kernel
theorem dX7_none_31 : decode cX7_none 31 = .ok (.invokevirtual 84, 3) := by decide +kernel
theorem dX7_none_34 : decode cX7_none 34 = .ok (.ireturn, 1) := by decide +kernel
theorem dX7_none_35 : decode cX7_none 35 = .ok (.aload_n 0, 1) := by decide +kernel
theorem dX7_none_36 : decode cX7_none 36 = .ok (.getfield 10, 3) := by decide +kernel
theorem dX7_none_39 : decode cX7_none 39 = .ok (.iload_n 1, 1) := by decide +kernel
theorem dX7_none_40 : decode cX7_none 40 = .ok (.iload_n 2, 1) := by decide +kernel
theorem dX7_none_41 : decode cX7_none 41 = .ok (.invokevirtual 233, 3) := by decide +kernel
theorem dX7_none_44 : decode cX7_none 44 = .ok (.istore 5, 2) := by decide +kernel
theorem dX7_none_46 : decode cX7_none 46 = .ok (.aload_n 0, 1) := by decide +kernel
theorem dX7_none_47 : decode cX7_none 47 = .ok (.getfield 10, 3) := by decide +kernel
theorem dX7_none_50 : decode cX7_none 50 = .ok (.iload_n 1, 1) := by decide +kernel
theorem dX7_none_51 : decode cX7_none 51 = .ok (.iload 4, 2) := by decide +kernel
theorem dX7_none_53 : decode cX7_none 53 = .ok (.invokevirtual 233, 3) := by decide +kernel
theorem dX7_none_56 : decode cX7_none 56 = .ok (.istore 6, 2) := by decide +kernel
theorem dX7_none_58 : decode cX7_none 58 = .ok (.aload_n 0, 1) := by decide +kernel
theorem dX7_none_59 : decode cX7_none 59 = .ok (.getfield 10, 3) := by decide +kernel
theorem dX7_none_62 : decode cX7_none 62 = .ok (.iload_n 3, 1) := by decide +kernel
theorem dX7_none_63 : decode cX7_none 63 = .ok (.iload_n 2, 1) := by decide +kernel
theorem dX7_none_64 : decode cX7_none 64 = .ok (.invokevirtual 233, 3) := by decide +kernel
theorem dX7_none_67 : decode cX7_none 67 = .ok (.istore 7, 2) := by decide +kernel
theorem dX7_none_69 : decode cX7_none 69 = .ok (.aload_n 0, 1) := by decide +kernel
theorem dX7_none_70 : decode cX7_none 70 = .ok (.getfield 10, 3) := by decide +kernel
theorem dX7_none_73 : decode cX7_none 73 = .ok (.iload_n 3, 1) := by decide +kernel
theorem dX7_none_74 : decode cX7_none 74 = .ok (.iload 4, 2) := by decide +kernel
theorem dX7_none_76 : decode cX7_none 76 = .ok (.invokevirtual 233, 3) := by decide +kernel
theorem dX7_none_79 : decode cX7_none 79 = .ok (.istore 8, 2) := by decide +kernel
theorem dX7_none_81 : decode cX7_none 81 = .ok (.iload 5, 2) := by decide +kernel
theorem dX7_none_83 : decode cX7_none 83 = .ok (.iload 6, 2) := by decide +kernel
theorem dX7_none_85 : decode cX7_none 85 = .ok (.invokestatic 236, 3) := by decide +kernel
theorem dX7_none_88 : decode cX7_none 88 = .ok (.iload 7, 2) := by decide +kernel
theorem dX7_none_90 : decode cX7_none 90 = .ok (.iload 8, 2) := by decide +kernel
theorem dX7_none_92 : decode cX7_none 92 = .ok (.invokestatic 236, 3) := by decide +kernel
theorem dX7_none_95 : decode cX7_none 95 = .ok (.invokestatic 236, 3) := by decide +kernel
theorem dX7_none_98 : decode cX7_none 98 = .ok (.istore 9, 2) := by decide +kernel
theorem dX7_none_100 : decode cX7_none 100 = .ok (.iload 5, 2) := by decide +kernel
theorem dX7_none_102 : decode cX7_none 102 = .ok (.iload 6, 2) := by decide +kernel
theorem dX7_none_104 : decode cX7_none 104 = .ok (.invokestatic 241, 3) := by decide +kernel
theorem dX7_none_107 : decode cX7_none 107 = .ok (.iload 7, 2) := by decide +kernel
theorem dX7_none_109 : decode cX7_none 109 = .ok (.iload 8, 2) := by decide +kernel
theorem dX7_none_111 : decode cX7_none 111 = .ok (.invokestatic 241, 3) := by decide +kernel
theorem dX7_none_114 : decode cX7_none 114 = .ok (.invokestatic 241, 3) := by decide +kernel
theorem dX7_none_117 : decode cX7_none 117 = .ok (.istore 10, 2) := by decide +kernel
theorem dX7_none_119 : decode cX7_none 119 = .ok (.iload 9, 2) := by decide +kernel
theorem dX7_none_121 : decode cX7_none 121 = .ok (.ifCond .lt 10, 3) := by decide +kernel
theorem dX7_none_124 : decode cX7_none 124 = .ok (.iload 10, 2) := by decide +kernel
theorem dX7_none_126 : decode cX7_none 126 = .ok (.ifCond .le 5, 3) := by decide +kernel
theorem dX7_none_129 : decode cX7_none 129 = .ok (.iconst 1, 1) := by decide +kernel
theorem dX7_none_130 : decode cX7_none 130 = .ok (.ireturn, 1) := by decide +kernel
theorem dX7_none_131 : decode cX7_none 131 = .ok (.iload 10, 2) := by decide +kernel
theorem dX7_none_133 : decode cX7_none 133 = .ok (.ifCond .gt 12, 3) := by decide +kernel
theorem dX7_none_136 : decode cX7_none 136 = .ok (.iload 9, 2) := by decide +kernel
theorem dX7_none_138 : decode cX7_none 138 = .ok (.ifCond .ge 7, 3) := by decide +kernel
theorem dX7_none_141 : decode cX7_none 141 = .ok (.iconst (-1), 1) := by decide +kernel
theorem dX7_none_142 : decode cX7_none 142 = .ok (.goto 4, 3) := by decide +kernel
theorem dX7_none_145 : decode cX7_none 145 = .ok (.iconst 0, 1) := by decide +kernel
theorem dX7_none_146 : decode cX7_none 146 = .ok (.ireturn, 1) := by decide +kernel
set_option maxRecDepth 20000 in
theorem ggX7_edge_X7_linesOfCubic : GoodIn wsX7_edge wsX7_linesOfCubic := goodIn_r _ [8] (by decide +kernel) (by decide +kernel)
set_option maxRecDepth 20000 in
theorem gX7_edge_X7_linesOfCubic : GoodIn wsX7_edge (va_wsS RX7 244 yX7_linesOfCubic wsX7_linesOfCubic) := goodIn_app (goodIn_of _ (by decide +kernel)) ggX7_edge_X7_linesOfCubic
theorem dX7_edge_0 : decode cX7_edge 0 = .ok (.aload_n 0, 1) := by decide +kernel
theorem dX7_edge_1 : decode cX7_edge 1 = .ok (.getfield 10, 3) := by decide +kernel
theorem dX7_edge_4 : decode cX7_edge 4 = .ok (.getfield 117, 3) := by decide +kernel
theorem dX7_edge_7 : decode cX7_edge 7 = .ok (.getfield 96, 3) := by decide +kernel
theorem dX7_edge_10 : decode cX7_edge 10 = .ok (.astore_n 1, 1) := by decide +kernel
theorem dX7_edge_11 : decode cX7_edge 11 = .ok (.aload_n 0, 1) := by decide +kernel
theorem dX7_edge_12 : decode cX7_edge 12 = .ok (.getfield 10, 3) := by decide +kernel
theorem dX7_edge_15 : decode cX7_edge 15 = .ok (.getfield 125, 3) := by decide +kernel
theorem dX7_edge_18 : decode cX7_edge 18 = .ok (.getfield 96, 3) := by decide +kernel
theorem dX7_edge_21 : decode cX7_edge 21 = .ok (.astore_n 2, 1) := by decide +kernel
theorem dX7_edge_22 : decode cX7_edge 22 = .ok (.aload_n 2, 1) := by decide +kernel
theorem dX7_edge_23 : decode cX7_edge 23 = .ok (.iconst 3, 1) := by decide +kernel
theorem dX7_edge_24 : decode cX7_edge 24 = .ok (.iaload, 1) := by decide +kernel
theorem dX7_edge_25 : decode cX7_edge 25 = .ok (.aload_n 2, 1) := by decide +kernel
theorem dX7_edge_26 : decode cX7_edge 26 = .ok (.iconst 4, 1) := by decide +kernel
theorem dX7_edge_27 : decode cX7_edge 27 = .ok (.iaload, 1) := by decide +kernel
theorem dX7_edge_28 : decode cX7_edge 28 = .ok (.aload_n 1, 1) := by decide +kernel
theorem dX7_edge_29 : decode cX7_edge 29 = .ok (.iconst 3, 1) := by decide +kernel
theorem dX7_edge_30 : decode cX7_edge 30 = .ok (.iaload, 1) := by decide +kernel
theorem dX7_edge_31 : decode cX7_edge 31 = .ok (.isub, 1) := by decide +kernel
theorem dX7_edge_32 : decode cX7_edge 32 = .ok (.aload_n 2, 1) := by decide +kernel
theorem dX7_edge_33 : decode cX7_edge 33 = .ok (.iconst 5, 1) := by decide +kernel
theorem dX7_edge_34 : decode cX7_edge 34 = .ok (.iaload, 1) := by decide +kernel
theorem dX7_edge_35 : decode cX7_edge 35 = .ok (.aload_n 1, 1) := by decide +kernel
theorem dX7_edge_36 : decode cX7_edge 36 = .ok (.iconst 4, 1) := by decide +kernel
theorem dX7_edge_37 : decode cX7_edge 37 = .ok (.iaload, 1) := by decide +kernel
theorem dX7_edge_38 : decode cX7_edge 38 = .ok (.isub, 1) := by decide +kernel
theorem dX7_edge_39 : decode cX7_edge 39 = .ok (.aload_n 1, 1) := by decide +kernel
theorem dX7_edge_40 : decode cX7_edge 40 = .ok (.iconst 5, 1) := by decide +kernel
theorem dX7_edge_41 : decode cX7_edge 41 = .ok (.iaload, 1) := by decide +kernel
theorem dX7_edge_42 : decode cX7_edge 42 = .ok (.ineg, 1) := by decide +kernel
theorem dX7_edge_43 : decode cX7_edge 43 = .ok (.invokestatic 244, 3) := by decide +kernel
theorem dX7_edge_46 : decode cX7_edge 46 = .ok (.ireturn, 1) := by decide +kernel
set_option maxRecDepth 20000 in
theorem ggX7_far_X7_isPlace : GoodIn wsX7_far wsX7_isPlace := goodIn_r _ [8, 9, 10, 7, 11] (by decide +kernel) (by decide +kernel)
set_option maxRecDepth 20000 in
theorem gX7_far_X7_isPlace : GoodIn wsX7_far (va_wsS RX7 104 yX7_isPlace wsX7_isPlace) := goodIn_app (goodIn_of _ (by decide +kernel)) ggX7_far_X7_isPlace
set_option maxRecDepth 20000 in
theorem ggX7_far_X7_finding : GoodIn wsX7_far wsX7_finding := goodIn_r _ [15, 16, 23, 24, 25, 26, 27, 28, 29, 30, 31, 32, 33, 34, 35] (by decide +kernel) (by decide +kernel)
set_option maxRecDepth 20000 in
theorem gX7_far_X7_finding : GoodIn wsX7_far (wsV RX7 84 RX7 yX7_finding wsX7_finding) := goodIn_app (goodIn_of _ (by decide +kernel)) ggX7_far_X7_finding
set_option maxRecDepth 20000 in
theorem ggX7_far_X3_squaresAt : GoodIn wsX7_far wsX3_squaresAt := goodIn_r _ [21, 22, 38] (by decide +kernel) (by decide +kernel)
set_option maxRecDepth 20000 in
theorem gX7_far_X3_squaresAt : GoodIn wsX7_far (wsV RX7 248 RX3 yX3_squaresAt wsX3_squaresAt) := goodIn_app (goodIn_of _ (by decide +kernel)) ggX7_far_X3_squaresAt
theorem dX7_far_0 : decode cX7_far 0 = .ok (.iload_n 1, 1) := by decide +kernel
theorem dX7_far_1 : decode cX7_far 1 = .ok (.iload_n 2, 1) := by decide +kernel
theorem dX7_far_2 : decode cX7_far 2 = .ok (.invokestatic 104, 3) := by decide +kernel
theorem dX7_far_5 : decode cX7_far 5 = .ok (.ifCond .eq 11, 3) := by decide +kernel
theorem dX7_far_8 : decode cX7_far 8 = .ok (.iload_n 1, 1) := by decide +kernel
theorem dX7_far_9 : decode cX7_far 9 = .ok (.ifCond .ne 14, 3) := by decide +kernel
theorem dX7_far_12 : decode cX7_far 12 = .ok (.iload_n 2, 1) := by decide +kernel
theorem dX7_far_13 : decode cX7_far 13 = .ok (.ifCond .ne 10, 3) := by decide +kernel
theorem dX7_far_16 : decode cX7_far 16 = .ok (.aload_n 0, 1) := by decide +kernel
theorem dX7_far_17 : decode cX7_far 17 = .ok (.ldc 83, 2) := by decide +kernel
theorem dX7_far_19 : decode cX7_far 19 = .ok (.invokevirtual 84, 3) := by decide +kernel
theorem dX7_far_22 : decode cX7_far 22 = .ok (.ireturn, 1) := by decide +kernel
theorem dX7_far_23 : decode cX7_far 23 = .ok (.iload_n 1, 1) := by decide +kernel
theorem dX7_far_24 : decode cX7_far 24 = .ok (.aload_n 0, 1) := by decide +kernel
theorem dX7_far_25 : decode cX7_far 25 = .ok (.getfield 10, 3) := by decide +kernel
theorem dX7_far_28 : decode cX7_far 28 = .ok (.getfield 125, 3) := by decide +kernel
theorem dX7_far_31 : decode cX7_far 31 = .ok (.iload_n 1, 1) := by decide +kernel
theorem dX7_far_32 : decode cX7_far 32 = .ok (.iload_n 2, 1) := by decide +kernel
theorem dX7_far_33 : decode cX7_far 33 = .ok (.invokevirtual 248, 3) := by decide +kernel
theorem dX7_far_36 : decode cX7_far 36 = .ok (.imul, 1) := by decide +kernel
theorem dX7_far_37 : decode cX7_far 37 = .ok (.iload_n 2, 1) := by decide +kernel
theorem dX7_far_38 : decode cX7_far 38 = .ok (.aload_n 0, 1) := by decide +kernel
theorem dX7_far_39 : decode cX7_far 39 = .ok (.getfield 10, 3) := by decide +kernel
theorem dX7_far_42 : decode cX7_far 42 = .ok (.getfield 117, 3) := by decide +kernel
theorem dX7_far_45 : decode cX7_far 45 = .ok (.iload_n 1, 1) := by decide +kernel
theorem dX7_far_46 : decode cX7_far 46 = .ok (.iload_n 2, 1) := by decide +kernel
theorem dX7_far_47 : decode cX7_far 47 = .ok (.invokevirtual 248, 3) := by decide +kernel
theorem dX7_far_50 : decode cX7_far 50 = .ok (.imul, 1) := by decide +kernel
theorem dX7_far_51 : decode cX7_far 51 = .ok (.isub, 1) := by decide +kernel
theorem dX7_far_52 : decode cX7_far 52 = .ok (.istore_n 3, 1) := by decide +kernel
theorem dX7_far_53 : decode cX7_far 53 = .ok (.iload_n 3, 1) := by decide +kernel
theorem dX7_far_54 : decode cX7_far 54 = .ok (.ifCond .ne 7, 3) := by decide +kernel
theorem dX7_far_57 : decode cX7_far 57 = .ok (.iconst 1, 1) := by decide +kernel
theorem dX7_far_58 : decode cX7_far 58 = .ok (.goto 4, 3) := by decide +kernel
theorem dX7_far_61 : decode cX7_far 61 = .ok (.iconst 0, 1) := by decide +kernel
theorem dX7_far_62 : decode cX7_far 62 = .ok (.ireturn, 1) := by decide +kernel
set_option maxRecDepth 20000 in
theorem ggX7_keep_X7_isSlot : GoodIn wsX7_keep wsX7_isSlot := goodIn_r _ [8] (by decide +kernel) (by decide +kernel)
set_option maxRecDepth 20000 in
theorem gX7_keep_X7_isSlot : GoodIn wsX7_keep (va_wsS RX7 143 yX7_isSlot wsX7_isSlot) := goodIn_app (goodIn_of _ (by decide +kernel)) ggX7_keep_X7_isSlot
set_option maxRecDepth 20000 in
theorem ggX7_keep_X7_finding : GoodIn wsX7_keep wsX7_finding := goodIn_r _ [12, 13, 56, 57, 58, 59, 60, 61, 62, 63, 64, 65, 66, 67, 68] (by decide +kernel) (by decide +kernel)
set_option maxRecDepth 20000 in
theorem gX7_keep_X7_finding : GoodIn wsX7_keep (wsV RX7 84 RX7 yX7_finding wsX7_finding) := goodIn_app (goodIn_of _ (by decide +kernel)) ggX7_keep_X7_finding
set_option maxRecDepth 20000 in
theorem ggX7_keep_X1_become : GoodIn wsX7_keep wsX1_become := goodIn_r _ [18, 19, 20, 21, 22, 23, 24, 25, 26, 27, 28, 29, 30, 69, 70, 71] (by decide +kernel) (by decide +kernel)
set_option maxRecDepth 20000 in
theorem gX7_keep_X1_become : GoodIn wsX7_keep (wsV RX7 88 RX1 yX1_become wsX1_become) := goodIn_app (goodIn_of _ (by decide +kernel)) ggX7_keep_X1_become
set_option maxRecDepth 20000 in
theorem ggX7_keep_X1_lastKind : GoodIn wsX7_keep wsX1_lastKind := goodIn_r _ [34, 19, 20, 35, 36, 37, 38, 17, 39, 40, 41, 42, 43, 44, 45, 46, 24, 47, 26, 48, 49, 50, 51, 52, 53, 54, 55, 69, 70, 71] (by decide +kernel) (by decide +kernel)
set_option maxRecDepth 20000 in
theorem gX7_keep_X1_lastKind : GoodIn wsX7_keep (wsV RX7 251 RX1 yX1_lastKind wsX1_lastKind) := goodIn_app (goodIn_of _ (by decide +kernel)) ggX7_keep_X1_lastKind
theorem dX7_keep_0 : decode cX7_keep 0 = .ok (.iload_n 1, 1) := by decide +kernel
theorem dX7_keep_1 : decode cX7_keep 1 = .ok (.invokestatic 143, 3) := by decide +kernel
theorem dX7_keep_4 : decode cX7_keep 4 = .ok (.ifCond .ne 10, 3) := by decide +kernel
theorem dX7_keep_7 : decode cX7_keep 7 = .ok (.aload_n 0, 1) := by decide +kernel
theorem dX7_keep_8 : decode cX7_keep 8 = .ok (.ldc 83, 2) := by decide +kernel
theorem dX7_keep_10 : decode cX7_keep 10 = .ok (.invokevirtual 84, 3) := by decide +kernel
theorem dX7_keep_13 : decode cX7_keep 13 = .ok (.ireturn, 1) := by decide +kernel
theorem dX7_keep_14 : decode cX7_keep 14 = .ok (.aload_n 0, 1) := by decide +kernel
theorem dX7_keep_15 : decode cX7_keep 15 = .ok (.getfield 33, 3) := by decide +kernel
theorem dX7_keep_18 : decode cX7_keep 18 = .ok (.iload_n 1, 1) := by decide +kernel
theorem dX7_keep_19 : decode cX7_keep 19 = .ok (.aaload, 1) := by decide +kernel
theorem dX7_keep_20 : decode cX7_keep 20 = .ok (.aload_n 0, 1) := by decide +kernel
theorem dX7_keep_21 : decode cX7_keep 21 = .ok (.getfield 10, 3) := by decide +kernel
theorem dX7_keep_24 : decode cX7_keep 24 = .ok (.invokevirtual 88, 3) := by decide +kernel
theorem dX7_keep_27 : decode cX7_keep 27 = .ok (.aload_n 0, 1) := by decide +kernel
theorem dX7_keep_28 : decode cX7_keep 28 = .ok (.getfield 37, 3) := by decide +kernel
theorem dX7_keep_31 : decode cX7_keep 31 = .ok (.iload_n 1, 1) := by decide +kernel
theorem dX7_keep_32 : decode cX7_keep 32 = .ok (.aload_n 0, 1) := by decide +kernel
theorem dX7_keep_33 : decode cX7_keep 33 = .ok (.getfield 10, 3) := by decide +kernel
theorem dX7_keep_36 : decode cX7_keep 36 = .ok (.invokevirtual 251, 3) := by decide +kernel
theorem dX7_keep_39 : decode cX7_keep 39 = .ok (.iastore, 1) := by decide +kernel
theorem dX7_keep_40 : decode cX7_keep 40 = .ok (.aload_n 0, 1) := by decide +kernel
theorem dX7_keep_41 : decode cX7_keep 41 = .ok (.getfield 37, 3) := by decide +kernel
theorem dX7_keep_44 : decode cX7_keep 44 = .ok (.iload_n 1, 1) := by decide +kernel
theorem dX7_keep_45 : decode cX7_keep 45 = .ok (.iaload, 1) := by decide +kernel
theorem dX7_keep_46 : decode cX7_keep 46 = .ok (.ireturn, 1) := by decide +kernel
set_option maxRecDepth 20000 in
theorem ggX7_bring_X7_isSlot : GoodIn wsX7_bring wsX7_isSlot := goodIn_r _ [9] (by decide +kernel) (by decide +kernel)
set_option maxRecDepth 20000 in
theorem gX7_bring_X7_isSlot : GoodIn wsX7_bring (va_wsS RX7 143 yX7_isSlot wsX7_isSlot) := goodIn_app (goodIn_of _ (by decide +kernel)) ggX7_bring_X7_isSlot
set_option maxRecDepth 20000 in
theorem ggX7_bring_X7_finding : GoodIn wsX7_bring wsX7_finding := goodIn_r _ [13, 14, 58, 59, 60, 61, 62, 63, 64, 65, 66, 67, 68, 69, 70] (by decide +kernel) (by decide +kernel)
set_option maxRecDepth 20000 in
theorem gX7_bring_X7_finding : GoodIn wsX7_bring (wsV RX7 84 RX7 yX7_finding wsX7_finding) := goodIn_app (goodIn_of _ (by decide +kernel)) ggX7_bring_X7_finding
set_option maxRecDepth 20000 in
theorem ggX7_bring_X1_become : GoodIn wsX7_bring wsX1_become := goodIn_r _ [19, 20, 21, 22, 23, 24, 25, 26, 27, 28, 29, 30, 31, 71, 72, 73] (by decide +kernel) (by decide +kernel)
set_option maxRecDepth 20000 in
theorem gX7_bring_X1_become : GoodIn wsX7_bring (wsV RX7 88 RX1 yX1_become wsX1_become) := goodIn_app (goodIn_of _ (by decide +kernel)) ggX7_bring_X1_become
set_option maxRecDepth 20000 in
theorem ggX7_bring_X7_takeDraft : GoodIn wsX7_bring wsX7_takeDraft := goodIn_r _ [35, 36, 37, 38, 4, 39, 40, 41, 42, 43, 44, 45, 46, 47, 48, 49, 50, 51, 52, 53, 29, 30, 31, 54, 55, 56, 57, 15, 16, 17, 18, 19, 20, 21, 22, 23, 24, 25, 26, 27, 28, 58, 59, 60, 61, 62, 63, 64, 65, 66, 67, 68, 69, 70, 74, 75, 76, 71, 72, 73, 77, 78, 79] (by decide +kernel) (by decide +kernel)
set_option maxRecDepth 20000 in
theorem gX7_bring_X7_takeDraft : GoodIn wsX7_bring (wsV RX7 101 RX7 yX7_takeDraft wsX7_takeDraft) := goodIn_app (goodIn_of _ (by decide +kernel)) ggX7_bring_X7_takeDraft
theorem dX7_bring_0 : decode cX7_bring 0 = .ok (.iload_n 1, 1) := by decide +kernel
theorem dX7_bring_1 : decode cX7_bring 1 = .ok (.invokestatic 143, 3) := by decide +kernel
theorem dX7_bring_4 : decode cX7_bring 4 = .ok (.ifCond .ne 10, 3) := by decide +kernel
theorem dX7_bring_7 : decode cX7_bring 7 = .ok (.aload_n 0, 1) := by decide +kernel
theorem dX7_bring_8 : decode cX7_bring 8 = .ok (.ldc 83, 2) := by decide +kernel
theorem dX7_bring_10 : decode cX7_bring 10 = .ok (.invokevirtual 84, 3) := by decide +kernel
theorem dX7_bring_13 : decode cX7_bring 13 = .ok (.ireturn, 1) := by decide +kernel
theorem dX7_bring_14 : decode cX7_bring 14 = .ok (.aload_n 0, 1) := by decide +kernel
theorem dX7_bring_15 : decode cX7_bring 15 = .ok (.getfield 37, 3) := by decide +kernel
theorem dX7_bring_18 : decode cX7_bring 18 = .ok (.iload_n 1, 1) := by decide +kernel
theorem dX7_bring_19 : decode cX7_bring 19 = .ok (.iaload, 1) := by decide +kernel
theorem dX7_bring_20 : decode cX7_bring 20 = .ok (.iconst (-1), 1) := by decide +kernel
theorem dX7_bring_21 : decode cX7_bring 21 = .ok (.if_icmp .ne 10, 3) := by decide +kernel
theorem dX7_bring_24 : decode cX7_bring 24 = .ok (.aload_n 0, 1) := by decide +kernel
theorem dX7_bring_25 : decode cX7_bring 25 = .ok (.ldc 146, 2) := by decide +kernel
theorem dX7_bring_27 : decode cX7_bring 27 = .ok (.invokevirtual 84, 3) := by decide +kernel
theorem dX7_bring_30 : decode cX7_bring 30 = .ok (.ireturn, 1) := by decide +kernel
theorem dX7_bring_31 : decode cX7_bring 31 = .ok (.aload_n 0, 1) := by decide +kernel
theorem dX7_bring_32 : decode cX7_bring 32 = .ok (.getfield 16, 3) := by decide +kernel
theorem dX7_bring_35 : decode cX7_bring 35 = .ok (.aload_n 0, 1) := by decide +kernel
theorem dX7_bring_36 : decode cX7_bring 36 = .ok (.getfield 33, 3) := by decide +kernel
theorem dX7_bring_39 : decode cX7_bring 39 = .ok (.iload_n 1, 1) := by decide +kernel
theorem dX7_bring_40 : decode cX7_bring 40 = .ok (.aaload, 1) := by decide +kernel
theorem dX7_bring_41 : decode cX7_bring 41 = .ok (.invokevirtual 88, 3) := by decide +kernel
theorem dX7_bring_44 : decode cX7_bring 44 = .ok (.aload_n 0, 1) := by decide +kernel
theorem dX7_bring_45 : decode cX7_bring 45 = .ok (.aload_n 0, 1) := by decide +kernel
theorem dX7_bring_46 : decode cX7_bring 46 = .ok (.getfield 37, 3) := by decide +kernel
theorem dX7_bring_49 : decode cX7_bring 49 = .ok (.iload_n 1, 1) := by decide +kernel
theorem dX7_bring_50 : decode cX7_bring 50 = .ok (.iaload, 1) := by decide +kernel
theorem dX7_bring_51 : decode cX7_bring 51 = .ok (.invokevirtual 101, 3) := by decide +kernel
theorem dX7_bring_54 : decode cX7_bring 54 = .ok (.ireturn, 1) := by decide +kernel
set_option maxRecDepth 20000 in
theorem ggX7_as_X7_isSlot : GoodIn wsX7_as wsX7_isSlot := goodIn_r _ [9] (by decide +kernel) (by decide +kernel)
set_option maxRecDepth 20000 in
theorem gX7_as_X7_isSlot : GoodIn wsX7_as (va_wsS RX7 143 yX7_isSlot wsX7_isSlot) := goodIn_app (goodIn_of _ (by decide +kernel)) ggX7_as_X7_isSlot
set_option maxRecDepth 20000 in
theorem ggX7_as_X7_finding : GoodIn wsX7_as wsX7_finding := goodIn_r _ [13, 14, 32, 33, 34, 35, 36, 37, 38, 39, 40, 41, 42, 43, 44] (by decide +kernel) (by decide +kernel)
set_option maxRecDepth 20000 in
theorem gX7_as_X7_finding : GoodIn wsX7_as (wsV RX7 84 RX7 yX7_finding wsX7_finding) := goodIn_app (goodIn_of _ (by decide +kernel)) ggX7_as_X7_finding
set_option maxRecDepth 20000 in
theorem ggX7_as_X7_isUnder : GoodIn wsX7_as wsX7_isUnder := goodIn_r _ [17, 18] (by decide +kernel) (by decide +kernel)
set_option maxRecDepth 20000 in
theorem gX7_as_X7_isUnder : GoodIn wsX7_as (va_wsS RX7 254 yX7_isUnder wsX7_isUnder) := goodIn_app (goodIn_of _ (by decide +kernel)) ggX7_as_X7_isUnder
set_option maxRecDepth 20000 in
theorem ggX7_as_X1_countNotZero : GoodIn wsX7_as wsX1_countNotZero := goodIn_r _ [23, 24, 25, 26, 27, 28, 29, 30, 31, 45, 46, 47] (by decide +kernel) (by decide +kernel)
set_option maxRecDepth 20000 in
theorem gX7_as_X1_countNotZero : GoodIn wsX7_as (wsV RX7 257 RX1 yX1_countNotZero wsX1_countNotZero) := goodIn_app (goodIn_of _ (by decide +kernel)) ggX7_as_X1_countNotZero
theorem dX7_as_0 : decode cX7_as 0 = .ok (.iload_n 1, 1) := by decide +kernel
theorem dX7_as_1 : decode cX7_as 1 = .ok (.invokestatic 143, 3) := by decide +kernel
theorem dX7_as_4 : decode cX7_as 4 = .ok (.ifCond .eq 12, 3) := by decide +kernel
theorem dX7_as_7 : decode cX7_as 7 = .ok (.iload_n 2, 1) := by decide +kernel
theorem dX7_as_8 : decode cX7_as 8 = .ok (.ifCond .lt 8, 3) := by decide +kernel
theorem dX7_as_11 : decode cX7_as 11 = .ok (.iload_n 2, 1) := by decide +kernel
theorem dX7_as_12 : decode cX7_as 12 = .ok (.iconst 3, 1) := by decide +kernel
theorem dX7_as_13 : decode cX7_as 13 = .ok (.if_icmp .le 10, 3) := by decide +kernel
theorem dX7_as_16 : decode cX7_as 16 = .ok (.aload_n 0, 1) := by decide +kernel
theorem dX7_as_17 : decode cX7_as 17 = .ok (.ldc 83, 2) := by decide +kernel
theorem dX7_as_19 : decode cX7_as 19 = .ok (.invokevirtual 84, 3) := by decide +kernel
theorem dX7_as_22 : decode cX7_as 22 = .ok (.ireturn, 1) := by decide +kernel
theorem dX7_as_23 : decode cX7_as 23 = .ok (.aload_n 0, 1) := by decide +kernel
theorem dX7_as_24 : decode cX7_as 24 = .ok (.getfield 37, 3) := by decide +kernel
theorem dX7_as_27 : decode cX7_as 27 = .ok (.iload_n 1, 1) := by decide +kernel
theorem dX7_as_28 : decode cX7_as 28 = .ok (.iaload, 1) := by decide +kernel
theorem dX7_as_29 : decode cX7_as 29 = .ok (.iconst (-1), 1) := by decide +kernel
theorem dX7_as_30 : decode cX7_as 30 = .ok (.if_icmp .ne 10, 3) := by decide +kernel
theorem dX7_as_33 : decode cX7_as 33 = .ok (.aload_n 0, 1) := by decide +kernel
theorem dX7_as_34 : decode cX7_as 34 = .ok (.ldc 146, 2) := by decide +kernel
theorem dX7_as_36 : decode cX7_as 36 = .ok (.invokevirtual 84, 3) := by decide +kernel
theorem dX7_as_39 : decode cX7_as 39 = .ok (.ireturn, 1) := by decide +kernel
theorem dX7_as_40 : decode cX7_as 40 = .ok (.aload_n 0, 1) := by decide +kernel
theorem dX7_as_41 : decode cX7_as 41 = .ok (.getfield 37, 3) := by decide +kernel
theorem dX7_as_44 : decode cX7_as 44 = .ok (.iload_n 1, 1) := by decide +kernel
theorem dX7_as_45 : decode cX7_as 45 = .ok (.iaload, 1) := by decide +kernel
theorem dX7_as_46 : decode cX7_as 46 = .ok (.iload_n 2, 1) := by decide +kernel
theorem dX7_as_47 : decode cX7_as 47 = .ok (.invokestatic 254, 3) := by decide +kernel
theorem dX7_as_50 : decode cX7_as 50 = .ok (.ifCond .ne 10, 3) := by decide +kernel
theorem dX7_as_53 : decode cX7_as 53 = .ok (.aload_n 0, 1) := by decide +kernel
theorem dX7_as_54 : decode cX7_as 54 = .ok (.ldc 182, 2) := by decide +kernel
theorem dX7_as_56 : decode cX7_as 56 = .ok (.invokevirtual 84, 3) := by decide +kernel
theorem dX7_as_59 : decode cX7_as 59 = .ok (.ireturn, 1) := by decide +kernel
theorem dX7_as_60 : decode cX7_as 60 = .ok (.aload_n 0, 1) := by decide +kernel
theorem dX7_as_61 : decode cX7_as 61 = .ok (.getfield 33, 3) := by decide +kernel
theorem dX7_as_64 : decode cX7_as 64 = .ok (.iload_n 1, 1) := by decide +kernel
theorem dX7_as_65 : decode cX7_as 65 = .ok (.aaload, 1) := by decide +kernel
theorem dX7_as_66 : decode cX7_as 66 = .ok (.invokevirtual 257, 3) := by decide +kernel
theorem dX7_as_69 : decode cX7_as 69 = .ok (.ireturn, 1) := by decide +kernel
set_option maxRecDepth 20000 in
theorem ggX7_sheet_X7_isSheet : GoodIn wsX7_sheet wsX7_isSheet := goodIn_r _ [8] (by decide +kernel) (by decide +kernel)
set_option maxRecDepth 20000 in
theorem gX7_sheet_X7_isSheet : GoodIn wsX7_sheet (va_wsS RX7 260 yX7_isSheet wsX7_isSheet) := goodIn_app (goodIn_of _ (by decide +kernel)) ggX7_sheet_X7_isSheet
set_option maxRecDepth 20000 in
theorem ggX7_sheet_X7_isBits : GoodIn wsX7_sheet wsX7_isBits := goodIn_r _ [11] (by decide +kernel) (by decide +kernel)
set_option maxRecDepth 20000 in
theorem gX7_sheet_X7_isBits : GoodIn wsX7_sheet (va_wsS RX7 263 yX7_isBits wsX7_isBits) := goodIn_app (goodIn_of _ (by decide +kernel)) ggX7_sheet_X7_isBits
set_option maxRecDepth 20000 in
theorem ggX7_sheet_X7_finding : GoodIn wsX7_sheet wsX7_finding := goodIn_r _ [15, 16, 25, 26, 27, 28, 29, 30, 31, 32, 33, 34, 35, 36, 37] (by decide +kernel) (by decide +kernel)
set_option maxRecDepth 20000 in
theorem gX7_sheet_X7_finding : GoodIn wsX7_sheet (wsV RX7 84 RX7 yX7_finding wsX7_finding) := goodIn_app (goodIn_of _ (by decide +kernel)) ggX7_sheet_X7_finding
set_option maxRecDepth 20000 in
theorem ggX7_sheet_X5_begin : GoodIn wsX7_sheet wsX5_begin := goodIn_r _ [21, 22, 23, 24, 38, 39, 40] (by decide +kernel) (by decide +kernel)
set_option maxRecDepth 20000 in
theorem gX7_sheet_X5_begin : GoodIn wsX7_sheet (wsV RX7 266 RX5 yX5_begin wsX5_begin) := goodIn_app (goodIn_of _ (by decide +kernel)) ggX7_sheet_X5_begin
theorem dX7_sheet_0 : decode cX7_sheet 0 = .ok (.iload_n 1, 1) := by decide +kernel
theorem dX7_sheet_1 : decode cX7_sheet 1 = .ok (.invokestatic 260, 3) := by decide +kernel
theorem dX7_sheet_4 : decode cX7_sheet 4 = .ok (.ifCond .eq 10, 3) := by decide +kernel
theorem dX7_sheet_7 : decode cX7_sheet 7 = .ok (.iload_n 2, 1) := by decide +kernel
theorem dX7_sheet_8 : decode cX7_sheet 8 = .ok (.invokestatic 263, 3) := by decide +kernel
theorem dX7_sheet_11 : decode cX7_sheet 11 = .ok (.ifCond .ne 10, 3) := by decide +kernel
theorem dX7_sheet_14 : decode cX7_sheet 14 = .ok (.aload_n 0, 1) := by decide +kernel
theorem dX7_sheet_15 : decode cX7_sheet 15 = .ok (.ldc 83, 2) := by decide +kernel
theorem dX7_sheet_17 : decode cX7_sheet 17 = .ok (.invokevirtual 84, 3) := by decide +kernel
theorem dX7_sheet_20 : decode cX7_sheet 20 = .ok (.ireturn, 1) := by decide +kernel
theorem dX7_sheet_21 : decode cX7_sheet 21 = .ok (.iload_n 3, 1) := by decide +kernel
theorem dX7_sheet_22 : decode cX7_sheet 22 = .ok (.ifCond .ge 10, 3) := by decide +kernel
theorem dX7_sheet_25 : decode cX7_sheet 25 = .ok (.aload_n 0, 1) := by decide +kernel
theorem dX7_sheet_26 : decode cX7_sheet 26 = .ok (.ldc 159, 2) := by decide +kernel
theorem dX7_sheet_28 : decode cX7_sheet 28 = .ok (.invokevirtual 84, 3) := by decide +kernel
theorem dX7_sheet_31 : decode cX7_sheet 31 = .ok (.ireturn, 1) := by decide +kernel
theorem dX7_sheet_32 : decode cX7_sheet 32 = .ok (.iload_n 3, 1) := by decide +kernel
theorem dX7_sheet_33 : decode cX7_sheet 33 = .ok (.bipush 16, 2) := by decide +kernel
theorem dX7_sheet_35 : decode cX7_sheet 35 = .ok (.if_icmp .le 10, 3) := by decide +kernel
theorem dX7_sheet_38 : decode cX7_sheet 38 = .ok (.aload_n 0, 1) := by decide +kernel
theorem dX7_sheet_39 : decode cX7_sheet 39 = .ok (.ldc 83, 2) := by decide +kernel
theorem dX7_sheet_41 : decode cX7_sheet 41 = .ok (.invokevirtual 84, 3) := by decide +kernel
theorem dX7_sheet_44 : decode cX7_sheet 44 = .ok (.ireturn, 1) := by decide +kernel
theorem dX7_sheet_45 : decode cX7_sheet 45 = .ok (.aload_n 0, 1) := by decide +kernel
theorem dX7_sheet_46 : decode cX7_sheet 46 = .ok (.getfield 43, 3) := by decide +kernel
theorem dX7_sheet_49 : decode cX7_sheet 49 = .ok (.iload_n 1, 1) := by decide +kernel
theorem dX7_sheet_50 : decode cX7_sheet 50 = .ok (.aaload, 1) := by decide +kernel
theorem dX7_sheet_51 : decode cX7_sheet 51 = .ok (.iload_n 2, 1) := by decide +kernel
theorem dX7_sheet_52 : decode cX7_sheet 52 = .ok (.iload_n 2, 1) := by decide +kernel
theorem dX7_sheet_53 : decode cX7_sheet 53 = .ok (.ifCond .ne 7, 3) := by decide +kernel
theorem dX7_sheet_56 : decode cX7_sheet 56 = .ok (.iconst 0, 1) := by decide +kernel
theorem dX7_sheet_57 : decode cX7_sheet 57 = .ok (.goto 4, 3) := by decide +kernel
theorem dX7_sheet_60 : decode cX7_sheet 60 = .ok (.iload_n 3, 1) := by decide +kernel
theorem dX7_sheet_61 : decode cX7_sheet 61 = .ok (.invokevirtual 266, 3) := by decide +kernel
theorem dX7_sheet_64 : decode cX7_sheet 64 = .ok (.aload_n 0, 1) := by decide +kernel
theorem dX7_sheet_65 : decode cX7_sheet 65 = .ok (.getfield 43, 3) := by decide +kernel
theorem dX7_sheet_68 : decode cX7_sheet 68 = .ok (.iload_n 1, 1) := by decide +kernel
theorem dX7_sheet_69 : decode cX7_sheet 69 = .ok (.aaload, 1) := by decide +kernel
theorem dX7_sheet_70 : decode cX7_sheet 70 = .ok (.getfield 269, 3) := by decide +kernel
theorem dX7_sheet_73 : decode cX7_sheet 73 = .ok (.ireturn, 1) := by decide +kernel
set_option maxRecDepth 20000 in
theorem ggX7_write_X7_isSheet : GoodIn wsX7_write wsX7_isSheet := goodIn_r _ [9] (by decide +kernel) (by decide +kernel)
set_option maxRecDepth 20000 in
theorem gX7_write_X7_isSheet : GoodIn wsX7_write (va_wsS RX7 260 yX7_isSheet wsX7_isSheet) := goodIn_app (goodIn_of _ (by decide +kernel)) ggX7_write_X7_isSheet
set_option maxRecDepth 20000 in
theorem ggX7_write_X7_finding : GoodIn wsX7_write wsX7_finding := goodIn_r _ [13, 14, 25, 26, 27, 28, 29, 30, 31, 32, 33, 34, 35, 36, 37] (by decide +kernel) (by decide +kernel)
set_option maxRecDepth 20000 in
theorem gX7_write_X7_finding : GoodIn wsX7_write (wsV RX7 84 RX7 yX7_finding wsX7_finding) := goodIn_app (goodIn_of _ (by decide +kernel)) ggX7_write_X7_finding
set_option maxRecDepth 20000 in
theorem ggX7_write_X5_isMissing : GoodIn wsX7_write wsX5_isMissing := goodIn_r _ [19, 20, 38, 39, 40] (by decide +kernel) (by decide +kernel)
set_option maxRecDepth 20000 in
theorem gX7_write_X5_isMissing : GoodIn wsX7_write (wsV RX7 272 RX5 yX5_isMissing wsX5_isMissing) := goodIn_app (goodIn_of _ (by decide +kernel)) ggX7_write_X5_isMissing
set_option maxRecDepth 20000 in
theorem ggX7_write_X5_lowestBits : GoodIn wsX7_write wsX5_lowestBits := goodIn_r _ [24, 20, 38, 39, 40] (by decide +kernel) (by decide +kernel)
set_option maxRecDepth 20000 in
theorem gX7_write_X5_lowestBits : GoodIn wsX7_write (wsV RX7 277 RX5 yX5_lowestBits wsX5_lowestBits) := goodIn_app (goodIn_of _ (by decide +kernel)) ggX7_write_X5_lowestBits
theorem dX7_write_0 : decode cX7_write 0 = .ok (.iload_n 1, 1) := by decide +kernel
theorem dX7_write_1 : decode cX7_write 1 = .ok (.invokestatic 260, 3) := by decide +kernel
theorem dX7_write_4 : decode cX7_write 4 = .ok (.ifCond .ne 10, 3) := by decide +kernel
theorem dX7_write_7 : decode cX7_write 7 = .ok (.aload_n 0, 1) := by decide +kernel
theorem dX7_write_8 : decode cX7_write 8 = .ok (.ldc 83, 2) := by decide +kernel
theorem dX7_write_10 : decode cX7_write 10 = .ok (.invokevirtual 84, 3) := by decide +kernel
theorem dX7_write_13 : decode cX7_write 13 = .ok (.ireturn, 1) := by decide +kernel
theorem dX7_write_14 : decode cX7_write 14 = .ok (.aload_n 0, 1) := by decide +kernel
theorem dX7_write_15 : decode cX7_write 15 = .ok (.getfield 43, 3) := by decide +kernel
theorem dX7_write_18 : decode cX7_write 18 = .ok (.iload_n 1, 1) := by decide +kernel
theorem dX7_write_19 : decode cX7_write 19 = .ok (.aaload, 1) := by decide +kernel
theorem dX7_write_20 : decode cX7_write 20 = .ok (.astore 4, 2) := by decide +kernel
theorem dX7_write_22 : decode cX7_write 22 = .ok (.aload 4, 2) := by decide +kernel
theorem dX7_write_24 : decode cX7_write 24 = .ok (.invokevirtual 272, 3) := by decide +kernel
theorem dX7_write_27 : decode cX7_write 27 = .ok (.ifCond .eq 11, 3) := by decide +kernel
theorem dX7_write_30 : decode cX7_write 30 = .ok (.aload_n 0, 1) := by decide +kernel
theorem dX7_write_31 : decode cX7_write 31 = .ok (.ldc_w 275, 3) := by decide +kernel
theorem dX7_write_34 : decode cX7_write 34 = .ok (.invokevirtual 84, 3) := by decide +kernel
theorem dX7_write_37 : decode cX7_write 37 = .ok (.ireturn, 1) := by decide +kernel
theorem dX7_write_38 : decode cX7_write 38 = .ok (.iload_n 2, 1) := by decide +kernel
theorem dX7_write_39 : decode cX7_write 39 = .ok (.ifCond .lt 12, 3) := by decide +kernel
theorem dX7_write_42 : decode cX7_write 42 = .ok (.iload_n 2, 1) := by decide +kernel
theorem dX7_write_43 : decode cX7_write 43 = .ok (.aload 4, 2) := by decide +kernel
theorem dX7_write_45 : decode cX7_write 45 = .ok (.getfield 269, 3) := by decide +kernel
theorem dX7_write_48 : decode cX7_write 48 = .ok (.if_icmp .lt 10, 3) := by decide +kernel
theorem dX7_write_51 : decode cX7_write 51 = .ok (.aload_n 0, 1) := by decide +kernel
theorem dX7_write_52 : decode cX7_write 52 = .ok (.ldc 83, 2) := by decide +kernel
theorem dX7_write_54 : decode cX7_write 54 = .ok (.invokevirtual 84, 3) := by decide +kernel
theorem dX7_write_57 : decode cX7_write 57 = .ok (.ireturn, 1) := by decide +kernel
theorem dX7_write_58 : decode cX7_write 58 = .ok (.aload 4, 2) := by decide +kernel
theorem dX7_write_60 : decode cX7_write 60 = .ok (.getfield 276, 3) := by decide +kernel
theorem dX7_write_63 : decode cX7_write 63 = .ok (.iload_n 2, 1) := by decide +kernel
theorem dX7_write_64 : decode cX7_write 64 = .ok (.aload 4, 2) := by decide +kernel
theorem dX7_write_66 : decode cX7_write 66 = .ok (.iload_n 3, 1) := by decide +kernel
theorem dX7_write_67 : decode cX7_write 67 = .ok (.invokevirtual 277, 3) := by decide +kernel
theorem dX7_write_70 : decode cX7_write 70 = .ok (.iastore, 1) := by decide +kernel
theorem dX7_write_71 : decode cX7_write 71 = .ok (.iconst 0, 1) := by decide +kernel
theorem dX7_write_72 : decode cX7_write 72 = .ok (.ireturn, 1) := by decide +kernel
set_option maxRecDepth 20000 in
theorem ggX7_copy_X7_isSheet : GoodIn wsX7_copy wsX7_isSheet := goodIn_r _ [14] (by decide +kernel) (by decide +kernel)
set_option maxRecDepth 20000 in
theorem gX7_copy_X7_isSheet : GoodIn wsX7_copy (va_wsS RX7 260 yX7_isSheet wsX7_isSheet) := goodIn_app (goodIn_of _ (by decide +kernel)) ggX7_copy_X7_isSheet
set_option maxRecDepth 20000 in
theorem ggX7_copy_X7_finding : GoodIn wsX7_copy wsX7_finding := goodIn_r _ [18, 19, 31, 32, 33, 34, 35, 36, 37, 38, 39, 40, 41, 42, 43] (by decide +kernel) (by decide +kernel)
set_option maxRecDepth 20000 in
theorem gX7_copy_X7_finding : GoodIn wsX7_copy (wsV RX7 84 RX7 yX7_finding wsX7_finding) := goodIn_app (goodIn_of _ (by decide +kernel)) ggX7_copy_X7_finding
set_option maxRecDepth 20000 in
theorem ggX7_copy_X5_isMissing : GoodIn wsX7_copy wsX5_isMissing := goodIn_r _ [24, 25, 44, 45, 46] (by decide +kernel) (by decide +kernel)
set_option maxRecDepth 20000 in
theorem gX7_copy_X5_isMissing : GoodIn wsX7_copy (wsV RX7 272 RX5 yX5_isMissing wsX5_isMissing) := goodIn_app (goodIn_of _ (by decide +kernel)) ggX7_copy_X5_isMissing
set_option maxRecDepth 20000 in
theorem ggX7_copy_X5_hasRange : GoodIn wsX7_copy wsX5_hasRange := goodIn_r _ [29, 30, 44, 45, 46] (by decide +kernel) (by decide +kernel)
set_option maxRecDepth 20000 in
theorem gX7_copy_X5_hasRange : GoodIn wsX7_copy (wsV RX7 283 RX5 yX5_hasRange wsX5_hasRange) := goodIn_app (goodIn_of _ (by decide +kernel)) ggX7_copy_X5_hasRange
theorem dX7_copy_0 : decode cX7_copy 0 = .ok (.iload_n 1, 1) := by decide +kernel
theorem dX7_copy_1 : decode cX7_copy 1 = .ok (.invokestatic 260, 3) := by decide +kernel
theorem dX7_copy_4 : decode cX7_copy 4 = .ok (.ifCond .eq 10, 3) := by decide +kernel
theorem dX7_copy_7 : decode cX7_copy 7 = .ok (.iload_n 3, 1) := by decide +kernel
theorem dX7_copy_8 : decode cX7_copy 8 = .ok (.invokestatic 260, 3) := by decide +kernel
theorem dX7_copy_11 : decode cX7_copy 11 = .ok (.ifCond .ne 10, 3) := by decide +kernel
theorem dX7_copy_14 : decode cX7_copy 14 = .ok (.aload_n 0, 1) := by decide +kernel
theorem dX7_copy_15 : decode cX7_copy 15 = .ok (.ldc 83, 2) := by decide +kernel
theorem dX7_copy_17 : decode cX7_copy 17 = .ok (.invokevirtual 84, 3) := by decide +kernel
theorem dX7_copy_20 : decode cX7_copy 20 = .ok (.ireturn, 1) := by decide +kernel
theorem dX7_copy_21 : decode cX7_copy 21 = .ok (.aload_n 0, 1) := by decide +kernel
theorem dX7_copy_22 : decode cX7_copy 22 = .ok (.getfield 43, 3) := by decide +kernel
theorem dX7_copy_25 : decode cX7_copy 25 = .ok (.iload_n 1, 1) := by decide +kernel
theorem dX7_copy_26 : decode cX7_copy 26 = .ok (.aaload, 1) := by decide +kernel
theorem dX7_copy_27 : decode cX7_copy 27 = .ok (.astore 6, 2) := by decide +kernel
theorem dX7_copy_29 : decode cX7_copy 29 = .ok (.aload_n 0, 1) := by decide +kernel
theorem dX7_copy_30 : decode cX7_copy 30 = .ok (.getfield 43, 3) := by decide +kernel
theorem dX7_copy_33 : decode cX7_copy 33 = .ok (.iload_n 3, 1) := by decide +kernel
theorem dX7_copy_34 : decode cX7_copy 34 = .ok (.aaload, 1) := by decide +kernel
theorem dX7_copy_35 : decode cX7_copy 35 = .ok (.astore 7, 2) := by decide +kernel
theorem dX7_copy_37 : decode cX7_copy 37 = .ok (.aload 6, 2) := by decide +kernel
theorem dX7_copy_39 : decode cX7_copy 39 = .ok (.invokevirtual 272, 3) := by decide +kernel
theorem dX7_copy_42 : decode cX7_copy 42 = .ok (.ifCond .ne 11, 3) := by decide +kernel
theorem dX7_copy_45 : decode cX7_copy 45 = .ok (.aload 7, 2) := by decide +kernel
theorem dX7_copy_47 : decode cX7_copy 47 = .ok (.invokevirtual 272, 3) := by decide +kernel
theorem dX7_copy_50 : decode cX7_copy 50 = .ok (.ifCond .eq 11, 3) := by decide +kernel
theorem dX7_copy_53 : decode cX7_copy 53 = .ok (.aload_n 0, 1) := by decide +kernel
theorem dX7_copy_54 : decode cX7_copy 54 = .ok (.ldc_w 275, 3) := by decide +kernel
theorem dX7_copy_57 : decode cX7_copy 57 = .ok (.invokevirtual 84, 3) := by decide +kernel
theorem dX7_copy_60 : decode cX7_copy 60 = .ok (.ireturn, 1) := by decide +kernel
theorem dX7_copy_61 : decode cX7_copy 61 = .ok (.aload 6, 2) := by decide +kernel
theorem dX7_copy_63 : decode cX7_copy 63 = .ok (.getfield 280, 3) := by decide +kernel
theorem dX7_copy_66 : decode cX7_copy 66 = .ok (.aload 7, 2) := by decide +kernel
theorem dX7_copy_68 : decode cX7_copy 68 = .ok (.getfield 280, 3) := by decide +kernel
theorem dX7_copy_71 : decode cX7_copy 71 = .ok (.if_icmp .eq 10, 3) := by decide +kernel
theorem dX7_copy_74 : decode cX7_copy 74 = .ok (.aload_n 0, 1) := by decide +kernel
theorem dX7_copy_75 : decode cX7_copy 75 = .ok (.ldc 182, 2) := by decide +kernel
theorem dX7_copy_77 : decode cX7_copy 77 = .ok (.invokevirtual 84, 3) := by decide +kernel
theorem dX7_copy_80 : decode cX7_copy 80 = .ok (.ireturn, 1) := by decide +kernel
theorem dX7_copy_81 : decode cX7_copy 81 = .ok (.aload 6, 2) := by decide +kernel
theorem dX7_copy_83 : decode cX7_copy 83 = .ok (.iload_n 2, 1) := by decide +kernel
theorem dX7_copy_84 : decode cX7_copy 84 = .ok (.iload 5, 2) := by decide +kernel
theorem dX7_copy_86 : decode cX7_copy 86 = .ok (.invokevirtual 283, 3) := by decide +kernel
theorem dX7_copy_89 : decode cX7_copy 89 = .ok (.ifCond .eq 15, 3) := by decide +kernel
theorem dX7_copy_92 : decode cX7_copy 92 = .ok (.aload 7, 2) := by decide +kernel
theorem dX7_copy_94 : decode cX7_copy 94 = .ok (.iload 4, 2) := by decide +kernel
theorem dX7_copy_96 : decode cX7_copy 96 = .ok (.iload 5, 2) := by decide +kernel
theorem dX7_copy_98 : decode cX7_copy 98 = .ok (.invokevirtual 283, 3) := by decide +kernel
theorem dX7_copy_101 : decode cX7_copy 101 = .ok (.ifCond .ne 10, 3) := by decide +kernel
theorem dX7_copy_104 : decode cX7_copy 104 = .ok (.aload_n 0, 1) := by decide +kernel
theorem dX7_copy_105 : decode cX7_copy 105 = .ok (.ldc 83, 2) := by decide +kernel
theorem dX7_copy_107 : decode cX7_copy 107 = .ok (.invokevirtual 84, 3) := by decide +kernel
theorem dX7_copy_110 : decode cX7_copy 110 = .ok (.ireturn, 1) := by decide +kernel
theorem dX7_copy_111 : decode cX7_copy 111 = .ok (.aload 6, 2) := by decide +kernel
theorem dX7_copy_113 : decode cX7_copy 113 = .ok (.getfield 276, 3) := by decide +kernel
theorem dX7_copy_116 : decode cX7_copy 116 = .ok (.iload_n 2, 1) := by decide +kernel
theorem dX7_copy_117 : decode cX7_copy 117 = .ok (.aload 7, 2) := by decide +kernel
theorem dX7_copy_119 : decode cX7_copy 119 = .ok (.getfield 276, 3) := by decide +kernel
theorem dX7_copy_122 : decode cX7_copy 122 = .ok (.iload 4, 2) := by decide +kernel
theorem dX7_copy_124 : decode cX7_copy 124 = .ok (.iload 5, 2) := by decide +kernel
theorem dX7_copy_126 : decode cX7_copy 126 = .ok (.invokestatic 286, 3) := by decide +kernel
theorem dX7_copy_129 : decode cX7_copy 129 = .ok (.iload 5, 2) := by decide +kernel
theorem dX7_copy_131 : decode cX7_copy 131 = .ok (.ireturn, 1) := by decide +kernel
set_option maxRecDepth 20000 in
theorem ggX7_lay_X7_isSheet : GoodIn wsX7_lay wsX7_isSheet := goodIn_r _ [15] (by decide +kernel) (by decide +kernel)
set_option maxRecDepth 20000 in
theorem gX7_lay_X7_isSheet : GoodIn wsX7_lay (va_wsS RX7 260 yX7_isSheet wsX7_isSheet) := goodIn_app (goodIn_of _ (by decide +kernel)) ggX7_lay_X7_isSheet
set_option maxRecDepth 20000 in
theorem ggX7_lay_X7_finding : GoodIn wsX7_lay wsX7_finding := goodIn_r _ [19, 20, 81, 82, 83, 84, 85, 86, 87, 88, 89, 90, 91, 92, 93] (by decide +kernel) (by decide +kernel)
set_option maxRecDepth 20000 in
theorem gX7_lay_X7_finding : GoodIn wsX7_lay (wsV RX7 84 RX7 yX7_finding wsX7_finding) := goodIn_app (goodIn_of _ (by decide +kernel)) ggX7_lay_X7_finding
set_option maxRecDepth 20000 in
theorem ggX7_lay_X5_isMissing : GoodIn wsX7_lay wsX5_isMissing := goodIn_r _ [25, 26, 94, 95, 96] (by decide +kernel) (by decide +kernel)
set_option maxRecDepth 20000 in
theorem gX7_lay_X5_isMissing : GoodIn wsX7_lay (wsV RX7 272 RX5 yX5_isMissing wsX5_isMissing) := goodIn_app (goodIn_of _ (by decide +kernel)) ggX7_lay_X5_isMissing
set_option maxRecDepth 20000 in
theorem ggX7_lay_X1_part : GoodIn wsX7_lay wsX1_part := goodIn_r _ [31, 32, 33, 98, 99] (by decide +kernel) (by decide +kernel)
set_option maxRecDepth 20000 in
theorem gX7_lay_X1_part : GoodIn wsX7_lay (wsV RX7 92 RX1 yX1_part wsX1_part) := goodIn_app (goodIn_of _ (by decide +kernel)) ggX7_lay_X1_part
set_option maxRecDepth 20000 in
theorem ggX7_lay_X1_fits : GoodIn wsX7_lay wsX1_fits := goodIn_r _ [37, 33, 32, 38, 39, 40, 41, 42, 43, 44, 14, 45, 98, 99, 97] (by decide +kernel) (by decide +kernel)
set_option maxRecDepth 20000 in
theorem gX7_lay_X1_fits : GoodIn wsX7_lay (wsV RX7 292 RX1 yX1_fits wsX1_fits) := goodIn_app (goodIn_of _ (by decide +kernel)) ggX7_lay_X1_fits
set_option maxRecDepth 20000 in
theorem ggX7_lay_X7_takeDraft : GoodIn wsX7_lay wsX7_takeDraft := goodIn_r _ [49, 50, 51, 52, 6, 53, 54, 55, 56, 57, 58, 59, 60, 9, 10, 11, 61, 62, 63, 64, 65, 66, 67, 68, 69, 70, 71, 72, 73, 74, 30, 75, 33, 32, 76, 77, 78, 41, 79, 43, 80, 81, 82, 83, 84, 85, 86, 87, 88, 89, 90, 91, 92, 93, 100, 101, 102, 98, 99, 97, 103, 104, 105] (by decide +kernel) (by decide +kernel)
set_option maxRecDepth 20000 in
theorem gX7_lay_X7_takeDraft : GoodIn wsX7_lay (wsV RX7 101 RX7 yX7_takeDraft wsX7_takeDraft) := goodIn_app (goodIn_of _ (by decide +kernel)) ggX7_lay_X7_takeDraft
theorem dX7_lay_0 : decode cX7_lay 0 = .ok (.iload_n 1, 1) := by decide +kernel
theorem dX7_lay_1 : decode cX7_lay 1 = .ok (.invokestatic 260, 3) := by decide +kernel
theorem dX7_lay_4 : decode cX7_lay 4 = .ok (.ifCond .ne 10, 3) := by decide +kernel
theorem dX7_lay_7 : decode cX7_lay 7 = .ok (.aload_n 0, 1) := by decide +kernel
theorem dX7_lay_8 : decode cX7_lay 8 = .ok (.ldc 83, 2) := by decide +kernel
theorem dX7_lay_10 : decode cX7_lay 10 = .ok (.invokevirtual 84, 3) := by decide +kernel
theorem dX7_lay_13 : decode cX7_lay 13 = .ok (.ireturn, 1) := by decide +kernel
theorem dX7_lay_14 : decode cX7_lay 14 = .ok (.aload_n 0, 1) := by decide +kernel
theorem dX7_lay_15 : decode cX7_lay 15 = .ok (.getfield 43, 3) := by decide +kernel
theorem dX7_lay_18 : decode cX7_lay 18 = .ok (.iload_n 1, 1) := by decide +kernel
theorem dX7_lay_19 : decode cX7_lay 19 = .ok (.aaload, 1) := by decide +kernel
theorem dX7_lay_20 : decode cX7_lay 20 = .ok (.astore_n 2, 1) := by decide +kernel
theorem dX7_lay_21 : decode cX7_lay 21 = .ok (.aload_n 2, 1) := by decide +kernel
theorem dX7_lay_22 : decode cX7_lay 22 = .ok (.invokevirtual 272, 3) := by decide +kernel
theorem dX7_lay_25 : decode cX7_lay 25 = .ok (.ifCond .eq 11, 3) := by decide +kernel
theorem dX7_lay_28 : decode cX7_lay 28 = .ok (.aload_n 0, 1) := by decide +kernel
theorem dX7_lay_29 : decode cX7_lay 29 = .ok (.ldc_w 275, 3) := by decide +kernel
theorem dX7_lay_32 : decode cX7_lay 32 = .ok (.invokevirtual 84, 3) := by decide +kernel
theorem dX7_lay_35 : decode cX7_lay 35 = .ok (.ireturn, 1) := by decide +kernel
theorem dX7_lay_36 : decode cX7_lay 36 = .ok (.iconst 0, 1) := by decide +kernel
theorem dX7_lay_37 : decode cX7_lay 37 = .ok (.istore_n 3, 1) := by decide +kernel
theorem dX7_lay_38 : decode cX7_lay 38 = .ok (.iload_n 3, 1) := by decide +kernel
theorem dX7_lay_39 : decode cX7_lay 39 = .ok (.bipush 12, 2) := by decide +kernel
theorem dX7_lay_41 : decode cX7_lay 41 = .ok (.if_icmp .ge 57, 3) := by decide +kernel
theorem dX7_lay_44 : decode cX7_lay 44 = .ok (.iload_n 3, 1) := by decide +kernel
theorem dX7_lay_45 : decode cX7_lay 45 = .ok (.aload_n 2, 1) := by decide +kernel
theorem dX7_lay_46 : decode cX7_lay 46 = .ok (.getfield 269, 3) := by decide +kernel
theorem dX7_lay_49 : decode cX7_lay 49 = .ok (.if_icmp .ge 12, 3) := by decide +kernel
theorem dX7_lay_52 : decode cX7_lay 52 = .ok (.aload_n 2, 1) := by decide +kernel
theorem dX7_lay_53 : decode cX7_lay 53 = .ok (.getfield 276, 3) := by decide +kernel
theorem dX7_lay_56 : decode cX7_lay 56 = .ok (.iload_n 3, 1) := by decide +kernel
theorem dX7_lay_57 : decode cX7_lay 57 = .ok (.iaload, 1) := by decide +kernel
theorem dX7_lay_58 : decode cX7_lay 58 = .ok (.goto 4, 3) := by decide +kernel
theorem dX7_lay_61 : decode cX7_lay 61 = .ok (.iconst 0, 1) := by decide +kernel
theorem dX7_lay_62 : decode cX7_lay 62 = .ok (.istore 4, 2) := by decide +kernel
theorem dX7_lay_64 : decode cX7_lay 64 = .ok (.aload_n 0, 1) := by decide +kernel
theorem dX7_lay_65 : decode cX7_lay 65 = .ok (.getfield 16, 3) := by decide +kernel
theorem dX7_lay_68 : decode cX7_lay 68 = .ok (.iload_n 3, 1) := by decide +kernel
theorem dX7_lay_69 : decode cX7_lay 69 = .ok (.bipush 6, 2) := by decide +kernel
theorem dX7_lay_71 : decode cX7_lay 71 = .ok (.if_icmp .lt 7, 3) := by decide +kernel
theorem dX7_lay_74 : decode cX7_lay 74 = .ok (.iconst 1, 1) := by decide +kernel
theorem dX7_lay_75 : decode cX7_lay 75 = .ok (.goto 4, 3) := by decide +kernel
theorem dX7_lay_78 : decode cX7_lay 78 = .ok (.iconst 0, 1) := by decide +kernel
theorem dX7_lay_79 : decode cX7_lay 79 = .ok (.invokevirtual 92, 3) := by decide +kernel
theorem dX7_lay_82 : decode cX7_lay 82 = .ok (.getfield 96, 3) := by decide +kernel
theorem dX7_lay_85 : decode cX7_lay 85 = .ok (.iload_n 3, 1) := by decide +kernel
theorem dX7_lay_86 : decode cX7_lay 86 = .ok (.bipush 6, 2) := by decide +kernel
theorem dX7_lay_88 : decode cX7_lay 88 = .ok (.irem, 1) := by decide +kernel
theorem dX7_lay_89 : decode cX7_lay 89 = .ok (.iload 4, 2) := by decide +kernel
theorem dX7_lay_91 : decode cX7_lay 91 = .ok (.iastore, 1) := by decide +kernel
theorem dX7_lay_92 : decode cX7_lay 92 = .ok (.iinc 3 1, 3) := by decide +kernel
theorem dX7_lay_95 : decode cX7_lay 95 = .ok (.goto (-57), 3) := by decide +kernel
theorem dX7_lay_98 : decode cX7_lay 98 = .ok (.aload_n 0, 1) := by decide +kernel
theorem dX7_lay_99 : decode cX7_lay 99 = .ok (.getfield 16, 3) := by decide +kernel
theorem dX7_lay_102 : decode cX7_lay 102 = .ok (.invokevirtual 292, 3) := by decide +kernel
theorem dX7_lay_105 : decode cX7_lay 105 = .ok (.ifCond .ne 10, 3) := by decide +kernel
theorem dX7_lay_108 : decode cX7_lay 108 = .ok (.aload_n 0, 1) := by decide +kernel
theorem dX7_lay_109 : decode cX7_lay 109 = .ok (.ldc 83, 2) := by decide +kernel
theorem dX7_lay_111 : decode cX7_lay 111 = .ok (.invokevirtual 84, 3) := by decide +kernel
theorem dX7_lay_114 : decode cX7_lay 114 = .ok (.ireturn, 1) := by decide +kernel
theorem dX7_lay_115 : decode cX7_lay 115 = .ok (.aload_n 0, 1) := by decide +kernel
theorem dX7_lay_116 : decode cX7_lay 116 = .ok (.aload_n 2, 1) := by decide +kernel
theorem dX7_lay_117 : decode cX7_lay 117 = .ok (.getfield 269, 3) := by decide +kernel
theorem dX7_lay_120 : decode cX7_lay 120 = .ok (.bipush 12, 2) := by decide +kernel
theorem dX7_lay_122 : decode cX7_lay 122 = .ok (.invokestatic 236, 3) := by decide +kernel
theorem dX7_lay_125 : decode cX7_lay 125 = .ok (.invokevirtual 101, 3) := by decide +kernel
theorem dX7_lay_128 : decode cX7_lay 128 = .ok (.ireturn, 1) := by decide +kernel
set_option maxRecDepth 20000 in
theorem ggX7_undo_X7_finding : GoodIn wsX7_undo wsX7_finding := goodIn_r _ [10, 11, 30, 31, 32, 33, 34, 35, 36, 37, 38, 39, 40, 41, 42] (by decide +kernel) (by decide +kernel)
set_option maxRecDepth 20000 in
theorem gX7_undo_X7_finding : GoodIn wsX7_undo (wsV RX7 84 RX7 yX7_finding wsX7_finding) := goodIn_app (goodIn_of _ (by decide +kernel)) ggX7_undo_X7_finding
set_option maxRecDepth 20000 in
theorem ggX7_undo_X2_bringBack : GoodIn wsX7_undo wsX2_bringBack := goodIn_r _ [16, 17, 18, 19, 20, 21, 22, 23, 24, 25, 26, 27, 28, 29, 43, 44, 45, 46, 47, 48, 49, 50, 51] (by decide +kernel) (by decide +kernel)
set_option maxRecDepth 20000 in
theorem gX7_undo_X2_bringBack : GoodIn wsX7_undo (wsV RX7 296 RX2 yX2_bringBack wsX2_bringBack) := goodIn_app (goodIn_of _ (by decide +kernel)) ggX7_undo_X2_bringBack
theorem dX7_undo_0 : decode cX7_undo 0 = .ok (.aload_n 0, 1) := by decide +kernel
theorem dX7_undo_1 : decode cX7_undo 1 = .ok (.getfield 29, 3) := by decide +kernel
theorem dX7_undo_4 : decode cX7_undo 4 = .ok (.getfield 295, 3) := by decide +kernel
theorem dX7_undo_7 : decode cX7_undo 7 = .ok (.ifCond .ne 10, 3) := by decide +kernel
theorem dX7_undo_10 : decode cX7_undo 10 = .ok (.aload_n 0, 1) := by decide +kernel
theorem dX7_undo_11 : decode cX7_undo 11 = .ok (.ldc 146, 2) := by decide +kernel
theorem dX7_undo_13 : decode cX7_undo 13 = .ok (.invokevirtual 84, 3) := by decide +kernel
theorem dX7_undo_16 : decode cX7_undo 16 = .ok (.ireturn, 1) := by decide +kernel
theorem dX7_undo_17 : decode cX7_undo 17 = .ok (.aload_n 0, 1) := by decide +kernel
theorem dX7_undo_18 : decode cX7_undo 18 = .ok (.getfield 29, 3) := by decide +kernel
theorem dX7_undo_21 : decode cX7_undo 21 = .ok (.aload_n 0, 1) := by decide +kernel
theorem dX7_undo_22 : decode cX7_undo 22 = .ok (.getfield 10, 3) := by decide +kernel
theorem dX7_undo_25 : decode cX7_undo 25 = .ok (.aload_n 0, 1) := by decide +kernel
theorem dX7_undo_26 : decode cX7_undo 26 = .ok (.getfield 22, 3) := by decide +kernel
theorem dX7_undo_29 : decode cX7_undo 29 = .ok (.invokevirtual 296, 3) := by decide +kernel
theorem dX7_undo_32 : decode cX7_undo 32 = .ok (.aload_n 0, 1) := by decide +kernel
theorem dX7_undo_33 : decode cX7_undo 33 = .ok (.getfield 29, 3) := by decide +kernel
theorem dX7_undo_36 : decode cX7_undo 36 = .ok (.getfield 295, 3) := by decide +kernel
theorem dX7_undo_39 : decode cX7_undo 39 = .ok (.ireturn, 1) := by decide +kernel
set_option maxRecDepth 20000 in
theorem ggX7_told_X1_countNotZero : GoodIn wsX7_told wsX1_countNotZero := goodIn_r _ [10, 11, 12, 13, 14, 15, 16, 17, 18, 45, 46, 47] (by decide +kernel) (by decide +kernel)
set_option maxRecDepth 20000 in
theorem gX7_told_X1_countNotZero : GoodIn wsX7_told (wsV RX7 257 RX1 yX1_countNotZero wsX1_countNotZero) := goodIn_app (goodIn_of _ (by decide +kernel)) ggX7_told_X1_countNotZero
set_option maxRecDepth 20000 in
theorem ggX7_told_X7_countFilledSlots : GoodIn wsX7_told wsX7_countFilledSlots := goodIn_r _ [23, 24, 29, 30, 31, 32, 33, 34, 35, 36, 37, 38, 39, 40, 41] (by decide +kernel) (by decide +kernel)
set_option maxRecDepth 20000 in
theorem gX7_told_X7_countFilledSlots : GoodIn wsX7_told (wsV RX7 299 RX7 yX7_countFilledSlots wsX7_countFilledSlots) := goodIn_app (goodIn_of _ (by decide +kernel)) ggX7_told_X7_countFilledSlots
set_option maxRecDepth 20000 in
theorem ggX7_told_X7_finding : GoodIn wsX7_told wsX7_finding := goodIn_r _ [28, 4, 29, 30, 31, 32, 33, 34, 35, 36, 37, 38, 39, 40, 41] (by decide +kernel) (by decide +kernel)
set_option maxRecDepth 20000 in
theorem gX7_told_X7_finding : GoodIn wsX7_told (wsV RX7 84 RX7 yX7_finding wsX7_finding) := goodIn_app (goodIn_of _ (by decide +kernel)) ggX7_told_X7_finding
theorem dX7_told_0 : decode cX7_told 0 = .ok (.iload_n 1, 1) := by decide +kernel
theorem dX7_told_1 : decode cX7_told 1 = .ok (.tableswitch 57 0 3 #[31, 39, 47, 52], 31) := by decide +kernel
theorem dX7_told_32 : decode cX7_told 32 = .ok (.aload_n 0, 1) := by decide +kernel
theorem dX7_told_33 : decode cX7_told 33 = .ok (.getfield 22, 3) := by decide +kernel
theorem dX7_told_36 : decode cX7_told 36 = .ok (.getfield 160, 3) := by decide +kernel
theorem dX7_told_39 : decode cX7_told 39 = .ok (.ireturn, 1) := by decide +kernel
theorem dX7_told_40 : decode cX7_told 40 = .ok (.aload_n 0, 1) := by decide +kernel
theorem dX7_told_41 : decode cX7_told 41 = .ok (.getfield 10, 3) := by decide +kernel
theorem dX7_told_44 : decode cX7_told 44 = .ok (.invokevirtual 257, 3) := by decide +kernel
theorem dX7_told_47 : decode cX7_told 47 = .ok (.ireturn, 1) := by decide +kernel
theorem dX7_told_48 : decode cX7_told 48 = .ok (.aload_n 0, 1) := by decide +kernel
theorem dX7_told_49 : decode cX7_told 49 = .ok (.invokevirtual 299, 3) := by decide +kernel
theorem dX7_told_52 : decode cX7_told 52 = .ok (.ireturn, 1) := by decide +kernel
theorem dX7_told_53 : decode cX7_told 53 = .ok (.aload_n 0, 1) := by decide +kernel
theorem dX7_told_54 : decode cX7_told 54 = .ok (.getfield 71, 3) := by decide +kernel
theorem dX7_told_57 : decode cX7_told 57 = .ok (.ireturn, 1) := by decide +kernel
theorem dX7_told_58 : decode cX7_told 58 = .ok (.aload_n 0, 1) := by decide +kernel
theorem dX7_told_59 : decode cX7_told 59 = .ok (.ldc 83, 2) := by decide +kernel
theorem dX7_told_61 : decode cX7_told 61 = .ok (.invokevirtual 84, 3) := by decide +kernel
theorem dX7_told_64 : decode cX7_told 64 = .ok (.ireturn, 1) := by decide +kernel
theorem dX7_finding_0 : decode cX7_finding 0 = .ok (.aload_n 0, 1) := by decide +kernel
theorem dX7_finding_1 : decode cX7_finding 1 = .ok (.dup, 1) := by decide +kernel
theorem dX7_finding_2 : decode cX7_finding 2 = .ok (.getfield 71, 3) := by decide +kernel
theorem dX7_finding_5 : decode cX7_finding 5 = .ok (.iconst 1, 1) := by decide +kernel
theorem dX7_finding_6 : decode cX7_finding 6 = .ok (.iadd, 1) := by decide +kernel
theorem dX7_finding_7 : decode cX7_finding 7 = .ok (.putfield 71, 3) := by decide +kernel
theorem dX7_finding_10 : decode cX7_finding 10 = .ok (.iload_n 1, 1) := by decide +kernel
theorem dX7_finding_11 : decode cX7_finding 11 = .ok (.ireturn, 1) := by decide +kernel
set_option maxRecDepth 20000 in
theorem ggX7_takeDraft_X2_remember : GoodIn wsX7_takeDraft wsX2_remember := goodIn_r _ [9, 10, 11, 12, 13, 14, 15, 16, 17, 18, 19, 20, 21, 22, 23, 24, 25, 26, 54, 55, 56, 57, 58, 59, 60, 61, 62] (by decide +kernel) (by decide +kernel)
set_option maxRecDepth 20000 in
theorem gX7_takeDraft_X2_remember : GoodIn wsX7_takeDraft (wsV RX7 164 RX2 yX2_remember wsX2_remember) := goodIn_app (goodIn_of _ (by decide +kernel)) ggX7_takeDraft_X2_remember
set_option maxRecDepth 20000 in
theorem ggX7_takeDraft_X1_become : GoodIn wsX7_takeDraft wsX1_become := goodIn_r _ [31, 32, 33, 34, 35, 36, 37, 38, 39, 40, 20, 21, 22, 57, 58, 59] (by decide +kernel) (by decide +kernel)
set_option maxRecDepth 20000 in
theorem gX7_takeDraft_X1_become : GoodIn wsX7_takeDraft (wsV RX7 88 RX1 yX1_become wsX1_become) := goodIn_app (goodIn_of _ (by decide +kernel)) ggX7_takeDraft_X1_become
theorem dX7_takeDraft_0 : decode cX7_takeDraft 0 = .ok (.aload_n 0, 1) := by decide +kernel
theorem dX7_takeDraft_1 : decode cX7_takeDraft 1 = .ok (.getfield 29, 3) := by decide +kernel
theorem dX7_takeDraft_4 : decode cX7_takeDraft 4 = .ok (.aload_n 0, 1) := by decide +kernel
theorem dX7_takeDraft_5 : decode cX7_takeDraft 5 = .ok (.getfield 10, 3) := by decide +kernel
theorem dX7_takeDraft_8 : decode cX7_takeDraft 8 = .ok (.aload_n 0, 1) := by decide +kernel
theorem dX7_takeDraft_9 : decode cX7_takeDraft 9 = .ok (.getfield 22, 3) := by decide +kernel
theorem dX7_takeDraft_12 : decode cX7_takeDraft 12 = .ok (.invokevirtual 164, 3) := by decide +kernel
theorem dX7_takeDraft_15 : decode cX7_takeDraft 15 = .ok (.aload_n 0, 1) := by decide +kernel
theorem dX7_takeDraft_16 : decode cX7_takeDraft 16 = .ok (.getfield 10, 3) := by decide +kernel
theorem dX7_takeDraft_19 : decode cX7_takeDraft 19 = .ok (.aload_n 0, 1) := by decide +kernel
theorem dX7_takeDraft_20 : decode cX7_takeDraft 20 = .ok (.getfield 16, 3) := by decide +kernel
theorem dX7_takeDraft_23 : decode cX7_takeDraft 23 = .ok (.invokevirtual 88, 3) := by decide +kernel
theorem dX7_takeDraft_26 : decode cX7_takeDraft 26 = .ok (.iload_n 1, 1) := by decide +kernel
theorem dX7_takeDraft_27 : decode cX7_takeDraft 27 = .ok (.ireturn, 1) := by decide +kernel
set_option maxRecDepth 20000 in
theorem ggX7_takeDraftIfItFits_X1_fits : GoodIn wsX7_takeDraftIfItFits wsX1_fits := goodIn_r _ [7, 8, 9, 10, 11, 12, 13, 14, 15, 16, 17, 18, 75, 76, 77] (by decide +kernel) (by decide +kernel)
set_option maxRecDepth 20000 in
theorem gX7_takeDraftIfItFits_X1_fits : GoodIn wsX7_takeDraftIfItFits (wsV RX7 292 RX1 yX1_fits wsX1_fits) := goodIn_app (goodIn_of _ (by decide +kernel)) ggX7_takeDraftIfItFits_X1_fits
set_option maxRecDepth 20000 in
theorem ggX7_takeDraftIfItFits_X7_takeDraft : GoodIn wsX7_takeDraftIfItFits wsX7_takeDraft := goodIn_r _ [22, 23, 24, 25, 1, 26, 27, 28, 29, 30, 31, 32, 33, 34, 35, 36, 37, 38, 39, 40, 41, 42, 43, 44, 45, 46, 47, 48, 49, 50, 6, 51, 8, 9, 52, 53, 54, 13, 55, 15, 56, 62, 63, 64, 65, 66, 67, 68, 69, 70, 71, 72, 73, 74, 78, 79, 80, 75, 76, 77, 81, 82, 83] (by decide +kernel) (by decide +kernel)
set_option maxRecDepth 20000 in
theorem gX7_takeDraftIfItFits_X7_takeDraft : GoodIn wsX7_takeDraftIfItFits (wsV RX7 101 RX7 yX7_takeDraft wsX7_takeDraft) := goodIn_app (goodIn_of _ (by decide +kernel)) ggX7_takeDraftIfItFits_X7_takeDraft
set_option maxRecDepth 20000 in
theorem ggX7_takeDraftIfItFits_X7_finding : GoodIn wsX7_takeDraftIfItFits wsX7_finding := goodIn_r _ [60, 61, 62, 63, 64, 65, 66, 67, 68, 69, 70, 71, 72, 73, 74] (by decide +kernel) (by decide +kernel)
set_option maxRecDepth 20000 in
theorem gX7_takeDraftIfItFits_X7_finding : GoodIn wsX7_takeDraftIfItFits (wsV RX7 84 RX7 yX7_finding wsX7_finding) := goodIn_app (goodIn_of _ (by decide +kernel)) ggX7_takeDraftIfItFits_X7_finding
theorem dX7_takeDraftIfItFits_0 : decode cX7_takeDraftIfItFits 0 = .ok (.aload_n 0, 1) := by decide +kernel
theorem dX7_takeDraftIfItFits_1 : decode cX7_takeDraftIfItFits 1 = .ok (.getfield 16, 3) := by decide +kernel
theorem dX7_takeDraftIfItFits_4 : decode cX7_takeDraftIfItFits 4 = .ok (.invokevirtual 292, 3) := by decide +kernel
theorem dX7_takeDraftIfItFits_7 : decode cX7_takeDraftIfItFits 7 = .ok (.ifCond .eq 11, 3) := by decide +kernel
theorem dX7_takeDraftIfItFits_10 : decode cX7_takeDraftIfItFits 10 = .ok (.aload_n 0, 1) := by decide +kernel
theorem dX7_takeDraftIfItFits_11 : decode cX7_takeDraftIfItFits 11 = .ok (.iconst 1, 1) := by decide +kernel
theorem dX7_takeDraftIfItFits_12 : decode cX7_takeDraftIfItFits 12 = .ok (.invokevirtual 101, 3) := by decide +kernel
theorem dX7_takeDraftIfItFits_15 : decode cX7_takeDraftIfItFits 15 = .ok (.goto 9, 3) := by decide +kernel
theorem dX7_takeDraftIfItFits_18 : decode cX7_takeDraftIfItFits 18 = .ok (.aload_n 0, 1) := by decide +kernel
theorem dX7_takeDraftIfItFits_19 : decode cX7_takeDraftIfItFits 19 = .ok (.ldc 159, 2) := by decide +kernel
theorem dX7_takeDraftIfItFits_21 : decode cX7_takeDraftIfItFits 21 = .ok (.invokevirtual 84, 3) := by decide +kernel
theorem dX7_takeDraftIfItFits_24 : decode cX7_takeDraftIfItFits 24 = .ok (.ireturn, 1) := by decide +kernel
set_option maxRecDepth 20000 in
theorem ggX7_refusalOfPiece_X0_stepX : GoodIn wsX7_refusalOfPiece wsX0_stepX := goodIn_r _ [9, 10, 29, 30, 31] (by decide +kernel) (by decide +kernel)
set_option maxRecDepth 20000 in
theorem gX7_refusalOfPiece_X0_stepX : GoodIn wsX7_refusalOfPiece (wsV RX7 302 RX0 yX0_stepX wsX0_stepX) := goodIn_app (goodIn_of _ (by decide +kernel)) ggX7_refusalOfPiece_X0_stepX
set_option maxRecDepth 20000 in
theorem ggX7_refusalOfPiece_X0_stepY : GoodIn wsX7_refusalOfPiece wsX0_stepY := goodIn_r _ [14, 15, 29, 30, 31] (by decide +kernel) (by decide +kernel)
set_option maxRecDepth 20000 in
theorem gX7_refusalOfPiece_X0_stepY : GoodIn wsX7_refusalOfPiece (wsV RX7 305 RX0 yX0_stepY wsX0_stepY) := goodIn_app (goodIn_of _ (by decide +kernel)) ggX7_refusalOfPiece_X0_stepY
theorem dX7_refusalOfPiece_0 : decode cX7_refusalOfPiece 0 = .ok (.iload_n 1, 1) := by decide +kernel
theorem dX7_refusalOfPiece_1 : decode cX7_refusalOfPiece 1 = .ok (.ifCond .lt 14, 3) := by decide +kernel
theorem dX7_refusalOfPiece_4 : decode cX7_refusalOfPiece 4 = .ok (.iload_n 1, 1) := by decide +kernel
theorem dX7_refusalOfPiece_5 : decode cX7_refusalOfPiece 5 = .ok (.aload_n 0, 1) := by decide +kernel
theorem dX7_refusalOfPiece_6 : decode cX7_refusalOfPiece 6 = .ok (.getfield 22, 3) := by decide +kernel
theorem dX7_refusalOfPiece_9 : decode cX7_refusalOfPiece 9 = .ok (.getfield 160, 3) := by decide +kernel
theorem dX7_refusalOfPiece_12 : decode cX7_refusalOfPiece 12 = .ok (.if_icmp .lt 6, 3) := by decide +kernel
theorem dX7_refusalOfPiece_15 : decode cX7_refusalOfPiece 15 = .ok (.ldc 83, 2) := by decide +kernel
theorem dX7_refusalOfPiece_17 : decode cX7_refusalOfPiece 17 = .ok (.ireturn, 1) := by decide +kernel
theorem dX7_refusalOfPiece_18 : decode cX7_refusalOfPiece 18 = .ok (.aload_n 0, 1) := by decide +kernel
theorem dX7_refusalOfPiece_19 : decode cX7_refusalOfPiece 19 = .ok (.getfield 22, 3) := by decide +kernel
theorem dX7_refusalOfPiece_22 : decode cX7_refusalOfPiece 22 = .ok (.iload_n 1, 1) := by decide +kernel
theorem dX7_refusalOfPiece_23 : decode cX7_refusalOfPiece 23 = .ok (.invokevirtual 302, 3) := by decide +kernel
theorem dX7_refusalOfPiece_26 : decode cX7_refusalOfPiece 26 = .ok (.ifCond .ne 19, 3) := by decide +kernel
theorem dX7_refusalOfPiece_29 : decode cX7_refusalOfPiece 29 = .ok (.aload_n 0, 1) := by decide +kernel
theorem dX7_refusalOfPiece_30 : decode cX7_refusalOfPiece 30 = .ok (.getfield 22, 3) := by decide +kernel
theorem dX7_refusalOfPiece_33 : decode cX7_refusalOfPiece 33 = .ok (.iload_n 1, 1) := by decide +kernel
theorem dX7_refusalOfPiece_34 : decode cX7_refusalOfPiece 34 = .ok (.invokevirtual 305, 3) := by decide +kernel
theorem dX7_refusalOfPiece_37 : decode cX7_refusalOfPiece 37 = .ok (.ifCond .ne 8, 3) := by decide +kernel
theorem dX7_refusalOfPiece_40 : decode cX7_refusalOfPiece 40 = .ok (.ldc 159, 2) := by decide +kernel
theorem dX7_refusalOfPiece_42 : decode cX7_refusalOfPiece 42 = .ok (.goto 4, 3) := by decide +kernel
theorem dX7_refusalOfPiece_45 : decode cX7_refusalOfPiece 45 = .ok (.iconst 0, 1) := by decide +kernel
theorem dX7_refusalOfPiece_46 : decode cX7_refusalOfPiece 46 = .ok (.ireturn, 1) := by decide +kernel
set_option maxRecDepth 20000 in
theorem ggX7_followSpeeds_X4_follow : GoodIn wsX7_followSpeeds wsX4_follow := goodIn_r _ [11, 12, 13, 14, 15, 16, 17, 18, 19, 20, 21, 22, 23, 24, 25, 26, 27, 28, 29, 30, 31, 32, 33, 34, 35, 36, 37, 38, 39, 40, 41, 42, 43, 44, 45, 46, 62, 63, 64, 65, 66, 67, 68] (by decide +kernel) (by decide +kernel)
set_option maxRecDepth 20000 in
theorem gX7_followSpeeds_X4_follow : GoodIn wsX7_followSpeeds (wsV RX7 308 RX4 yX4_follow wsX4_follow) := goodIn_app (goodIn_of _ (by decide +kernel)) ggX7_followSpeeds_X4_follow
theorem dX7_followSpeeds_0 : decode cX7_followSpeeds 0 = .ok (.aload_n 0, 1) := by decide +kernel
theorem dX7_followSpeeds_1 : decode cX7_followSpeeds 1 = .ok (.getfield 51, 3) := by decide +kernel
theorem dX7_followSpeeds_4 : decode cX7_followSpeeds 4 = .ok (.aload_n 0, 1) := by decide +kernel
theorem dX7_followSpeeds_5 : decode cX7_followSpeeds 5 = .ok (.getfield 10, 3) := by decide +kernel
theorem dX7_followSpeeds_8 : decode cX7_followSpeeds 8 = .ok (.getfield 117, 3) := by decide +kernel
theorem dX7_followSpeeds_11 : decode cX7_followSpeeds 11 = .ok (.aload_n 0, 1) := by decide +kernel
theorem dX7_followSpeeds_12 : decode cX7_followSpeeds 12 = .ok (.getfield 22, 3) := by decide +kernel
theorem dX7_followSpeeds_15 : decode cX7_followSpeeds 15 = .ok (.iload_n 1, 1) := by decide +kernel
theorem dX7_followSpeeds_16 : decode cX7_followSpeeds 16 = .ok (.invokevirtual 308, 3) := by decide +kernel
theorem dX7_followSpeeds_19 : decode cX7_followSpeeds 19 = .ok (.aload_n 0, 1) := by decide +kernel
theorem dX7_followSpeeds_20 : decode cX7_followSpeeds 20 = .ok (.getfield 55, 3) := by decide +kernel
theorem dX7_followSpeeds_23 : decode cX7_followSpeeds 23 = .ok (.aload_n 0, 1) := by decide +kernel
theorem dX7_followSpeeds_24 : decode cX7_followSpeeds 24 = .ok (.getfield 10, 3) := by decide +kernel
theorem dX7_followSpeeds_27 : decode cX7_followSpeeds 27 = .ok (.getfield 125, 3) := by decide +kernel
theorem dX7_followSpeeds_30 : decode cX7_followSpeeds 30 = .ok (.aload_n 0, 1) := by decide +kernel
theorem dX7_followSpeeds_31 : decode cX7_followSpeeds 31 = .ok (.getfield 22, 3) := by decide +kernel
theorem dX7_followSpeeds_34 : decode cX7_followSpeeds 34 = .ok (.iload_n 1, 1) := by decide +kernel
theorem dX7_followSpeeds_35 : decode cX7_followSpeeds 35 = .ok (.invokevirtual 308, 3) := by decide +kernel
theorem dX7_followSpeeds_38 : decode cX7_followSpeeds 38 = .ok (.return_, 1) := by decide +kernel
set_option maxRecDepth 20000 in
theorem ggX7_followAcross_X7_followSpeeds : GoodIn wsX7_followAcross wsX7_followSpeeds := goodIn_r _ [9, 4, 10, 11, 2, 3, 12, 13, 14, 15, 16, 17, 18, 19, 20, 21, 22, 23, 24, 25, 26, 27, 28, 29, 30, 31, 32, 33, 34, 35, 36, 37, 38, 39, 40, 41, 42, 43, 44, 45, 46, 47, 48, 49, 50, 51, 52, 59, 60, 61, 62, 63, 64, 65, 66, 67, 68, 69, 70, 71, 72, 73, 74, 75, 76, 77, 78, 79, 80] (by decide +kernel) (by decide +kernel)
set_option maxRecDepth 20000 in
theorem gX7_followAcross_X7_followSpeeds : GoodIn wsX7_followAcross (wsV RX7 199 RX7 yX7_followSpeeds wsX7_followSpeeds) := goodIn_app (goodIn_of _ (by decide +kernel)) ggX7_followAcross_X7_followSpeeds
set_option maxRecDepth 20000 in
theorem ggX7_followAcross_X0_stepX : GoodIn wsX7_followAcross wsX0_stepX := goodIn_r _ [27, 28, 74, 75, 76] (by decide +kernel) (by decide +kernel)
set_option maxRecDepth 20000 in
theorem gX7_followAcross_X0_stepX : GoodIn wsX7_followAcross (wsV RX7 302 RX0 yX0_stepX wsX0_stepX) := goodIn_app (goodIn_of _ (by decide +kernel)) ggX7_followAcross_X0_stepX
set_option maxRecDepth 20000 in
theorem ggX7_followAcross_X0_stepY : GoodIn wsX7_followAcross wsX0_stepY := goodIn_r _ [32, 33, 74, 75, 76] (by decide +kernel) (by decide +kernel)
set_option maxRecDepth 20000 in
theorem gX7_followAcross_X0_stepY : GoodIn wsX7_followAcross (wsV RX7 305 RX0 yX0_stepY wsX0_stepY) := goodIn_app (goodIn_of _ (by decide +kernel)) ggX7_followAcross_X0_stepY
set_option maxRecDepth 20000 in
theorem ggX7_followAcross_X4_combine : GoodIn wsX7_followAcross wsX4_combine := goodIn_r _ [58, 20, 21, 22, 77, 78, 79] (by decide +kernel) (by decide +kernel)
set_option maxRecDepth 20000 in
theorem gX7_followAcross_X4_combine : GoodIn wsX7_followAcross (wsV RX7 312 RX4 yX4_combine wsX4_combine) := goodIn_app (goodIn_of _ (by decide +kernel)) ggX7_followAcross_X4_combine
theorem dX7_followAcross_0 : decode cX7_followAcross 0 = .ok (.aload_n 0, 1) := by decide +kernel
theorem dX7_followAcross_1 : decode cX7_followAcross 1 = .ok (.iload_n 1, 1) := by decide +kernel
theorem dX7_followAcross_2 : decode cX7_followAcross 2 = .ok (.invokevirtual 199, 3) := by decide +kernel
theorem dX7_followAcross_5 : decode cX7_followAcross 5 = .ok (.aload_n 0, 1) := by decide +kernel
theorem dX7_followAcross_6 : decode cX7_followAcross 6 = .ok (.getfield 58, 3) := by decide +kernel
theorem dX7_followAcross_9 : decode cX7_followAcross 9 = .ok (.aload_n 0, 1) := by decide +kernel
theorem dX7_followAcross_10 : decode cX7_followAcross 10 = .ok (.getfield 22, 3) := by decide +kernel
theorem dX7_followAcross_13 : decode cX7_followAcross 13 = .ok (.iload_n 1, 1) := by decide +kernel
theorem dX7_followAcross_14 : decode cX7_followAcross 14 = .ok (.invokevirtual 302, 3) := by decide +kernel
theorem dX7_followAcross_17 : decode cX7_followAcross 17 = .ok (.i2l, 1) := by decide +kernel
theorem dX7_followAcross_18 : decode cX7_followAcross 18 = .ok (.aload_n 0, 1) := by decide +kernel
theorem dX7_followAcross_19 : decode cX7_followAcross 19 = .ok (.getfield 55, 3) := by decide +kernel
theorem dX7_followAcross_22 : decode cX7_followAcross 22 = .ok (.aload_n 0, 1) := by decide +kernel
theorem dX7_followAcross_23 : decode cX7_followAcross 23 = .ok (.getfield 22, 3) := by decide +kernel
theorem dX7_followAcross_26 : decode cX7_followAcross 26 = .ok (.iload_n 1, 1) := by decide +kernel
theorem dX7_followAcross_27 : decode cX7_followAcross 27 = .ok (.invokevirtual 305, 3) := by decide +kernel
theorem dX7_followAcross_30 : decode cX7_followAcross 30 = .ok (.ineg, 1) := by decide +kernel
theorem dX7_followAcross_31 : decode cX7_followAcross 31 = .ok (.i2l, 1) := by decide +kernel
theorem dX7_followAcross_32 : decode cX7_followAcross 32 = .ok (.aload_n 0, 1) := by decide +kernel
theorem dX7_followAcross_33 : decode cX7_followAcross 33 = .ok (.getfield 51, 3) := by decide +kernel
theorem dX7_followAcross_36 : decode cX7_followAcross 36 = .ok (.invokevirtual 312, 3) := by decide +kernel
theorem dX7_followAcross_39 : decode cX7_followAcross 39 = .ok (.return_, 1) := by decide +kernel
set_option maxRecDepth 20000 in
theorem ggX7_signAcross_X7_followAcross : GoodIn wsX7_signAcross wsX7_followAcross := goodIn_r _ [7, 1, 8, 9, 10, 11, 12, 13, 6, 14, 15, 16, 17, 18, 19, 20, 21, 22, 23, 24, 25, 26, 27, 28, 29, 30, 31, 32, 33, 34, 35, 36, 37, 38, 39, 40, 41, 42, 43, 44, 45, 46, 47, 48, 49, 50, 51, 52, 53, 54, 55, 56, 57, 58, 59, 60, 61, 62, 63, 108, 109, 110, 111, 112, 113, 114, 115, 116, 117, 118, 119, 120, 124, 125, 126, 127, 128, 121, 122, 123, 129] (by decide +kernel) (by decide +kernel)
set_option maxRecDepth 20000 in
theorem gX7_signAcross_X7_followAcross : GoodIn wsX7_signAcross (wsV RX7 192 RX7 yX7_followAcross wsX7_followAcross) := goodIn_app (goodIn_of _ (by decide +kernel)) ggX7_signAcross_X7_followAcross
set_option maxRecDepth 20000 in
theorem ggX7_signAcross_X4_zerosOnPiece : GoodIn wsX7_signAcross wsX4_zerosOnPiece := goodIn_r _ [67, 68, 69, 70, 21, 71, 25, 26, 27, 72, 73, 74, 75, 76, 77, 78, 79, 80, 81, 82, 83, 84, 85, 86, 87, 88, 89, 90, 91, 92, 93, 94, 95, 96, 97, 98, 99, 100, 101, 102, 103, 104, 105, 106, 121, 122, 123] (by decide +kernel) (by decide +kernel)
set_option maxRecDepth 20000 in
theorem gX7_signAcross_X4_zerosOnPiece : GoodIn wsX7_signAcross (wsV RX7 196 RX4 yX4_zerosOnPiece wsX4_zerosOnPiece) := goodIn_app (goodIn_of _ (by decide +kernel)) ggX7_signAcross_X4_zerosOnPiece
set_option maxRecDepth 20000 in
theorem ggX7_signAcross_J13_signum_95d88 : GoodIn wsX7_signAcross wsJ13_signum_95d88 := goodIn_r _ [97] (by decide +kernel) (by decide +kernel)
set_option maxRecDepth 20000 in
theorem gX7_signAcross_J13_signum_95d88 : GoodIn wsX7_signAcross (va_wsS RX7 320 yJ13_signum_95d88 wsJ13_signum_95d88) := goodIn_app (goodIn_of _ (by decide +kernel)) ggX7_signAcross_J13_signum_95d88
theorem dX7_signAcross_0 : decode cX7_signAcross 0 = .ok (.aload_n 0, 1) := by decide +kernel
theorem dX7_signAcross_1 : decode cX7_signAcross 1 = .ok (.iload_n 1, 1) := by decide +kernel
theorem dX7_signAcross_2 : decode cX7_signAcross 2 = .ok (.invokevirtual 192, 3) := by decide +kernel
theorem dX7_signAcross_5 : decode cX7_signAcross 5 = .ok (.aload_n 0, 1) := by decide +kernel
theorem dX7_signAcross_6 : decode cX7_signAcross 6 = .ok (.getfield 58, 3) := by decide +kernel
theorem dX7_signAcross_9 : decode cX7_signAcross 9 = .ok (.invokevirtual 196, 3) := by decide +kernel
theorem dX7_signAcross_12 : decode cX7_signAcross 12 = .ok (.ifCond .le 7, 3) := by decide +kernel
theorem dX7_signAcross_15 : decode cX7_signAcross 15 = .ok (.iconst 0, 1) := by decide +kernel
theorem dX7_signAcross_16 : decode cX7_signAcross 16 = .ok (.goto 13, 3) := by decide +kernel
theorem dX7_signAcross_19 : decode cX7_signAcross 19 = .ok (.aload_n 0, 1) := by decide +kernel
theorem dX7_signAcross_20 : decode cX7_signAcross 20 = .ok (.getfield 58, 3) := by decide +kernel
theorem dX7_signAcross_23 : decode cX7_signAcross 23 = .ok (.getfield 316, 3) := by decide +kernel
theorem dX7_signAcross_26 : decode cX7_signAcross 26 = .ok (.invokestatic 320, 3) := by decide +kernel
theorem dX7_signAcross_29 : decode cX7_signAcross 29 = .ok (.ireturn, 1) := by decide +kernel
theorem dX7_clearChange_0 : decode cX7_clearChange 0 = .ok (.iconst 0, 1) := by decide +kernel
theorem dX7_clearChange_1 : decode cX7_clearChange 1 = .ok (.istore_n 1, 1) := by decide +kernel
theorem dX7_clearChange_2 : decode cX7_clearChange 2 = .ok (.iload_n 1, 1) := by decide +kernel
theorem dX7_clearChange_3 : decode cX7_clearChange 3 = .ok (.bipush 10, 2) := by decide +kernel
theorem dX7_clearChange_5 : decode cX7_clearChange 5 = .ok (.if_icmp .ge 16, 3) := by decide +kernel
theorem dX7_clearChange_8 : decode cX7_clearChange 8 = .ok (.aload_n 0, 1) := by decide +kernel
theorem dX7_clearChange_9 : decode cX7_clearChange 9 = .ok (.getfield 61, 3) := by decide +kernel
theorem dX7_clearChange_12 : decode cX7_clearChange 12 = .ok (.iload_n 1, 1) := by decide +kernel
theorem dX7_clearChange_13 : decode cX7_clearChange 13 = .ok (.iconst 0, 1) := by decide +kernel
theorem dX7_clearChange_14 : decode cX7_clearChange 14 = .ok (.iastore, 1) := by decide +kernel
theorem dX7_clearChange_15 : decode cX7_clearChange 15 = .ok (.iinc 1 1, 3) := by decide +kernel
theorem dX7_clearChange_18 : decode cX7_clearChange 18 = .ok (.goto (-16), 3) := by decide +kernel
theorem dX7_clearChange_21 : decode cX7_clearChange 21 = .ok (.return_, 1) := by decide +kernel
theorem dX7_addChange_0 : decode cX7_addChange 0 = .ok (.iconst 0, 1) := by decide +kernel
theorem dX7_addChange_1 : decode cX7_addChange 1 = .ok (.istore 5, 2) := by decide +kernel
theorem dX7_addChange_3 : decode cX7_addChange 3 = .ok (.iload 5, 2) := by decide +kernel
theorem dX7_addChange_5 : decode cX7_addChange 5 = .ok (.bipush 6, 2) := by decide +kernel
theorem dX7_addChange_7 : decode cX7_addChange 7 = .ok (.if_icmp .ge 69, 3) := by decide +kernel
theorem dX7_addChange_10 : decode cX7_addChange 10 = .ok (.aload_n 1, 1) := by decide +kernel
theorem dX7_addChange_11 : decode cX7_addChange 11 = .ok (.getfield 96, 3) := by decide +kernel
theorem dX7_addChange_14 : decode cX7_addChange 14 = .ok (.iload 5, 2) := by decide +kernel
theorem dX7_addChange_16 : decode cX7_addChange 16 = .ok (.iaload, 1) := by decide +kernel
theorem dX7_addChange_17 : decode cX7_addChange 17 = .ok (.istore 6, 2) := by decide +kernel
theorem dX7_addChange_19 : decode cX7_addChange 19 = .ok (.aload_n 0, 1) := by decide +kernel
theorem dX7_addChange_20 : decode cX7_addChange 20 = .ok (.getfield 61, 3) := by decide +kernel
theorem dX7_addChange_23 : decode cX7_addChange 23 = .ok (.iload 5, 2) := by decide +kernel
theorem dX7_addChange_25 : decode cX7_addChange 25 = .ok (.dup2, 1) := by decide +kernel
theorem dX7_addChange_26 : decode cX7_addChange 26 = .ok (.iaload, 1) := by decide +kernel
theorem dX7_addChange_27 : decode cX7_addChange 27 = .ok (.iload_n 2, 1) := by decide +kernel
theorem dX7_addChange_28 : decode cX7_addChange 28 = .ok (.iload 6, 2) := by decide +kernel
theorem dX7_addChange_30 : decode cX7_addChange 30 = .ok (.imul, 1) := by decide +kernel
theorem dX7_addChange_31 : decode cX7_addChange 31 = .ok (.iadd, 1) := by decide +kernel
theorem dX7_addChange_32 : decode cX7_addChange 32 = .ok (.iastore, 1) := by decide +kernel
theorem dX7_addChange_33 : decode cX7_addChange 33 = .ok (.aload_n 0, 1) := by decide +kernel
theorem dX7_addChange_34 : decode cX7_addChange 34 = .ok (.getfield 61, 3) := by decide +kernel
theorem dX7_addChange_37 : decode cX7_addChange 37 = .ok (.getstatic 326, 3) := by decide +kernel
theorem dX7_addChange_40 : decode cX7_addChange 40 = .ok (.iload 5, 2) := by decide +kernel
theorem dX7_addChange_42 : decode cX7_addChange 42 = .ok (.iaload, 1) := by decide +kernel
theorem dX7_addChange_43 : decode cX7_addChange 43 = .ok (.dup2, 1) := by decide +kernel
theorem dX7_addChange_44 : decode cX7_addChange 44 = .ok (.iaload, 1) := by decide +kernel
theorem dX7_addChange_45 : decode cX7_addChange 45 = .ok (.iload_n 3, 1) := by decide +kernel
theorem dX7_addChange_46 : decode cX7_addChange 46 = .ok (.iload 6, 2) := by decide +kernel
theorem dX7_addChange_48 : decode cX7_addChange 48 = .ok (.imul, 1) := by decide +kernel
theorem dX7_addChange_49 : decode cX7_addChange 49 = .ok (.iadd, 1) := by decide +kernel
theorem dX7_addChange_50 : decode cX7_addChange 50 = .ok (.iastore, 1) := by decide +kernel
theorem dX7_addChange_51 : decode cX7_addChange 51 = .ok (.aload_n 0, 1) := by decide +kernel
theorem dX7_addChange_52 : decode cX7_addChange 52 = .ok (.getfield 61, 3) := by decide +kernel
theorem dX7_addChange_55 : decode cX7_addChange 55 = .ok (.getstatic 329, 3) := by decide +kernel
theorem dX7_addChange_58 : decode cX7_addChange 58 = .ok (.iload 5, 2) := by decide +kernel
theorem dX7_addChange_60 : decode cX7_addChange 60 = .ok (.iaload, 1) := by decide +kernel
theorem dX7_addChange_61 : decode cX7_addChange 61 = .ok (.dup2, 1) := by decide +kernel
theorem dX7_addChange_62 : decode cX7_addChange 62 = .ok (.iaload, 1) := by decide +kernel
theorem dX7_addChange_63 : decode cX7_addChange 63 = .ok (.iload 4, 2) := by decide +kernel
theorem dX7_addChange_65 : decode cX7_addChange 65 = .ok (.iload 6, 2) := by decide +kernel
theorem dX7_addChange_67 : decode cX7_addChange 67 = .ok (.imul, 1) := by decide +kernel
theorem dX7_addChange_68 : decode cX7_addChange 68 = .ok (.iadd, 1) := by decide +kernel
theorem dX7_addChange_69 : decode cX7_addChange 69 = .ok (.iastore, 1) := by decide +kernel
theorem dX7_addChange_70 : decode cX7_addChange 70 = .ok (.iinc 5 1, 3) := by decide +kernel
theorem dX7_addChange_73 : decode cX7_addChange 73 = .ok (.goto (-70), 3) := by decide +kernel
theorem dX7_addChange_76 : decode cX7_addChange 76 = .ok (.return_, 1) := by decide +kernel
theorem dX7_countFilledSlots_0 : decode cX7_countFilledSlots 0 = .ok (.iconst 0, 1) := by decide +kernel
theorem dX7_countFilledSlots_1 : decode cX7_countFilledSlots 1 = .ok (.istore_n 1, 1) := by decide +kernel
theorem dX7_countFilledSlots_2 : decode cX7_countFilledSlots 2 = .ok (.iconst 0, 1) := by decide +kernel
theorem dX7_countFilledSlots_3 : decode cX7_countFilledSlots 3 = .ok (.istore_n 2, 1) := by decide +kernel
theorem dX7_countFilledSlots_4 : decode cX7_countFilledSlots 4 = .ok (.iload_n 2, 1) := by decide +kernel
theorem dX7_countFilledSlots_5 : decode cX7_countFilledSlots 5 = .ok (.iconst 4, 1) := by decide +kernel
theorem dX7_countFilledSlots_6 : decode cX7_countFilledSlots 6 = .ok (.if_icmp .ge 22, 3) := by decide +kernel
theorem dX7_countFilledSlots_9 : decode cX7_countFilledSlots 9 = .ok (.aload_n 0, 1) := by decide +kernel
theorem dX7_countFilledSlots_10 : decode cX7_countFilledSlots 10 = .ok (.getfield 37, 3) := by decide +kernel
theorem dX7_countFilledSlots_13 : decode cX7_countFilledSlots 13 = .ok (.iload_n 2, 1) := by decide +kernel
theorem dX7_countFilledSlots_14 : decode cX7_countFilledSlots 14 = .ok (.iaload, 1) := by decide +kernel
theorem dX7_countFilledSlots_15 : decode cX7_countFilledSlots 15 = .ok (.iconst (-1), 1) := by decide +kernel
theorem dX7_countFilledSlots_16 : decode cX7_countFilledSlots 16 = .ok (.if_icmp .eq 6, 3) := by decide +kernel
theorem dX7_countFilledSlots_19 : decode cX7_countFilledSlots 19 = .ok (.iinc 1 1, 3) := by decide +kernel
theorem dX7_countFilledSlots_22 : decode cX7_countFilledSlots 22 = .ok (.iinc 2 1, 3) := by decide +kernel
theorem dX7_countFilledSlots_25 : decode cX7_countFilledSlots 25 = .ok (.goto (-21), 3) := by decide +kernel
theorem dX7_countFilledSlots_28 : decode cX7_countFilledSlots 28 = .ok (.iload_n 1, 1) := by decide +kernel
theorem dX7_countFilledSlots_29 : decode cX7_countFilledSlots 29 = .ok (.ireturn, 1) := by decide +kernel
theorem dX7_linesOfCubic_0 : decode cX7_linesOfCubic 0 = .ok (.iload_n 0, 1) := by decide +kernel
theorem dX7_linesOfCubic_1 : decode cX7_linesOfCubic 1 = .ok (.ifCond .ne 17, 3) := by decide +kernel
theorem dX7_linesOfCubic_4 : decode cX7_linesOfCubic 4 = .ok (.iload_n 1, 1) := by decide +kernel
theorem dX7_linesOfCubic_5 : decode cX7_linesOfCubic 5 = .ok (.ifCond .ne 13, 3) := by decide +kernel
theorem dX7_linesOfCubic_8 : decode cX7_linesOfCubic 8 = .ok (.iload_n 2, 1) := by decide +kernel
theorem dX7_linesOfCubic_9 : decode cX7_linesOfCubic 9 = .ok (.ifCond .ne 9, 3) := by decide +kernel
theorem dX7_linesOfCubic_12 : decode cX7_linesOfCubic 12 = .ok (.iload_n 3, 1) := by decide +kernel
theorem dX7_linesOfCubic_13 : decode cX7_linesOfCubic 13 = .ok (.ifCond .ne 5, 3) := by decide +kernel
theorem dX7_linesOfCubic_16 : decode cX7_linesOfCubic 16 = .ok (.iconst 4, 1) := by decide +kernel
theorem dX7_linesOfCubic_17 : decode cX7_linesOfCubic 17 = .ok (.ireturn, 1) := by decide +kernel
theorem dX7_linesOfCubic_18 : decode cX7_linesOfCubic 18 = .ok (.iload_n 1, 1) := by decide +kernel
theorem dX7_linesOfCubic_19 : decode cX7_linesOfCubic 19 = .ok (.iload_n 1, 1) := by decide +kernel
theorem dX7_linesOfCubic_20 : decode cX7_linesOfCubic 20 = .ok (.imul, 1) := by decide +kernel
theorem dX7_linesOfCubic_21 : decode cX7_linesOfCubic 21 = .ok (.iload_n 2, 1) := by decide +kernel
theorem dX7_linesOfCubic_22 : decode cX7_linesOfCubic 22 = .ok (.imul, 1) := by decide +kernel
theorem dX7_linesOfCubic_23 : decode cX7_linesOfCubic 23 = .ok (.iload_n 2, 1) := by decide +kernel
theorem dX7_linesOfCubic_24 : decode cX7_linesOfCubic 24 = .ok (.imul, 1) := by decide +kernel
theorem dX7_linesOfCubic_25 : decode cX7_linesOfCubic 25 = .ok (.iconst 4, 1) := by decide +kernel
theorem dX7_linesOfCubic_26 : decode cX7_linesOfCubic 26 = .ok (.iload_n 0, 1) := by decide +kernel
theorem dX7_linesOfCubic_27 : decode cX7_linesOfCubic 27 = .ok (.imul, 1) := by decide +kernel
theorem dX7_linesOfCubic_28 : decode cX7_linesOfCubic 28 = .ok (.iload_n 2, 1) := by decide +kernel
theorem dX7_linesOfCubic_29 : decode cX7_linesOfCubic 29 = .ok (.imul, 1) := by decide +kernel
theorem dX7_linesOfCubic_30 : decode cX7_linesOfCubic 30 = .ok (.iload_n 2, 1) := by decide +kernel
theorem dX7_linesOfCubic_31 : decode cX7_linesOfCubic 31 = .ok (.imul, 1) := by decide +kernel
theorem dX7_linesOfCubic_32 : decode cX7_linesOfCubic 32 = .ok (.iload_n 2, 1) := by decide +kernel
theorem dX7_linesOfCubic_33 : decode cX7_linesOfCubic 33 = .ok (.imul, 1) := by decide +kernel
theorem dX7_linesOfCubic_34 : decode cX7_linesOfCubic 34 = .ok (.isub, 1) := by decide +kernel
theorem dX7_linesOfCubic_35 : decode cX7_linesOfCubic 35 = .ok (.iconst 4, 1) := by decide +kernel
theorem dX7_linesOfCubic_36 : decode cX7_linesOfCubic 36 = .ok (.iload_n 1, 1) := by decide +kernel
theorem dX7_linesOfCubic_37 : decode cX7_linesOfCubic 37 = .ok (.imul, 1) := by decide +kernel
theorem dX7_linesOfCubic_38 : decode cX7_linesOfCubic 38 = .ok (.iload_n 1, 1) := by decide +kernel
theorem dX7_linesOfCubic_39 : decode cX7_linesOfCubic 39 = .ok (.imul, 1) := by decide +kernel
theorem dX7_linesOfCubic_40 : decode cX7_linesOfCubic 40 = .ok (.iload_n 1, 1) := by decide +kernel
theorem dX7_linesOfCubic_41 : decode cX7_linesOfCubic 41 = .ok (.imul, 1) := by decide +kernel
theorem dX7_linesOfCubic_42 : decode cX7_linesOfCubic 42 = .ok (.iload_n 3, 1) := by decide +kernel
theorem dX7_linesOfCubic_43 : decode cX7_linesOfCubic 43 = .ok (.imul, 1) := by decide +kernel
theorem dX7_linesOfCubic_44 : decode cX7_linesOfCubic 44 = .ok (.isub, 1) := by decide +kernel
theorem dX7_linesOfCubic_45 : decode cX7_linesOfCubic 45 = .ok (.bipush 27, 2) := by decide +kernel
theorem dX7_linesOfCubic_47 : decode cX7_linesOfCubic 47 = .ok (.iload_n 0, 1) := by decide +kernel
theorem dX7_linesOfCubic_48 : decode cX7_linesOfCubic 48 = .ok (.imul, 1) := by decide +kernel
theorem dX7_linesOfCubic_49 : decode cX7_linesOfCubic 49 = .ok (.iload_n 0, 1) := by decide +kernel
theorem dX7_linesOfCubic_50 : decode cX7_linesOfCubic 50 = .ok (.imul, 1) := by decide +kernel
theorem dX7_linesOfCubic_51 : decode cX7_linesOfCubic 51 = .ok (.iload_n 3, 1) := by decide +kernel
theorem dX7_linesOfCubic_52 : decode cX7_linesOfCubic 52 = .ok (.imul, 1) := by decide +kernel
theorem dX7_linesOfCubic_53 : decode cX7_linesOfCubic 53 = .ok (.iload_n 3, 1) := by decide +kernel
theorem dX7_linesOfCubic_54 : decode cX7_linesOfCubic 54 = .ok (.imul, 1) := by decide +kernel
theorem dX7_linesOfCubic_55 : decode cX7_linesOfCubic 55 = .ok (.isub, 1) := by decide +kernel
theorem dX7_linesOfCubic_56 : decode cX7_linesOfCubic 56 = .ok (.bipush 18, 2) := by decide +kernel
theorem dX7_linesOfCubic_58 : decode cX7_linesOfCubic 58 = .ok (.iload_n 0, 1) := by decide +kernel
theorem dX7_linesOfCubic_59 : decode cX7_linesOfCubic 59 = .ok (.imul, 1) := by decide +kernel
theorem dX7_linesOfCubic_60 : decode cX7_linesOfCubic 60 = .ok (.iload_n 1, 1) := by decide +kernel
theorem dX7_linesOfCubic_61 : decode cX7_linesOfCubic 61 = .ok (.imul, 1) := by decide +kernel
theorem dX7_linesOfCubic_62 : decode cX7_linesOfCubic 62 = .ok (.iload_n 2, 1) := by decide +kernel
theorem dX7_linesOfCubic_63 : decode cX7_linesOfCubic 63 = .ok (.imul, 1) := by decide +kernel
theorem dX7_linesOfCubic_64 : decode cX7_linesOfCubic 64 = .ok (.iload_n 3, 1) := by decide +kernel
theorem dX7_linesOfCubic_65 : decode cX7_linesOfCubic 65 = .ok (.imul, 1) := by decide +kernel
theorem dX7_linesOfCubic_66 : decode cX7_linesOfCubic 66 = .ok (.iadd, 1) := by decide +kernel
theorem dX7_linesOfCubic_67 : decode cX7_linesOfCubic 67 = .ok (.istore 4, 2) := by decide +kernel
theorem dX7_linesOfCubic_69 : decode cX7_linesOfCubic 69 = .ok (.iload 4, 2) := by decide +kernel
theorem dX7_linesOfCubic_71 : decode cX7_linesOfCubic 71 = .ok (.ifCond .eq 14, 3) := by decide +kernel
theorem dX7_linesOfCubic_74 : decode cX7_linesOfCubic 74 = .ok (.iload 4, 2) := by decide +kernel
theorem dX7_linesOfCubic_76 : decode cX7_linesOfCubic 76 = .ok (.ifCond .le 7, 3) := by decide +kernel
theorem dX7_linesOfCubic_79 : decode cX7_linesOfCubic 79 = .ok (.iconst 3, 1) := by decide +kernel
theorem dX7_linesOfCubic_80 : decode cX7_linesOfCubic 80 = .ok (.goto 4, 3) := by decide +kernel
theorem dX7_linesOfCubic_83 : decode cX7_linesOfCubic 83 = .ok (.iconst 1, 1) := by decide +kernel
theorem dX7_linesOfCubic_84 : decode cX7_linesOfCubic 84 = .ok (.ireturn, 1) := by decide +kernel
theorem dX7_linesOfCubic_85 : decode cX7_linesOfCubic 85 = .ok (.iload_n 1, 1) := by decide +kernel
theorem dX7_linesOfCubic_86 : decode cX7_linesOfCubic 86 = .ok (.iload_n 1, 1) := by decide +kernel
theorem dX7_linesOfCubic_87 : decode cX7_linesOfCubic 87 = .ok (.imul, 1) := by decide +kernel
theorem dX7_linesOfCubic_88 : decode cX7_linesOfCubic 88 = .ok (.iconst 3, 1) := by decide +kernel
theorem dX7_linesOfCubic_89 : decode cX7_linesOfCubic 89 = .ok (.iload_n 0, 1) := by decide +kernel
theorem dX7_linesOfCubic_90 : decode cX7_linesOfCubic 90 = .ok (.imul, 1) := by decide +kernel
theorem dX7_linesOfCubic_91 : decode cX7_linesOfCubic 91 = .ok (.iload_n 2, 1) := by decide +kernel
theorem dX7_linesOfCubic_92 : decode cX7_linesOfCubic 92 = .ok (.imul, 1) := by decide +kernel
theorem dX7_linesOfCubic_93 : decode cX7_linesOfCubic 93 = .ok (.if_icmp .ne 30, 3) := by decide +kernel
theorem dX7_linesOfCubic_96 : decode cX7_linesOfCubic 96 = .ok (.iload_n 2, 1) := by decide +kernel
theorem dX7_linesOfCubic_97 : decode cX7_linesOfCubic 97 = .ok (.iload_n 2, 1) := by decide +kernel
theorem dX7_linesOfCubic_98 : decode cX7_linesOfCubic 98 = .ok (.imul, 1) := by decide +kernel
theorem dX7_linesOfCubic_99 : decode cX7_linesOfCubic 99 = .ok (.iconst 3, 1) := by decide +kernel
theorem dX7_linesOfCubic_100 : decode cX7_linesOfCubic 100 = .ok (.iload_n 1, 1) := by decide +kernel
theorem dX7_linesOfCubic_101 : decode cX7_linesOfCubic 101 = .ok (.imul, 1) := by decide +kernel
theorem dX7_linesOfCubic_102 : decode cX7_linesOfCubic 102 = .ok (.iload_n 3, 1) := by decide +kernel
theorem dX7_linesOfCubic_103 : decode cX7_linesOfCubic 103 = .ok (.imul, 1) := by decide +kernel
theorem dX7_linesOfCubic_104 : decode cX7_linesOfCubic 104 = .ok (.if_icmp .ne 19, 3) := by decide +kernel
theorem dX7_linesOfCubic_107 : decode cX7_linesOfCubic 107 = .ok (.iload_n 1, 1) := by decide +kernel
theorem dX7_linesOfCubic_108 : decode cX7_linesOfCubic 108 = .ok (.iload_n 2, 1) := by decide +kernel
theorem dX7_linesOfCubic_109 : decode cX7_linesOfCubic 109 = .ok (.imul, 1) := by decide +kernel
theorem dX7_linesOfCubic_110 : decode cX7_linesOfCubic 110 = .ok (.bipush 9, 2) := by decide +kernel
theorem dX7_linesOfCubic_112 : decode cX7_linesOfCubic 112 = .ok (.iload_n 0, 1) := by decide +kernel
theorem dX7_linesOfCubic_113 : decode cX7_linesOfCubic 113 = .ok (.imul, 1) := by decide +kernel
theorem dX7_linesOfCubic_114 : decode cX7_linesOfCubic 114 = .ok (.iload_n 3, 1) := by decide +kernel
theorem dX7_linesOfCubic_115 : decode cX7_linesOfCubic 115 = .ok (.imul, 1) := by decide +kernel
theorem dX7_linesOfCubic_116 : decode cX7_linesOfCubic 116 = .ok (.if_icmp .ne 7, 3) := by decide +kernel
theorem dX7_linesOfCubic_119 : decode cX7_linesOfCubic 119 = .ok (.iconst 1, 1) := by decide +kernel
theorem dX7_linesOfCubic_120 : decode cX7_linesOfCubic 120 = .ok (.goto 4, 3) := by decide +kernel
theorem dX7_linesOfCubic_123 : decode cX7_linesOfCubic 123 = .ok (.iconst 0, 1) := by decide +kernel
theorem dX7_linesOfCubic_124 : decode cX7_linesOfCubic 124 = .ok (.istore 5, 2) := by decide +kernel
theorem dX7_linesOfCubic_126 : decode cX7_linesOfCubic 126 = .ok (.iload 5, 2) := by decide +kernel
theorem dX7_linesOfCubic_128 : decode cX7_linesOfCubic 128 = .ok (.ifCond .eq 7, 3) := by decide +kernel
theorem dX7_linesOfCubic_131 : decode cX7_linesOfCubic 131 = .ok (.iconst 1, 1) := by decide +kernel
theorem dX7_linesOfCubic_132 : decode cX7_linesOfCubic 132 = .ok (.goto 4, 3) := by decide +kernel
theorem dX7_linesOfCubic_135 : decode cX7_linesOfCubic 135 = .ok (.iconst 2, 1) := by decide +kernel
theorem dX7_linesOfCubic_136 : decode cX7_linesOfCubic 136 = .ok (.ireturn, 1) := by decide +kernel
theorem dX7_isUnder_0 : decode cX7_isUnder 0 = .ok (.iload_n 0, 1) := by decide +kernel
theorem dX7_isUnder_1 : decode cX7_isUnder 1 = .ok (.istore_n 2, 1) := by decide +kernel
theorem dX7_isUnder_2 : decode cX7_isUnder 2 = .ok (.iconst 0, 1) := by decide +kernel
theorem dX7_isUnder_3 : decode cX7_isUnder 3 = .ok (.istore_n 3, 1) := by decide +kernel
theorem dX7_isUnder_4 : decode cX7_isUnder 4 = .ok (.iload_n 3, 1) := by decide +kernel
theorem dX7_isUnder_5 : decode cX7_isUnder 5 = .ok (.getstatic 332, 3) := by decide +kernel
theorem dX7_isUnder_8 : decode cX7_isUnder 8 = .ok (.arraylength, 1) := by decide +kernel
theorem dX7_isUnder_9 : decode cX7_isUnder 9 = .ok (.if_icmp .ge 34, 3) := by decide +kernel
theorem dX7_isUnder_12 : decode cX7_isUnder 12 = .ok (.iload_n 2, 1) := by decide +kernel
theorem dX7_isUnder_13 : decode cX7_isUnder 13 = .ok (.ifCond .lt 30, 3) := by decide +kernel
theorem dX7_isUnder_16 : decode cX7_isUnder 16 = .ok (.iload_n 2, 1) := by decide +kernel
theorem dX7_isUnder_17 : decode cX7_isUnder 17 = .ok (.getstatic 332, 3) := by decide +kernel
theorem dX7_isUnder_20 : decode cX7_isUnder 20 = .ok (.arraylength, 1) := by decide +kernel
theorem dX7_isUnder_21 : decode cX7_isUnder 21 = .ok (.if_icmp .ge 22, 3) := by decide +kernel
theorem dX7_isUnder_24 : decode cX7_isUnder 24 = .ok (.iload_n 2, 1) := by decide +kernel
theorem dX7_isUnder_25 : decode cX7_isUnder 25 = .ok (.iload_n 1, 1) := by decide +kernel
theorem dX7_isUnder_26 : decode cX7_isUnder 26 = .ok (.if_icmp .ne 5, 3) := by decide +kernel
theorem dX7_isUnder_29 : decode cX7_isUnder 29 = .ok (.iconst 1, 1) := by decide +kernel
theorem dX7_isUnder_30 : decode cX7_isUnder 30 = .ok (.ireturn, 1) := by decide +kernel
theorem dX7_isUnder_31 : decode cX7_isUnder 31 = .ok (.getstatic 332, 3) := by decide +kernel
theorem dX7_isUnder_34 : decode cX7_isUnder 34 = .ok (.iload_n 2, 1) := by decide +kernel
theorem dX7_isUnder_35 : decode cX7_isUnder 35 = .ok (.iaload, 1) := by decide +kernel
theorem dX7_isUnder_36 : decode cX7_isUnder 36 = .ok (.istore_n 2, 1) := by decide +kernel
theorem dX7_isUnder_37 : decode cX7_isUnder 37 = .ok (.iinc 3 1, 3) := by decide +kernel
theorem dX7_isUnder_40 : decode cX7_isUnder 40 = .ok (.goto (-36), 3) := by decide +kernel
theorem dX7_isUnder_43 : decode cX7_isUnder 43 = .ok (.iconst 0, 1) := by decide +kernel
theorem dX7_isUnder_44 : decode cX7_isUnder 44 = .ok (.ireturn, 1) := by decide +kernel

theorem dX0_init_0 : decode cX0_init 0 = .ok (.aload_n 0, 1) := by decide +kernel
theorem dX0_init_1 : decode cX0_init 1 = .ok (.invokespecial 3, 3) := by decide +kernel
theorem dX0_init_4 : decode cX0_init 4 = .ok (.aload_n 0, 1) := by decide +kernel
theorem dX0_init_5 : decode cX0_init 5 = .ok (.bipush 9, 2) := by decide +kernel
theorem dX0_init_7 : decode cX0_init 7 = .ok (.newarray .int, 2) := by decide +kernel
theorem dX0_init_9 : decode cX0_init 9 = .ok (.putfield 9, 3) := by decide +kernel
theorem dX0_init_12 : decode cX0_init 12 = .ok (.aload_n 0, 1) := by decide +kernel
theorem dX0_init_13 : decode cX0_init 13 = .ok (.bipush 9, 2) := by decide +kernel
theorem dX0_init_15 : decode cX0_init 15 = .ok (.newarray .int, 2) := by decide +kernel
theorem dX0_init_17 : decode cX0_init 17 = .ok (.putfield 15, 3) := by decide +kernel
theorem dX0_init_20 : decode cX0_init 20 = .ok (.aload_n 0, 1) := by decide +kernel
theorem dX0_init_21 : decode cX0_init 21 = .ok (.iconst 0, 1) := by decide +kernel
theorem dX0_init_22 : decode cX0_init 22 = .ok (.putfield 18, 3) := by decide +kernel
theorem dX0_init_25 : decode cX0_init 25 = .ok (.return_, 1) := by decide +kernel
theorem dX0_isLatest_0 : decode cX0_isLatest 0 = .ok (.aload_n 0, 1) := by decide +kernel
theorem dX0_isLatest_1 : decode cX0_isLatest 1 = .ok (.getfield 18, 3) := by decide +kernel
theorem dX0_isLatest_4 : decode cX0_isLatest 4 = .ok (.ifCond .le 37, 3) := by decide +kernel
theorem dX0_isLatest_7 : decode cX0_isLatest 7 = .ok (.aload_n 0, 1) := by decide +kernel
theorem dX0_isLatest_8 : decode cX0_isLatest 8 = .ok (.getfield 9, 3) := by decide +kernel
theorem dX0_isLatest_11 : decode cX0_isLatest 11 = .ok (.aload_n 0, 1) := by decide +kernel
theorem dX0_isLatest_12 : decode cX0_isLatest 12 = .ok (.getfield 18, 3) := by decide +kernel
theorem dX0_isLatest_15 : decode cX0_isLatest 15 = .ok (.iconst 1, 1) := by decide +kernel
theorem dX0_isLatest_16 : decode cX0_isLatest 16 = .ok (.isub, 1) := by decide +kernel
theorem dX0_isLatest_17 : decode cX0_isLatest 17 = .ok (.iaload, 1) := by decide +kernel
theorem dX0_isLatest_18 : decode cX0_isLatest 18 = .ok (.iload_n 1, 1) := by decide +kernel
theorem dX0_isLatest_19 : decode cX0_isLatest 19 = .ok (.if_icmp .ne 22, 3) := by decide +kernel
theorem dX0_isLatest_22 : decode cX0_isLatest 22 = .ok (.aload_n 0, 1) := by decide +kernel
theorem dX0_isLatest_23 : decode cX0_isLatest 23 = .ok (.getfield 15, 3) := by decide +kernel
theorem dX0_isLatest_26 : decode cX0_isLatest 26 = .ok (.aload_n 0, 1) := by decide +kernel
theorem dX0_isLatest_27 : decode cX0_isLatest 27 = .ok (.getfield 18, 3) := by decide +kernel
theorem dX0_isLatest_30 : decode cX0_isLatest 30 = .ok (.iconst 1, 1) := by decide +kernel
theorem dX0_isLatest_31 : decode cX0_isLatest 31 = .ok (.isub, 1) := by decide +kernel
theorem dX0_isLatest_32 : decode cX0_isLatest 32 = .ok (.iaload, 1) := by decide +kernel
theorem dX0_isLatest_33 : decode cX0_isLatest 33 = .ok (.iload_n 2, 1) := by decide +kernel
theorem dX0_isLatest_34 : decode cX0_isLatest 34 = .ok (.if_icmp .ne 7, 3) := by decide +kernel
theorem dX0_isLatest_37 : decode cX0_isLatest 37 = .ok (.iconst 1, 1) := by decide +kernel
theorem dX0_isLatest_38 : decode cX0_isLatest 38 = .ok (.goto 4, 3) := by decide +kernel
theorem dX0_isLatest_41 : decode cX0_isLatest 41 = .ok (.iconst 0, 1) := by decide +kernel
theorem dX0_isLatest_42 : decode cX0_isLatest 42 = .ok (.ireturn, 1) := by decide +kernel
theorem dX0_append_0 : decode cX0_append 0 = .ok (.aload_n 0, 1) := by decide +kernel
theorem dX0_append_1 : decode cX0_append 1 = .ok (.getfield 18, 3) := by decide +kernel
theorem dX0_append_4 : decode cX0_append 4 = .ok (.bipush 8, 2) := by decide +kernel
theorem dX0_append_6 : decode cX0_append 6 = .ok (.if_icmp .ge 63, 3) := by decide +kernel
theorem dX0_append_9 : decode cX0_append 9 = .ok (.aload_n 0, 1) := by decide +kernel
theorem dX0_append_10 : decode cX0_append 10 = .ok (.getfield 9, 3) := by decide +kernel
theorem dX0_append_13 : decode cX0_append 13 = .ok (.aload_n 0, 1) := by decide +kernel
theorem dX0_append_14 : decode cX0_append 14 = .ok (.getfield 18, 3) := by decide +kernel
theorem dX0_append_17 : decode cX0_append 17 = .ok (.iload_n 1, 1) := by decide +kernel
theorem dX0_append_18 : decode cX0_append 18 = .ok (.iastore, 1) := by decide +kernel
theorem dX0_append_19 : decode cX0_append 19 = .ok (.aload_n 0, 1) := by decide +kernel
theorem dX0_append_20 : decode cX0_append 20 = .ok (.getfield 15, 3) := by decide +kernel
theorem dX0_append_23 : decode cX0_append 23 = .ok (.aload_n 0, 1) := by decide +kernel
theorem dX0_append_24 : decode cX0_append 24 = .ok (.getfield 18, 3) := by decide +kernel
theorem dX0_append_27 : decode cX0_append 27 = .ok (.iload_n 2, 1) := by decide +kernel
theorem dX0_append_28 : decode cX0_append 28 = .ok (.iastore, 1) := by decide +kernel
theorem dX0_append_29 : decode cX0_append 29 = .ok (.aload_n 0, 1) := by decide +kernel
theorem dX0_append_30 : decode cX0_append 30 = .ok (.dup, 1) := by decide +kernel
theorem dX0_append_31 : decode cX0_append 31 = .ok (.getfield 18, 3) := by decide +kernel
theorem dX0_append_34 : decode cX0_append 34 = .ok (.iconst 1, 1) := by decide +kernel
theorem dX0_append_35 : decode cX0_append 35 = .ok (.iadd, 1) := by decide +kernel
theorem dX0_append_36 : decode cX0_append 36 = .ok (.putfield 18, 3) := by decide +kernel
theorem dX0_append_39 : decode cX0_append 39 = .ok (.aload_n 0, 1) := by decide +kernel
theorem dX0_append_40 : decode cX0_append 40 = .ok (.getfield 9, 3) := by decide +kernel
theorem dX0_append_43 : decode cX0_append 43 = .ok (.aload_n 0, 1) := by decide +kernel
theorem dX0_append_44 : decode cX0_append 44 = .ok (.getfield 18, 3) := by decide +kernel
theorem dX0_append_47 : decode cX0_append 47 = .ok (.aload_n 0, 1) := by decide +kernel
theorem dX0_append_48 : decode cX0_append 48 = .ok (.getfield 9, 3) := by decide +kernel
theorem dX0_append_51 : decode cX0_append 51 = .ok (.iconst 0, 1) := by decide +kernel
theorem dX0_append_52 : decode cX0_append 52 = .ok (.iaload, 1) := by decide +kernel
theorem dX0_append_53 : decode cX0_append 53 = .ok (.iastore, 1) := by decide +kernel
theorem dX0_append_54 : decode cX0_append 54 = .ok (.aload_n 0, 1) := by decide +kernel
theorem dX0_append_55 : decode cX0_append 55 = .ok (.getfield 15, 3) := by decide +kernel
theorem dX0_append_58 : decode cX0_append 58 = .ok (.aload_n 0, 1) := by decide +kernel
theorem dX0_append_59 : decode cX0_append 59 = .ok (.getfield 18, 3) := by decide +kernel
theorem dX0_append_62 : decode cX0_append 62 = .ok (.aload_n 0, 1) := by decide +kernel
theorem dX0_append_63 : decode cX0_append 63 = .ok (.getfield 15, 3) := by decide +kernel
theorem dX0_append_66 : decode cX0_append 66 = .ok (.iconst 0, 1) := by decide +kernel
theorem dX0_append_67 : decode cX0_append 67 = .ok (.iaload, 1) := by decide +kernel
theorem dX0_append_68 : decode cX0_append 68 = .ok (.iastore, 1) := by decide +kernel
theorem dX0_append_69 : decode cX0_append 69 = .ok (.return_, 1) := by decide +kernel
theorem dX0_stepX_0 : decode cX0_stepX 0 = .ok (.aload_n 0, 1) := by decide +kernel
theorem dX0_stepX_1 : decode cX0_stepX 1 = .ok (.getfield 9, 3) := by decide +kernel
theorem dX0_stepX_4 : decode cX0_stepX 4 = .ok (.iload_n 1, 1) := by decide +kernel
theorem dX0_stepX_5 : decode cX0_stepX 5 = .ok (.iconst 1, 1) := by decide +kernel
theorem dX0_stepX_6 : decode cX0_stepX 6 = .ok (.iadd, 1) := by decide +kernel
theorem dX0_stepX_7 : decode cX0_stepX 7 = .ok (.iaload, 1) := by decide +kernel
theorem dX0_stepX_8 : decode cX0_stepX 8 = .ok (.aload_n 0, 1) := by decide +kernel
theorem dX0_stepX_9 : decode cX0_stepX 9 = .ok (.getfield 9, 3) := by decide +kernel
theorem dX0_stepX_12 : decode cX0_stepX 12 = .ok (.iload_n 1, 1) := by decide +kernel
theorem dX0_stepX_13 : decode cX0_stepX 13 = .ok (.iaload, 1) := by decide +kernel
theorem dX0_stepX_14 : decode cX0_stepX 14 = .ok (.isub, 1) := by decide +kernel
theorem dX0_stepX_15 : decode cX0_stepX 15 = .ok (.ireturn, 1) := by decide +kernel
theorem dX0_stepY_0 : decode cX0_stepY 0 = .ok (.aload_n 0, 1) := by decide +kernel
theorem dX0_stepY_1 : decode cX0_stepY 1 = .ok (.getfield 15, 3) := by decide +kernel
theorem dX0_stepY_4 : decode cX0_stepY 4 = .ok (.iload_n 1, 1) := by decide +kernel
theorem dX0_stepY_5 : decode cX0_stepY 5 = .ok (.iconst 1, 1) := by decide +kernel
theorem dX0_stepY_6 : decode cX0_stepY 6 = .ok (.iadd, 1) := by decide +kernel
theorem dX0_stepY_7 : decode cX0_stepY 7 = .ok (.iaload, 1) := by decide +kernel
theorem dX0_stepY_8 : decode cX0_stepY 8 = .ok (.aload_n 0, 1) := by decide +kernel
theorem dX0_stepY_9 : decode cX0_stepY 9 = .ok (.getfield 15, 3) := by decide +kernel
theorem dX0_stepY_12 : decode cX0_stepY 12 = .ok (.iload_n 1, 1) := by decide +kernel
theorem dX0_stepY_13 : decode cX0_stepY 13 = .ok (.iaload, 1) := by decide +kernel
theorem dX0_stepY_14 : decode cX0_stepY 14 = .ok (.isub, 1) := by decide +kernel
theorem dX0_stepY_15 : decode cX0_stepY 15 = .ok (.ireturn, 1) := by decide +kernel
theorem dX0_leftOf_0 : decode cX0_leftOf 0 = .ok (.aload_n 0, 1) := by decide +kernel
theorem dX0_leftOf_1 : decode cX0_leftOf 1 = .ok (.getfield 9, 3) := by decide +kernel
theorem dX0_leftOf_4 : decode cX0_leftOf 4 = .ok (.iload_n 1, 1) := by decide +kernel
theorem dX0_leftOf_5 : decode cX0_leftOf 5 = .ok (.iconst 1, 1) := by decide +kernel
theorem dX0_leftOf_6 : decode cX0_leftOf 6 = .ok (.iadd, 1) := by decide +kernel
theorem dX0_leftOf_7 : decode cX0_leftOf 7 = .ok (.iaload, 1) := by decide +kernel
theorem dX0_leftOf_8 : decode cX0_leftOf 8 = .ok (.aload_n 0, 1) := by decide +kernel
theorem dX0_leftOf_9 : decode cX0_leftOf 9 = .ok (.getfield 9, 3) := by decide +kernel
theorem dX0_leftOf_12 : decode cX0_leftOf 12 = .ok (.iload_n 1, 1) := by decide +kernel
theorem dX0_leftOf_13 : decode cX0_leftOf 13 = .ok (.iaload, 1) := by decide +kernel
theorem dX0_leftOf_14 : decode cX0_leftOf 14 = .ok (.isub, 1) := by decide +kernel
theorem dX0_leftOf_15 : decode cX0_leftOf 15 = .ok (.iload_n 3, 1) := by decide +kernel
theorem dX0_leftOf_16 : decode cX0_leftOf 16 = .ok (.aload_n 0, 1) := by decide +kernel
theorem dX0_leftOf_17 : decode cX0_leftOf 17 = .ok (.getfield 15, 3) := by decide +kernel
theorem dX0_leftOf_20 : decode cX0_leftOf 20 = .ok (.iload_n 1, 1) := by decide +kernel
theorem dX0_leftOf_21 : decode cX0_leftOf 21 = .ok (.iaload, 1) := by decide +kernel
theorem dX0_leftOf_22 : decode cX0_leftOf 22 = .ok (.isub, 1) := by decide +kernel
theorem dX0_leftOf_23 : decode cX0_leftOf 23 = .ok (.imul, 1) := by decide +kernel
theorem dX0_leftOf_24 : decode cX0_leftOf 24 = .ok (.aload_n 0, 1) := by decide +kernel
theorem dX0_leftOf_25 : decode cX0_leftOf 25 = .ok (.getfield 15, 3) := by decide +kernel
theorem dX0_leftOf_28 : decode cX0_leftOf 28 = .ok (.iload_n 1, 1) := by decide +kernel
theorem dX0_leftOf_29 : decode cX0_leftOf 29 = .ok (.iconst 1, 1) := by decide +kernel
theorem dX0_leftOf_30 : decode cX0_leftOf 30 = .ok (.iadd, 1) := by decide +kernel
theorem dX0_leftOf_31 : decode cX0_leftOf 31 = .ok (.iaload, 1) := by decide +kernel
theorem dX0_leftOf_32 : decode cX0_leftOf 32 = .ok (.aload_n 0, 1) := by decide +kernel
theorem dX0_leftOf_33 : decode cX0_leftOf 33 = .ok (.getfield 15, 3) := by decide +kernel
theorem dX0_leftOf_36 : decode cX0_leftOf 36 = .ok (.iload_n 1, 1) := by decide +kernel
theorem dX0_leftOf_37 : decode cX0_leftOf 37 = .ok (.iaload, 1) := by decide +kernel
theorem dX0_leftOf_38 : decode cX0_leftOf 38 = .ok (.isub, 1) := by decide +kernel
theorem dX0_leftOf_39 : decode cX0_leftOf 39 = .ok (.iload_n 2, 1) := by decide +kernel
theorem dX0_leftOf_40 : decode cX0_leftOf 40 = .ok (.aload_n 0, 1) := by decide +kernel
theorem dX0_leftOf_41 : decode cX0_leftOf 41 = .ok (.getfield 9, 3) := by decide +kernel
theorem dX0_leftOf_44 : decode cX0_leftOf 44 = .ok (.iload_n 1, 1) := by decide +kernel
theorem dX0_leftOf_45 : decode cX0_leftOf 45 = .ok (.iaload, 1) := by decide +kernel
theorem dX0_leftOf_46 : decode cX0_leftOf 46 = .ok (.isub, 1) := by decide +kernel
theorem dX0_leftOf_47 : decode cX0_leftOf 47 = .ok (.imul, 1) := by decide +kernel
theorem dX0_leftOf_48 : decode cX0_leftOf 48 = .ok (.isub, 1) := by decide +kernel
theorem dX0_leftOf_49 : decode cX0_leftOf 49 = .ok (.ireturn, 1) := by decide +kernel
set_option maxRecDepth 20000 in
theorem ggX0_isOn_X0_leftOf : GoodIn wsX0_isOn wsX0_leftOf := goodIn_r _ [14, 1, 9, 15, 16, 17] (by decide +kernel) (by decide +kernel)
set_option maxRecDepth 20000 in
theorem gX0_isOn_X0_leftOf : GoodIn wsX0_isOn (wsV RX0 22 RX0 yX0_leftOf wsX0_leftOf) := goodIn_app (goodIn_of _ (by decide +kernel)) ggX0_isOn_X0_leftOf
theorem dX0_isOn_0 : decode cX0_isOn 0 = .ok (.aload_n 0, 1) := by decide +kernel
theorem dX0_isOn_1 : decode cX0_isOn 1 = .ok (.iload_n 1, 1) := by decide +kernel
theorem dX0_isOn_2 : decode cX0_isOn 2 = .ok (.iload_n 2, 1) := by decide +kernel
theorem dX0_isOn_3 : decode cX0_isOn 3 = .ok (.iload_n 3, 1) := by decide +kernel
theorem dX0_isOn_4 : decode cX0_isOn 4 = .ok (.invokevirtual 22, 3) := by decide +kernel
theorem dX0_isOn_7 : decode cX0_isOn 7 = .ok (.ifCond .ne 91, 3) := by decide +kernel
theorem dX0_isOn_10 : decode cX0_isOn 10 = .ok (.iload_n 2, 1) := by decide +kernel
theorem dX0_isOn_11 : decode cX0_isOn 11 = .ok (.aload_n 0, 1) := by decide +kernel
theorem dX0_isOn_12 : decode cX0_isOn 12 = .ok (.getfield 9, 3) := by decide +kernel
theorem dX0_isOn_15 : decode cX0_isOn 15 = .ok (.iload_n 1, 1) := by decide +kernel
theorem dX0_isOn_16 : decode cX0_isOn 16 = .ok (.iaload, 1) := by decide +kernel
theorem dX0_isOn_17 : decode cX0_isOn 17 = .ok (.aload_n 0, 1) := by decide +kernel
theorem dX0_isOn_18 : decode cX0_isOn 18 = .ok (.getfield 9, 3) := by decide +kernel
theorem dX0_isOn_21 : decode cX0_isOn 21 = .ok (.iload_n 1, 1) := by decide +kernel
theorem dX0_isOn_22 : decode cX0_isOn 22 = .ok (.iconst 1, 1) := by decide +kernel
theorem dX0_isOn_23 : decode cX0_isOn 23 = .ok (.iadd, 1) := by decide +kernel
theorem dX0_isOn_24 : decode cX0_isOn 24 = .ok (.iaload, 1) := by decide +kernel
theorem dX0_isOn_25 : decode cX0_isOn 25 = .ok (.invokestatic 26, 3) := by decide +kernel
theorem dX0_isOn_28 : decode cX0_isOn 28 = .ok (.if_icmp .lt 70, 3) := by decide +kernel
theorem dX0_isOn_31 : decode cX0_isOn 31 = .ok (.iload_n 2, 1) := by decide +kernel
theorem dX0_isOn_32 : decode cX0_isOn 32 = .ok (.aload_n 0, 1) := by decide +kernel
theorem dX0_isOn_33 : decode cX0_isOn 33 = .ok (.getfield 9, 3) := by decide +kernel
theorem dX0_isOn_36 : decode cX0_isOn 36 = .ok (.iload_n 1, 1) := by decide +kernel
theorem dX0_isOn_37 : decode cX0_isOn 37 = .ok (.iaload, 1) := by decide +kernel
theorem dX0_isOn_38 : decode cX0_isOn 38 = .ok (.aload_n 0, 1) := by decide +kernel
theorem dX0_isOn_39 : decode cX0_isOn 39 = .ok (.getfield 9, 3) := by decide +kernel
theorem dX0_isOn_42 : decode cX0_isOn 42 = .ok (.iload_n 1, 1) := by decide +kernel
theorem dX0_isOn_43 : decode cX0_isOn 43 = .ok (.iconst 1, 1) := by decide +kernel
theorem dX0_isOn_44 : decode cX0_isOn 44 = .ok (.iadd, 1) := by decide +kernel
theorem dX0_isOn_45 : decode cX0_isOn 45 = .ok (.iaload, 1) := by decide +kernel
theorem dX0_isOn_46 : decode cX0_isOn 46 = .ok (.invokestatic 32, 3) := by decide +kernel
theorem dX0_isOn_49 : decode cX0_isOn 49 = .ok (.if_icmp .gt 49, 3) := by decide +kernel
theorem dX0_isOn_52 : decode cX0_isOn 52 = .ok (.iload_n 3, 1) := by decide +kernel
theorem dX0_isOn_53 : decode cX0_isOn 53 = .ok (.aload_n 0, 1) := by decide +kernel
theorem dX0_isOn_54 : decode cX0_isOn 54 = .ok (.getfield 15, 3) := by decide +kernel
theorem dX0_isOn_57 : decode cX0_isOn 57 = .ok (.iload_n 1, 1) := by decide +kernel
theorem dX0_isOn_58 : decode cX0_isOn 58 = .ok (.iaload, 1) := by decide +kernel
theorem dX0_isOn_59 : decode cX0_isOn 59 = .ok (.aload_n 0, 1) := by decide +kernel
theorem dX0_isOn_60 : decode cX0_isOn 60 = .ok (.getfield 15, 3) := by decide +kernel
theorem dX0_isOn_63 : decode cX0_isOn 63 = .ok (.iload_n 1, 1) := by decide +kernel
theorem dX0_isOn_64 : decode cX0_isOn 64 = .ok (.iconst 1, 1) := by decide +kernel
theorem dX0_isOn_65 : decode cX0_isOn 65 = .ok (.iadd, 1) := by decide +kernel
theorem dX0_isOn_66 : decode cX0_isOn 66 = .ok (.iaload, 1) := by decide +kernel
theorem dX0_isOn_67 : decode cX0_isOn 67 = .ok (.invokestatic 26, 3) := by decide +kernel
theorem dX0_isOn_70 : decode cX0_isOn 70 = .ok (.if_icmp .lt 28, 3) := by decide +kernel
theorem dX0_isOn_73 : decode cX0_isOn 73 = .ok (.iload_n 3, 1) := by decide +kernel
theorem dX0_isOn_74 : decode cX0_isOn 74 = .ok (.aload_n 0, 1) := by decide +kernel
theorem dX0_isOn_75 : decode cX0_isOn 75 = .ok (.getfield 15, 3) := by decide +kernel
theorem dX0_isOn_78 : decode cX0_isOn 78 = .ok (.iload_n 1, 1) := by decide +kernel
theorem dX0_isOn_79 : decode cX0_isOn 79 = .ok (.iaload, 1) := by decide +kernel
theorem dX0_isOn_80 : decode cX0_isOn 80 = .ok (.aload_n 0, 1) := by decide +kernel
theorem dX0_isOn_81 : decode cX0_isOn 81 = .ok (.getfield 15, 3) := by decide +kernel
theorem dX0_isOn_84 : decode cX0_isOn 84 = .ok (.iload_n 1, 1) := by decide +kernel
theorem dX0_isOn_85 : decode cX0_isOn 85 = .ok (.iconst 1, 1) := by decide +kernel
theorem dX0_isOn_86 : decode cX0_isOn 86 = .ok (.iadd, 1) := by decide +kernel
theorem dX0_isOn_87 : decode cX0_isOn 87 = .ok (.iaload, 1) := by decide +kernel
theorem dX0_isOn_88 : decode cX0_isOn 88 = .ok (.invokestatic 32, 3) := by decide +kernel
theorem dX0_isOn_91 : decode cX0_isOn 91 = .ok (.if_icmp .gt 7, 3) := by decide +kernel
theorem dX0_isOn_94 : decode cX0_isOn 94 = .ok (.iconst 1, 1) := by decide +kernel
theorem dX0_isOn_95 : decode cX0_isOn 95 = .ok (.goto 4, 3) := by decide +kernel
theorem dX0_isOn_98 : decode cX0_isOn 98 = .ok (.iconst 0, 1) := by decide +kernel
theorem dX0_isOn_99 : decode cX0_isOn 99 = .ok (.ireturn, 1) := by decide +kernel
theorem dX0_doubleArea_0 : decode cX0_doubleArea 0 = .ok (.iconst 0, 1) := by decide +kernel
theorem dX0_doubleArea_1 : decode cX0_doubleArea 1 = .ok (.istore_n 1, 1) := by decide +kernel
theorem dX0_doubleArea_2 : decode cX0_doubleArea 2 = .ok (.iconst 0, 1) := by decide +kernel
theorem dX0_doubleArea_3 : decode cX0_doubleArea 3 = .ok (.istore_n 2, 1) := by decide +kernel
theorem dX0_doubleArea_4 : decode cX0_doubleArea 4 = .ok (.iload_n 2, 1) := by decide +kernel
theorem dX0_doubleArea_5 : decode cX0_doubleArea 5 = .ok (.aload_n 0, 1) := by decide +kernel
theorem dX0_doubleArea_6 : decode cX0_doubleArea 6 = .ok (.getfield 18, 3) := by decide +kernel
theorem dX0_doubleArea_9 : decode cX0_doubleArea 9 = .ok (.if_icmp .ge 43, 3) := by decide +kernel
theorem dX0_doubleArea_12 : decode cX0_doubleArea 12 = .ok (.iload_n 1, 1) := by decide +kernel
theorem dX0_doubleArea_13 : decode cX0_doubleArea 13 = .ok (.aload_n 0, 1) := by decide +kernel
theorem dX0_doubleArea_14 : decode cX0_doubleArea 14 = .ok (.getfield 9, 3) := by decide +kernel
theorem dX0_doubleArea_17 : decode cX0_doubleArea 17 = .ok (.iload_n 2, 1) := by decide +kernel
theorem dX0_doubleArea_18 : decode cX0_doubleArea 18 = .ok (.iaload, 1) := by decide +kernel
theorem dX0_doubleArea_19 : decode cX0_doubleArea 19 = .ok (.aload_n 0, 1) := by decide +kernel
theorem dX0_doubleArea_20 : decode cX0_doubleArea 20 = .ok (.getfield 15, 3) := by decide +kernel
theorem dX0_doubleArea_23 : decode cX0_doubleArea 23 = .ok (.iload_n 2, 1) := by decide +kernel
theorem dX0_doubleArea_24 : decode cX0_doubleArea 24 = .ok (.iconst 1, 1) := by decide +kernel
theorem dX0_doubleArea_25 : decode cX0_doubleArea 25 = .ok (.iadd, 1) := by decide +kernel
theorem dX0_doubleArea_26 : decode cX0_doubleArea 26 = .ok (.iaload, 1) := by decide +kernel
theorem dX0_doubleArea_27 : decode cX0_doubleArea 27 = .ok (.imul, 1) := by decide +kernel
theorem dX0_doubleArea_28 : decode cX0_doubleArea 28 = .ok (.aload_n 0, 1) := by decide +kernel
theorem dX0_doubleArea_29 : decode cX0_doubleArea 29 = .ok (.getfield 15, 3) := by decide +kernel
theorem dX0_doubleArea_32 : decode cX0_doubleArea 32 = .ok (.iload_n 2, 1) := by decide +kernel
theorem dX0_doubleArea_33 : decode cX0_doubleArea 33 = .ok (.iaload, 1) := by decide +kernel
theorem dX0_doubleArea_34 : decode cX0_doubleArea 34 = .ok (.aload_n 0, 1) := by decide +kernel
theorem dX0_doubleArea_35 : decode cX0_doubleArea 35 = .ok (.getfield 9, 3) := by decide +kernel
theorem dX0_doubleArea_38 : decode cX0_doubleArea 38 = .ok (.iload_n 2, 1) := by decide +kernel
theorem dX0_doubleArea_39 : decode cX0_doubleArea 39 = .ok (.iconst 1, 1) := by decide +kernel
theorem dX0_doubleArea_40 : decode cX0_doubleArea 40 = .ok (.iadd, 1) := by decide +kernel
theorem dX0_doubleArea_41 : decode cX0_doubleArea 41 = .ok (.iaload, 1) := by decide +kernel
theorem dX0_doubleArea_42 : decode cX0_doubleArea 42 = .ok (.imul, 1) := by decide +kernel
theorem dX0_doubleArea_43 : decode cX0_doubleArea 43 = .ok (.isub, 1) := by decide +kernel
theorem dX0_doubleArea_44 : decode cX0_doubleArea 44 = .ok (.iadd, 1) := by decide +kernel
theorem dX0_doubleArea_45 : decode cX0_doubleArea 45 = .ok (.istore_n 1, 1) := by decide +kernel
theorem dX0_doubleArea_46 : decode cX0_doubleArea 46 = .ok (.iinc 2 1, 3) := by decide +kernel
theorem dX0_doubleArea_49 : decode cX0_doubleArea 49 = .ok (.goto (-45), 3) := by decide +kernel
theorem dX0_doubleArea_52 : decode cX0_doubleArea 52 = .ok (.iload_n 1, 1) := by decide +kernel
theorem dX0_doubleArea_53 : decode cX0_doubleArea 53 = .ok (.ireturn, 1) := by decide +kernel
set_option maxRecDepth 20000 in
theorem ggX0_isLeft_X0_isSimple : GoodIn wsX0_isLeft wsX0_isSimple := goodIn_r _ [5, 6, 7, 8, 9, 4, 10, 11, 12, 13, 14, 15, 16, 17, 18, 19, 20, 21, 22, 23, 24, 25, 26, 27, 28, 29, 30, 31, 32, 33, 34, 35, 36, 37, 38, 39, 40, 41, 42, 43, 48, 49, 50] (by decide +kernel) (by decide +kernel)
set_option maxRecDepth 20000 in
theorem gX0_isLeft_X0_isSimple : GoodIn wsX0_isLeft (wsV RX0 35 RX0 yX0_isSimple wsX0_isSimple) := goodIn_app (goodIn_of _ (by decide +kernel)) ggX0_isLeft_X0_isSimple
set_option maxRecDepth 20000 in
theorem ggX0_isLeft_X0_doubleArea : GoodIn wsX0_isLeft wsX0_doubleArea := goodIn_r _ [47, 6, 11, 12, 48, 49, 50] (by decide +kernel) (by decide +kernel)
set_option maxRecDepth 20000 in
theorem gX0_isLeft_X0_doubleArea : GoodIn wsX0_isLeft (wsV RX0 39 RX0 yX0_doubleArea wsX0_doubleArea) := goodIn_app (goodIn_of _ (by decide +kernel)) ggX0_isLeft_X0_doubleArea
theorem dX0_isLeft_0 : decode cX0_isLeft 0 = .ok (.aload_n 0, 1) := by decide +kernel
theorem dX0_isLeft_1 : decode cX0_isLeft 1 = .ok (.invokevirtual 35, 3) := by decide +kernel
theorem dX0_isLeft_4 : decode cX0_isLeft 4 = .ok (.ifCond .eq 14, 3) := by decide +kernel
theorem dX0_isLeft_7 : decode cX0_isLeft 7 = .ok (.aload_n 0, 1) := by decide +kernel
theorem dX0_isLeft_8 : decode cX0_isLeft 8 = .ok (.invokevirtual 39, 3) := by decide +kernel
theorem dX0_isLeft_11 : decode cX0_isLeft 11 = .ok (.ifCond .le 7, 3) := by decide +kernel
theorem dX0_isLeft_14 : decode cX0_isLeft 14 = .ok (.iconst 1, 1) := by decide +kernel
theorem dX0_isLeft_15 : decode cX0_isLeft 15 = .ok (.goto 4, 3) := by decide +kernel
theorem dX0_isLeft_18 : decode cX0_isLeft 18 = .ok (.iconst 0, 1) := by decide +kernel
theorem dX0_isLeft_19 : decode cX0_isLeft 19 = .ok (.ireturn, 1) := by decide +kernel
set_option maxRecDepth 20000 in
theorem ggX0_isSimple_X0_areAlike : GoodIn wsX0_isSimple wsX0_areAlike := goodIn_r _ [6, 7, 8, 40, 41, 42] (by decide +kernel) (by decide +kernel)
set_option maxRecDepth 20000 in
theorem gX0_isSimple_X0_areAlike : GoodIn wsX0_isSimple (wsV RX0 43 RX0 yX0_areAlike wsX0_areAlike) := goodIn_app (goodIn_of _ (by decide +kernel)) ggX0_isSimple_X0_areAlike
set_option maxRecDepth 20000 in
theorem ggX0_isSimple_X0_clash : GoodIn wsX0_isSimple wsX0_clash := goodIn_r _ [12, 1, 13, 14, 15, 5, 16, 7, 8, 17, 18, 19, 20, 21, 22, 23, 24, 25, 26, 27, 28, 29, 30, 31, 32, 33, 34, 35, 36, 37, 38, 39, 40, 41, 42] (by decide +kernel) (by decide +kernel)
set_option maxRecDepth 20000 in
theorem gX0_isSimple_X0_clash : GoodIn wsX0_isSimple (wsV RX0 47 RX0 yX0_clash wsX0_clash) := goodIn_app (goodIn_of _ (by decide +kernel)) ggX0_isSimple_X0_clash
theorem dX0_isSimple_0 : decode cX0_isSimple 0 = .ok (.aload_n 0, 1) := by decide +kernel
theorem dX0_isSimple_1 : decode cX0_isSimple 1 = .ok (.getfield 18, 3) := by decide +kernel
theorem dX0_isSimple_4 : decode cX0_isSimple 4 = .ok (.iconst 3, 1) := by decide +kernel
theorem dX0_isSimple_5 : decode cX0_isSimple 5 = .ok (.if_icmp .ge 5, 3) := by decide +kernel
theorem dX0_isSimple_8 : decode cX0_isSimple 8 = .ok (.iconst 0, 1) := by decide +kernel
theorem dX0_isSimple_9 : decode cX0_isSimple 9 = .ok (.ireturn, 1) := by decide +kernel
theorem dX0_isSimple_10 : decode cX0_isSimple 10 = .ok (.iconst 0, 1) := by decide +kernel
theorem dX0_isSimple_11 : decode cX0_isSimple 11 = .ok (.istore_n 1, 1) := by decide +kernel
theorem dX0_isSimple_12 : decode cX0_isSimple 12 = .ok (.iload_n 1, 1) := by decide +kernel
theorem dX0_isSimple_13 : decode cX0_isSimple 13 = .ok (.aload_n 0, 1) := by decide +kernel
theorem dX0_isSimple_14 : decode cX0_isSimple 14 = .ok (.getfield 18, 3) := by decide +kernel
theorem dX0_isSimple_17 : decode cX0_isSimple 17 = .ok (.if_icmp .ge 47, 3) := by decide +kernel
theorem dX0_isSimple_20 : decode cX0_isSimple 20 = .ok (.iload_n 1, 1) := by decide +kernel
theorem dX0_isSimple_21 : decode cX0_isSimple 21 = .ok (.iconst 1, 1) := by decide +kernel
theorem dX0_isSimple_22 : decode cX0_isSimple 22 = .ok (.iadd, 1) := by decide +kernel
theorem dX0_isSimple_23 : decode cX0_isSimple 23 = .ok (.istore_n 2, 1) := by decide +kernel
theorem dX0_isSimple_24 : decode cX0_isSimple 24 = .ok (.iload_n 2, 1) := by decide +kernel
theorem dX0_isSimple_25 : decode cX0_isSimple 25 = .ok (.aload_n 0, 1) := by decide +kernel
theorem dX0_isSimple_26 : decode cX0_isSimple 26 = .ok (.getfield 18, 3) := by decide +kernel
theorem dX0_isSimple_29 : decode cX0_isSimple 29 = .ok (.if_icmp .ge 29, 3) := by decide +kernel
theorem dX0_isSimple_32 : decode cX0_isSimple 32 = .ok (.aload_n 0, 1) := by decide +kernel
theorem dX0_isSimple_33 : decode cX0_isSimple 33 = .ok (.iload_n 1, 1) := by decide +kernel
theorem dX0_isSimple_34 : decode cX0_isSimple 34 = .ok (.iload_n 2, 1) := by decide +kernel
theorem dX0_isSimple_35 : decode cX0_isSimple 35 = .ok (.invokevirtual 43, 3) := by decide +kernel
theorem dX0_isSimple_38 : decode cX0_isSimple 38 = .ok (.ifCond .ne 12, 3) := by decide +kernel
theorem dX0_isSimple_41 : decode cX0_isSimple 41 = .ok (.aload_n 0, 1) := by decide +kernel
theorem dX0_isSimple_42 : decode cX0_isSimple 42 = .ok (.iload_n 1, 1) := by decide +kernel
theorem dX0_isSimple_43 : decode cX0_isSimple 43 = .ok (.iload_n 2, 1) := by decide +kernel
theorem dX0_isSimple_44 : decode cX0_isSimple 44 = .ok (.invokevirtual 47, 3) := by decide +kernel
theorem dX0_isSimple_47 : decode cX0_isSimple 47 = .ok (.ifCond .eq 5, 3) := by decide +kernel
theorem dX0_isSimple_50 : decode cX0_isSimple 50 = .ok (.iconst 0, 1) := by decide +kernel
theorem dX0_isSimple_51 : decode cX0_isSimple 51 = .ok (.ireturn, 1) := by decide +kernel
theorem dX0_isSimple_52 : decode cX0_isSimple 52 = .ok (.iinc 2 1, 3) := by decide +kernel
theorem dX0_isSimple_55 : decode cX0_isSimple 55 = .ok (.goto (-31), 3) := by decide +kernel
theorem dX0_isSimple_58 : decode cX0_isSimple 58 = .ok (.iinc 1 1, 3) := by decide +kernel
theorem dX0_isSimple_61 : decode cX0_isSimple 61 = .ok (.goto (-49), 3) := by decide +kernel
theorem dX0_isSimple_64 : decode cX0_isSimple 64 = .ok (.iconst 1, 1) := by decide +kernel
theorem dX0_isSimple_65 : decode cX0_isSimple 65 = .ok (.ireturn, 1) := by decide +kernel
theorem dX0_areAlike_0 : decode cX0_areAlike 0 = .ok (.aload_n 0, 1) := by decide +kernel
theorem dX0_areAlike_1 : decode cX0_areAlike 1 = .ok (.getfield 9, 3) := by decide +kernel
theorem dX0_areAlike_4 : decode cX0_areAlike 4 = .ok (.iload_n 1, 1) := by decide +kernel
theorem dX0_areAlike_5 : decode cX0_areAlike 5 = .ok (.iaload, 1) := by decide +kernel
theorem dX0_areAlike_6 : decode cX0_areAlike 6 = .ok (.aload_n 0, 1) := by decide +kernel
theorem dX0_areAlike_7 : decode cX0_areAlike 7 = .ok (.getfield 9, 3) := by decide +kernel
theorem dX0_areAlike_10 : decode cX0_areAlike 10 = .ok (.iload_n 2, 1) := by decide +kernel
theorem dX0_areAlike_11 : decode cX0_areAlike 11 = .ok (.iaload, 1) := by decide +kernel
theorem dX0_areAlike_12 : decode cX0_areAlike 12 = .ok (.if_icmp .ne 22, 3) := by decide +kernel
theorem dX0_areAlike_15 : decode cX0_areAlike 15 = .ok (.aload_n 0, 1) := by decide +kernel
theorem dX0_areAlike_16 : decode cX0_areAlike 16 = .ok (.getfield 15, 3) := by decide +kernel
theorem dX0_areAlike_19 : decode cX0_areAlike 19 = .ok (.iload_n 1, 1) := by decide +kernel
theorem dX0_areAlike_20 : decode cX0_areAlike 20 = .ok (.iaload, 1) := by decide +kernel
theorem dX0_areAlike_21 : decode cX0_areAlike 21 = .ok (.aload_n 0, 1) := by decide +kernel
theorem dX0_areAlike_22 : decode cX0_areAlike 22 = .ok (.getfield 15, 3) := by decide +kernel
theorem dX0_areAlike_25 : decode cX0_areAlike 25 = .ok (.iload_n 2, 1) := by decide +kernel
theorem dX0_areAlike_26 : decode cX0_areAlike 26 = .ok (.iaload, 1) := by decide +kernel
theorem dX0_areAlike_27 : decode cX0_areAlike 27 = .ok (.if_icmp .ne 7, 3) := by decide +kernel
theorem dX0_areAlike_30 : decode cX0_areAlike 30 = .ok (.iconst 1, 1) := by decide +kernel
theorem dX0_areAlike_31 : decode cX0_areAlike 31 = .ok (.goto 4, 3) := by decide +kernel
theorem dX0_areAlike_34 : decode cX0_areAlike 34 = .ok (.iconst 0, 1) := by decide +kernel
theorem dX0_areAlike_35 : decode cX0_areAlike 35 = .ok (.ireturn, 1) := by decide +kernel
set_option maxRecDepth 20000 in
theorem ggX0_clash_X0_foldsBack : GoodIn wsX0_clash wsX0_foldsBack := goodIn_r _ [6, 7, 8, 9, 10, 11, 5, 12, 13, 14, 15, 16, 17, 18, 19, 20, 21, 22, 23, 32, 33, 34] (by decide +kernel) (by decide +kernel)
set_option maxRecDepth 20000 in
theorem gX0_clash_X0_foldsBack : GoodIn wsX0_clash (wsV RX0 50 RX0 yX0_foldsBack wsX0_foldsBack) := goodIn_app (goodIn_of _ (by decide +kernel)) ggX0_clash_X0_foldsBack
set_option maxRecDepth 20000 in
theorem ggX0_clash_X0_parts : GoodIn wsX0_clash wsX0_parts := goodIn_r _ [27, 7, 8, 20, 21, 22, 5, 23, 32, 33, 34] (by decide +kernel) (by decide +kernel)
set_option maxRecDepth 20000 in
theorem gX0_clash_X0_parts : GoodIn wsX0_clash (wsV RX0 53 RX0 yX0_parts wsX0_parts) := goodIn_app (goodIn_of _ (by decide +kernel)) ggX0_clash_X0_parts
set_option maxRecDepth 20000 in
theorem ggX0_clash_X0_touches : GoodIn wsX0_clash wsX0_touches := goodIn_r _ [31, 7, 8, 9, 10, 11, 5, 12, 13, 14, 15, 16, 17, 18, 19, 20, 21, 22, 23, 32, 33, 34] (by decide +kernel) (by decide +kernel)
set_option maxRecDepth 20000 in
theorem gX0_clash_X0_touches : GoodIn wsX0_clash (wsV RX0 56 RX0 yX0_touches wsX0_touches) := goodIn_app (goodIn_of _ (by decide +kernel)) ggX0_clash_X0_touches
theorem dX0_clash_0 : decode cX0_clash 0 = .ok (.iload_n 2, 1) := by decide +kernel
theorem dX0_clash_1 : decode cX0_clash 1 = .ok (.iload_n 1, 1) := by decide +kernel
theorem dX0_clash_2 : decode cX0_clash 2 = .ok (.iconst 1, 1) := by decide +kernel
theorem dX0_clash_3 : decode cX0_clash 3 = .ok (.iadd, 1) := by decide +kernel
theorem dX0_clash_4 : decode cX0_clash 4 = .ok (.if_icmp .ne 10, 3) := by decide +kernel
theorem dX0_clash_7 : decode cX0_clash 7 = .ok (.aload_n 0, 1) := by decide +kernel
theorem dX0_clash_8 : decode cX0_clash 8 = .ok (.iload_n 1, 1) := by decide +kernel
theorem dX0_clash_9 : decode cX0_clash 9 = .ok (.iload_n 2, 1) := by decide +kernel
theorem dX0_clash_10 : decode cX0_clash 10 = .ok (.invokevirtual 50, 3) := by decide +kernel
theorem dX0_clash_13 : decode cX0_clash 13 = .ok (.ireturn, 1) := by decide +kernel
theorem dX0_clash_14 : decode cX0_clash 14 = .ok (.iload_n 1, 1) := by decide +kernel
theorem dX0_clash_15 : decode cX0_clash 15 = .ok (.ifCond .ne 20, 3) := by decide +kernel
theorem dX0_clash_18 : decode cX0_clash 18 = .ok (.iload_n 2, 1) := by decide +kernel
theorem dX0_clash_19 : decode cX0_clash 19 = .ok (.aload_n 0, 1) := by decide +kernel
theorem dX0_clash_20 : decode cX0_clash 20 = .ok (.getfield 18, 3) := by decide +kernel
theorem dX0_clash_23 : decode cX0_clash 23 = .ok (.iconst 1, 1) := by decide +kernel
theorem dX0_clash_24 : decode cX0_clash 24 = .ok (.isub, 1) := by decide +kernel
theorem dX0_clash_25 : decode cX0_clash 25 = .ok (.if_icmp .ne 10, 3) := by decide +kernel
theorem dX0_clash_28 : decode cX0_clash 28 = .ok (.aload_n 0, 1) := by decide +kernel
theorem dX0_clash_29 : decode cX0_clash 29 = .ok (.iload_n 2, 1) := by decide +kernel
theorem dX0_clash_30 : decode cX0_clash 30 = .ok (.iload_n 1, 1) := by decide +kernel
theorem dX0_clash_31 : decode cX0_clash 31 = .ok (.invokevirtual 50, 3) := by decide +kernel
theorem dX0_clash_34 : decode cX0_clash 34 = .ok (.ireturn, 1) := by decide +kernel
theorem dX0_clash_35 : decode cX0_clash 35 = .ok (.aload_n 0, 1) := by decide +kernel
theorem dX0_clash_36 : decode cX0_clash 36 = .ok (.iload_n 1, 1) := by decide +kernel
theorem dX0_clash_37 : decode cX0_clash 37 = .ok (.iload_n 2, 1) := by decide +kernel
theorem dX0_clash_38 : decode cX0_clash 38 = .ok (.invokevirtual 53, 3) := by decide +kernel
theorem dX0_clash_41 : decode cX0_clash 41 = .ok (.ifCond .eq 12, 3) := by decide +kernel
theorem dX0_clash_44 : decode cX0_clash 44 = .ok (.aload_n 0, 1) := by decide +kernel
theorem dX0_clash_45 : decode cX0_clash 45 = .ok (.iload_n 2, 1) := by decide +kernel
theorem dX0_clash_46 : decode cX0_clash 46 = .ok (.iload_n 1, 1) := by decide +kernel
theorem dX0_clash_47 : decode cX0_clash 47 = .ok (.invokevirtual 53, 3) := by decide +kernel
theorem dX0_clash_50 : decode cX0_clash 50 = .ok (.ifCond .ne 21, 3) := by decide +kernel
theorem dX0_clash_53 : decode cX0_clash 53 = .ok (.aload_n 0, 1) := by decide +kernel
theorem dX0_clash_54 : decode cX0_clash 54 = .ok (.iload_n 1, 1) := by decide +kernel
theorem dX0_clash_55 : decode cX0_clash 55 = .ok (.iload_n 2, 1) := by decide +kernel
theorem dX0_clash_56 : decode cX0_clash 56 = .ok (.invokevirtual 56, 3) := by decide +kernel
theorem dX0_clash_59 : decode cX0_clash 59 = .ok (.ifCond .ne 12, 3) := by decide +kernel
theorem dX0_clash_62 : decode cX0_clash 62 = .ok (.aload_n 0, 1) := by decide +kernel
theorem dX0_clash_63 : decode cX0_clash 63 = .ok (.iload_n 2, 1) := by decide +kernel
theorem dX0_clash_64 : decode cX0_clash 64 = .ok (.iload_n 1, 1) := by decide +kernel
theorem dX0_clash_65 : decode cX0_clash 65 = .ok (.invokevirtual 56, 3) := by decide +kernel
theorem dX0_clash_68 : decode cX0_clash 68 = .ok (.ifCond .eq 7, 3) := by decide +kernel
theorem dX0_clash_71 : decode cX0_clash 71 = .ok (.iconst 1, 1) := by decide +kernel
theorem dX0_clash_72 : decode cX0_clash 72 = .ok (.goto 4, 3) := by decide +kernel
theorem dX0_clash_75 : decode cX0_clash 75 = .ok (.iconst 0, 1) := by decide +kernel
theorem dX0_clash_76 : decode cX0_clash 76 = .ok (.ireturn, 1) := by decide +kernel
set_option maxRecDepth 20000 in
theorem ggX0_foldsBack_X0_isOn : GoodIn wsX0_foldsBack wsX0_isOn := goodIn_r _ [7, 1, 8, 9, 10, 11, 12, 13, 14, 2, 15, 16, 17, 6, 18, 19, 20, 21] (by decide +kernel) (by decide +kernel)
set_option maxRecDepth 20000 in
theorem gX0_foldsBack_X0_isOn : GoodIn wsX0_foldsBack (wsV RX0 59 RX0 yX0_isOn wsX0_isOn) := goodIn_app (goodIn_of _ (by decide +kernel)) ggX0_foldsBack_X0_isOn
theorem dX0_foldsBack_0 : decode cX0_foldsBack 0 = .ok (.aload_n 0, 1) := by decide +kernel
theorem dX0_foldsBack_1 : decode cX0_foldsBack 1 = .ok (.iload_n 1, 1) := by decide +kernel
theorem dX0_foldsBack_2 : decode cX0_foldsBack 2 = .ok (.aload_n 0, 1) := by decide +kernel
theorem dX0_foldsBack_3 : decode cX0_foldsBack 3 = .ok (.getfield 9, 3) := by decide +kernel
theorem dX0_foldsBack_6 : decode cX0_foldsBack 6 = .ok (.iload_n 2, 1) := by decide +kernel
theorem dX0_foldsBack_7 : decode cX0_foldsBack 7 = .ok (.iconst 1, 1) := by decide +kernel
theorem dX0_foldsBack_8 : decode cX0_foldsBack 8 = .ok (.iadd, 1) := by decide +kernel
theorem dX0_foldsBack_9 : decode cX0_foldsBack 9 = .ok (.iaload, 1) := by decide +kernel
theorem dX0_foldsBack_10 : decode cX0_foldsBack 10 = .ok (.aload_n 0, 1) := by decide +kernel
theorem dX0_foldsBack_11 : decode cX0_foldsBack 11 = .ok (.getfield 15, 3) := by decide +kernel
theorem dX0_foldsBack_14 : decode cX0_foldsBack 14 = .ok (.iload_n 2, 1) := by decide +kernel
theorem dX0_foldsBack_15 : decode cX0_foldsBack 15 = .ok (.iconst 1, 1) := by decide +kernel
theorem dX0_foldsBack_16 : decode cX0_foldsBack 16 = .ok (.iadd, 1) := by decide +kernel
theorem dX0_foldsBack_17 : decode cX0_foldsBack 17 = .ok (.iaload, 1) := by decide +kernel
theorem dX0_foldsBack_18 : decode cX0_foldsBack 18 = .ok (.invokevirtual 59, 3) := by decide +kernel
theorem dX0_foldsBack_21 : decode cX0_foldsBack 21 = .ok (.ifCond .ne 23, 3) := by decide +kernel
theorem dX0_foldsBack_24 : decode cX0_foldsBack 24 = .ok (.aload_n 0, 1) := by decide +kernel
theorem dX0_foldsBack_25 : decode cX0_foldsBack 25 = .ok (.iload_n 2, 1) := by decide +kernel
theorem dX0_foldsBack_26 : decode cX0_foldsBack 26 = .ok (.aload_n 0, 1) := by decide +kernel
theorem dX0_foldsBack_27 : decode cX0_foldsBack 27 = .ok (.getfield 9, 3) := by decide +kernel
theorem dX0_foldsBack_30 : decode cX0_foldsBack 30 = .ok (.iload_n 1, 1) := by decide +kernel
theorem dX0_foldsBack_31 : decode cX0_foldsBack 31 = .ok (.iaload, 1) := by decide +kernel
theorem dX0_foldsBack_32 : decode cX0_foldsBack 32 = .ok (.aload_n 0, 1) := by decide +kernel
theorem dX0_foldsBack_33 : decode cX0_foldsBack 33 = .ok (.getfield 15, 3) := by decide +kernel
theorem dX0_foldsBack_36 : decode cX0_foldsBack 36 = .ok (.iload_n 1, 1) := by decide +kernel
theorem dX0_foldsBack_37 : decode cX0_foldsBack 37 = .ok (.iaload, 1) := by decide +kernel
theorem dX0_foldsBack_38 : decode cX0_foldsBack 38 = .ok (.invokevirtual 59, 3) := by decide +kernel
theorem dX0_foldsBack_41 : decode cX0_foldsBack 41 = .ok (.ifCond .eq 7, 3) := by decide +kernel
theorem dX0_foldsBack_44 : decode cX0_foldsBack 44 = .ok (.iconst 1, 1) := by decide +kernel
theorem dX0_foldsBack_45 : decode cX0_foldsBack 45 = .ok (.goto 4, 3) := by decide +kernel
theorem dX0_foldsBack_48 : decode cX0_foldsBack 48 = .ok (.iconst 0, 1) := by decide +kernel
theorem dX0_foldsBack_49 : decode cX0_foldsBack 49 = .ok (.ireturn, 1) := by decide +kernel
set_option maxRecDepth 20000 in
theorem ggX0_parts_X0_leftOf : GoodIn wsX0_parts wsX0_leftOf := goodIn_r _ [7, 1, 2, 8, 9, 10] (by decide +kernel) (by decide +kernel)
set_option maxRecDepth 20000 in
theorem gX0_parts_X0_leftOf : GoodIn wsX0_parts (wsV RX0 22 RX0 yX0_leftOf wsX0_leftOf) := goodIn_app (goodIn_of _ (by decide +kernel)) ggX0_parts_X0_leftOf
theorem dX0_parts_0 : decode cX0_parts 0 = .ok (.aload_n 0, 1) := by decide +kernel
theorem dX0_parts_1 : decode cX0_parts 1 = .ok (.iload_n 1, 1) := by decide +kernel
theorem dX0_parts_2 : decode cX0_parts 2 = .ok (.aload_n 0, 1) := by decide +kernel
theorem dX0_parts_3 : decode cX0_parts 3 = .ok (.getfield 9, 3) := by decide +kernel
theorem dX0_parts_6 : decode cX0_parts 6 = .ok (.iload_n 2, 1) := by decide +kernel
theorem dX0_parts_7 : decode cX0_parts 7 = .ok (.iaload, 1) := by decide +kernel
theorem dX0_parts_8 : decode cX0_parts 8 = .ok (.aload_n 0, 1) := by decide +kernel
theorem dX0_parts_9 : decode cX0_parts 9 = .ok (.getfield 15, 3) := by decide +kernel
theorem dX0_parts_12 : decode cX0_parts 12 = .ok (.iload_n 2, 1) := by decide +kernel
theorem dX0_parts_13 : decode cX0_parts 13 = .ok (.iaload, 1) := by decide +kernel
theorem dX0_parts_14 : decode cX0_parts 14 = .ok (.invokevirtual 22, 3) := by decide +kernel
theorem dX0_parts_17 : decode cX0_parts 17 = .ok (.istore_n 3, 1) := by decide +kernel
theorem dX0_parts_18 : decode cX0_parts 18 = .ok (.aload_n 0, 1) := by decide +kernel
theorem dX0_parts_19 : decode cX0_parts 19 = .ok (.iload_n 1, 1) := by decide +kernel
theorem dX0_parts_20 : decode cX0_parts 20 = .ok (.aload_n 0, 1) := by decide +kernel
theorem dX0_parts_21 : decode cX0_parts 21 = .ok (.getfield 9, 3) := by decide +kernel
theorem dX0_parts_24 : decode cX0_parts 24 = .ok (.iload_n 2, 1) := by decide +kernel
theorem dX0_parts_25 : decode cX0_parts 25 = .ok (.iconst 1, 1) := by decide +kernel
theorem dX0_parts_26 : decode cX0_parts 26 = .ok (.iadd, 1) := by decide +kernel
theorem dX0_parts_27 : decode cX0_parts 27 = .ok (.iaload, 1) := by decide +kernel
theorem dX0_parts_28 : decode cX0_parts 28 = .ok (.aload_n 0, 1) := by decide +kernel
theorem dX0_parts_29 : decode cX0_parts 29 = .ok (.getfield 15, 3) := by decide +kernel
theorem dX0_parts_32 : decode cX0_parts 32 = .ok (.iload_n 2, 1) := by decide +kernel
theorem dX0_parts_33 : decode cX0_parts 33 = .ok (.iconst 1, 1) := by decide +kernel
theorem dX0_parts_34 : decode cX0_parts 34 = .ok (.iadd, 1) := by decide +kernel
theorem dX0_parts_35 : decode cX0_parts 35 = .ok (.iaload, 1) := by decide +kernel
theorem dX0_parts_36 : decode cX0_parts 36 = .ok (.invokevirtual 22, 3) := by decide +kernel
theorem dX0_parts_39 : decode cX0_parts 39 = .ok (.istore 4, 2) := by decide +kernel
theorem dX0_parts_41 : decode cX0_parts 41 = .ok (.iload_n 3, 1) := by decide +kernel
theorem dX0_parts_42 : decode cX0_parts 42 = .ok (.ifCond .ge 8, 3) := by decide +kernel
theorem dX0_parts_45 : decode cX0_parts 45 = .ok (.iload 4, 2) := by decide +kernel
theorem dX0_parts_47 : decode cX0_parts 47 = .ok (.ifCond .gt 12, 3) := by decide +kernel
theorem dX0_parts_50 : decode cX0_parts 50 = .ok (.iload_n 3, 1) := by decide +kernel
theorem dX0_parts_51 : decode cX0_parts 51 = .ok (.ifCond .le 12, 3) := by decide +kernel
theorem dX0_parts_54 : decode cX0_parts 54 = .ok (.iload 4, 2) := by decide +kernel
theorem dX0_parts_56 : decode cX0_parts 56 = .ok (.ifCond .ge 7, 3) := by decide +kernel
theorem dX0_parts_59 : decode cX0_parts 59 = .ok (.iconst 1, 1) := by decide +kernel
theorem dX0_parts_60 : decode cX0_parts 60 = .ok (.goto 4, 3) := by decide +kernel
theorem dX0_parts_63 : decode cX0_parts 63 = .ok (.iconst 0, 1) := by decide +kernel
theorem dX0_parts_64 : decode cX0_parts 64 = .ok (.ireturn, 1) := by decide +kernel
set_option maxRecDepth 20000 in
theorem ggX0_touches_X0_isOn : GoodIn wsX0_touches wsX0_isOn := goodIn_r _ [7, 1, 8, 9, 10, 11, 12, 13, 14, 2, 15, 16, 17, 6, 18, 19, 20, 21] (by decide +kernel) (by decide +kernel)
set_option maxRecDepth 20000 in
theorem gX0_touches_X0_isOn : GoodIn wsX0_touches (wsV RX0 59 RX0 yX0_isOn wsX0_isOn) := goodIn_app (goodIn_of _ (by decide +kernel)) ggX0_touches_X0_isOn
theorem dX0_touches_0 : decode cX0_touches 0 = .ok (.aload_n 0, 1) := by decide +kernel
theorem dX0_touches_1 : decode cX0_touches 1 = .ok (.iload_n 1, 1) := by decide +kernel
theorem dX0_touches_2 : decode cX0_touches 2 = .ok (.aload_n 0, 1) := by decide +kernel
theorem dX0_touches_3 : decode cX0_touches 3 = .ok (.getfield 9, 3) := by decide +kernel
theorem dX0_touches_6 : decode cX0_touches 6 = .ok (.iload_n 2, 1) := by decide +kernel
theorem dX0_touches_7 : decode cX0_touches 7 = .ok (.iaload, 1) := by decide +kernel
theorem dX0_touches_8 : decode cX0_touches 8 = .ok (.aload_n 0, 1) := by decide +kernel
theorem dX0_touches_9 : decode cX0_touches 9 = .ok (.getfield 15, 3) := by decide +kernel
theorem dX0_touches_12 : decode cX0_touches 12 = .ok (.iload_n 2, 1) := by decide +kernel
theorem dX0_touches_13 : decode cX0_touches 13 = .ok (.iaload, 1) := by decide +kernel
theorem dX0_touches_14 : decode cX0_touches 14 = .ok (.invokevirtual 59, 3) := by decide +kernel
theorem dX0_touches_17 : decode cX0_touches 17 = .ok (.ifCond .ne 27, 3) := by decide +kernel
theorem dX0_touches_20 : decode cX0_touches 20 = .ok (.aload_n 0, 1) := by decide +kernel
theorem dX0_touches_21 : decode cX0_touches 21 = .ok (.iload_n 1, 1) := by decide +kernel
theorem dX0_touches_22 : decode cX0_touches 22 = .ok (.aload_n 0, 1) := by decide +kernel
theorem dX0_touches_23 : decode cX0_touches 23 = .ok (.getfield 9, 3) := by decide +kernel
theorem dX0_touches_26 : decode cX0_touches 26 = .ok (.iload_n 2, 1) := by decide +kernel
theorem dX0_touches_27 : decode cX0_touches 27 = .ok (.iconst 1, 1) := by decide +kernel
theorem dX0_touches_28 : decode cX0_touches 28 = .ok (.iadd, 1) := by decide +kernel
theorem dX0_touches_29 : decode cX0_touches 29 = .ok (.iaload, 1) := by decide +kernel
theorem dX0_touches_30 : decode cX0_touches 30 = .ok (.aload_n 0, 1) := by decide +kernel
theorem dX0_touches_31 : decode cX0_touches 31 = .ok (.getfield 15, 3) := by decide +kernel
theorem dX0_touches_34 : decode cX0_touches 34 = .ok (.iload_n 2, 1) := by decide +kernel
theorem dX0_touches_35 : decode cX0_touches 35 = .ok (.iconst 1, 1) := by decide +kernel
theorem dX0_touches_36 : decode cX0_touches 36 = .ok (.iadd, 1) := by decide +kernel
theorem dX0_touches_37 : decode cX0_touches 37 = .ok (.iaload, 1) := by decide +kernel
theorem dX0_touches_38 : decode cX0_touches 38 = .ok (.invokevirtual 59, 3) := by decide +kernel
theorem dX0_touches_41 : decode cX0_touches 41 = .ok (.ifCond .eq 7, 3) := by decide +kernel
theorem dX0_touches_44 : decode cX0_touches 44 = .ok (.iconst 1, 1) := by decide +kernel
theorem dX0_touches_45 : decode cX0_touches 45 = .ok (.goto 4, 3) := by decide +kernel
theorem dX0_touches_48 : decode cX0_touches 48 = .ok (.iconst 0, 1) := by decide +kernel
theorem dX0_touches_49 : decode cX0_touches 49 = .ok (.ireturn, 1) := by decide +kernel
set_option maxRecDepth 20000 in
theorem ggX0_whereIs_X0_isOn : GoodIn wsX0_whereIs wsX0_isOn := goodIn_r _ [6, 7, 8, 9, 10, 11, 12, 13, 14, 15, 16, 17, 18, 5, 19, 24, 25, 26] (by decide +kernel) (by decide +kernel)
set_option maxRecDepth 20000 in
theorem gX0_whereIs_X0_isOn : GoodIn wsX0_whereIs (wsV RX0 59 RX0 yX0_isOn wsX0_isOn) := goodIn_app (goodIn_of _ (by decide +kernel)) ggX0_whereIs_X0_isOn
set_option maxRecDepth 20000 in
theorem ggX0_whereIs_X0_passesRightOf : GoodIn wsX0_whereIs wsX0_passesRightOf := goodIn_r _ [23, 15, 16, 17, 18, 5, 19, 7, 24, 25, 26] (by decide +kernel) (by decide +kernel)
set_option maxRecDepth 20000 in
theorem gX0_whereIs_X0_passesRightOf : GoodIn wsX0_whereIs (wsV RX0 63 RX0 yX0_passesRightOf wsX0_passesRightOf) := goodIn_app (goodIn_of _ (by decide +kernel)) ggX0_whereIs_X0_passesRightOf
theorem dX0_whereIs_0 : decode cX0_whereIs 0 = .ok (.iconst 0, 1) := by decide +kernel
theorem dX0_whereIs_1 : decode cX0_whereIs 1 = .ok (.istore_n 3, 1) := by decide +kernel
theorem dX0_whereIs_2 : decode cX0_whereIs 2 = .ok (.iconst 0, 1) := by decide +kernel
theorem dX0_whereIs_3 : decode cX0_whereIs 3 = .ok (.istore 4, 2) := by decide +kernel
theorem dX0_whereIs_5 : decode cX0_whereIs 5 = .ok (.iload 4, 2) := by decide +kernel
theorem dX0_whereIs_7 : decode cX0_whereIs 7 = .ok (.aload_n 0, 1) := by decide +kernel
theorem dX0_whereIs_8 : decode cX0_whereIs 8 = .ok (.getfield 18, 3) := by decide +kernel
theorem dX0_whereIs_11 : decode cX0_whereIs 11 = .ok (.if_icmp .ge 43, 3) := by decide +kernel
theorem dX0_whereIs_14 : decode cX0_whereIs 14 = .ok (.aload_n 0, 1) := by decide +kernel
theorem dX0_whereIs_15 : decode cX0_whereIs 15 = .ok (.iload 4, 2) := by decide +kernel
theorem dX0_whereIs_17 : decode cX0_whereIs 17 = .ok (.iload_n 1, 1) := by decide +kernel
theorem dX0_whereIs_18 : decode cX0_whereIs 18 = .ok (.iload_n 2, 1) := by decide +kernel
theorem dX0_whereIs_19 : decode cX0_whereIs 19 = .ok (.invokevirtual 59, 3) := by decide +kernel
theorem dX0_whereIs_22 : decode cX0_whereIs 22 = .ok (.ifCond .eq 5, 3) := by decide +kernel
theorem dX0_whereIs_25 : decode cX0_whereIs 25 = .ok (.iconst 1, 1) := by decide +kernel
theorem dX0_whereIs_26 : decode cX0_whereIs 26 = .ok (.ireturn, 1) := by decide +kernel
theorem dX0_whereIs_27 : decode cX0_whereIs 27 = .ok (.aload_n 0, 1) := by decide +kernel
theorem dX0_whereIs_28 : decode cX0_whereIs 28 = .ok (.iload 4, 2) := by decide +kernel
theorem dX0_whereIs_30 : decode cX0_whereIs 30 = .ok (.iload_n 1, 1) := by decide +kernel
theorem dX0_whereIs_31 : decode cX0_whereIs 31 = .ok (.iload_n 2, 1) := by decide +kernel
theorem dX0_whereIs_32 : decode cX0_whereIs 32 = .ok (.invokevirtual 63, 3) := by decide +kernel
theorem dX0_whereIs_35 : decode cX0_whereIs 35 = .ok (.ifCond .eq 13, 3) := by decide +kernel
theorem dX0_whereIs_38 : decode cX0_whereIs 38 = .ok (.iload_n 3, 1) := by decide +kernel
theorem dX0_whereIs_39 : decode cX0_whereIs 39 = .ok (.ifCond .ne 7, 3) := by decide +kernel
theorem dX0_whereIs_42 : decode cX0_whereIs 42 = .ok (.iconst 1, 1) := by decide +kernel
theorem dX0_whereIs_43 : decode cX0_whereIs 43 = .ok (.goto 4, 3) := by decide +kernel
theorem dX0_whereIs_46 : decode cX0_whereIs 46 = .ok (.iconst 0, 1) := by decide +kernel
theorem dX0_whereIs_47 : decode cX0_whereIs 47 = .ok (.istore_n 3, 1) := by decide +kernel
theorem dX0_whereIs_48 : decode cX0_whereIs 48 = .ok (.iinc 4 1, 3) := by decide +kernel
theorem dX0_whereIs_51 : decode cX0_whereIs 51 = .ok (.goto (-46), 3) := by decide +kernel
theorem dX0_whereIs_54 : decode cX0_whereIs 54 = .ok (.iload_n 3, 1) := by decide +kernel
theorem dX0_whereIs_55 : decode cX0_whereIs 55 = .ok (.ifCond .eq 7, 3) := by decide +kernel
theorem dX0_whereIs_58 : decode cX0_whereIs 58 = .ok (.iconst 2, 1) := by decide +kernel
theorem dX0_whereIs_59 : decode cX0_whereIs 59 = .ok (.goto 4, 3) := by decide +kernel
theorem dX0_whereIs_62 : decode cX0_whereIs 62 = .ok (.iconst 0, 1) := by decide +kernel
theorem dX0_whereIs_63 : decode cX0_whereIs 63 = .ok (.ireturn, 1) := by decide +kernel
set_option maxRecDepth 20000 in
theorem ggX0_passesRightOf_X0_leftOf : GoodIn wsX0_passesRightOf wsX0_leftOf := goodIn_r _ [6, 7, 1, 8, 9, 10] (by decide +kernel) (by decide +kernel)
set_option maxRecDepth 20000 in
theorem gX0_passesRightOf_X0_leftOf : GoodIn wsX0_passesRightOf (wsV RX0 22 RX0 yX0_leftOf wsX0_leftOf) := goodIn_app (goodIn_of _ (by decide +kernel)) ggX0_passesRightOf_X0_leftOf
theorem dX0_passesRightOf_0 : decode cX0_passesRightOf 0 = .ok (.aload_n 0, 1) := by decide +kernel
theorem dX0_passesRightOf_1 : decode cX0_passesRightOf 1 = .ok (.getfield 15, 3) := by decide +kernel
theorem dX0_passesRightOf_4 : decode cX0_passesRightOf 4 = .ok (.iload_n 1, 1) := by decide +kernel
theorem dX0_passesRightOf_5 : decode cX0_passesRightOf 5 = .ok (.iaload, 1) := by decide +kernel
theorem dX0_passesRightOf_6 : decode cX0_passesRightOf 6 = .ok (.istore 4, 2) := by decide +kernel
theorem dX0_passesRightOf_8 : decode cX0_passesRightOf 8 = .ok (.aload_n 0, 1) := by decide +kernel
theorem dX0_passesRightOf_9 : decode cX0_passesRightOf 9 = .ok (.getfield 15, 3) := by decide +kernel
theorem dX0_passesRightOf_12 : decode cX0_passesRightOf 12 = .ok (.iload_n 1, 1) := by decide +kernel
theorem dX0_passesRightOf_13 : decode cX0_passesRightOf 13 = .ok (.iconst 1, 1) := by decide +kernel
theorem dX0_passesRightOf_14 : decode cX0_passesRightOf 14 = .ok (.iadd, 1) := by decide +kernel
theorem dX0_passesRightOf_15 : decode cX0_passesRightOf 15 = .ok (.iaload, 1) := by decide +kernel
theorem dX0_passesRightOf_16 : decode cX0_passesRightOf 16 = .ok (.istore 5, 2) := by decide +kernel
theorem dX0_passesRightOf_18 : decode cX0_passesRightOf 18 = .ok (.iload 4, 2) := by decide +kernel
theorem dX0_passesRightOf_20 : decode cX0_passesRightOf 20 = .ok (.iload_n 3, 1) := by decide +kernel
theorem dX0_passesRightOf_21 : decode cX0_passesRightOf 21 = .ok (.if_icmp .gt 25, 3) := by decide +kernel
theorem dX0_passesRightOf_24 : decode cX0_passesRightOf 24 = .ok (.iload_n 3, 1) := by decide +kernel
theorem dX0_passesRightOf_25 : decode cX0_passesRightOf 25 = .ok (.iload 5, 2) := by decide +kernel
theorem dX0_passesRightOf_27 : decode cX0_passesRightOf 27 = .ok (.if_icmp .ge 19, 3) := by decide +kernel
theorem dX0_passesRightOf_30 : decode cX0_passesRightOf 30 = .ok (.aload_n 0, 1) := by decide +kernel
theorem dX0_passesRightOf_31 : decode cX0_passesRightOf 31 = .ok (.iload_n 1, 1) := by decide +kernel
theorem dX0_passesRightOf_32 : decode cX0_passesRightOf 32 = .ok (.iload_n 2, 1) := by decide +kernel
theorem dX0_passesRightOf_33 : decode cX0_passesRightOf 33 = .ok (.iload_n 3, 1) := by decide +kernel
theorem dX0_passesRightOf_34 : decode cX0_passesRightOf 34 = .ok (.invokevirtual 22, 3) := by decide +kernel
theorem dX0_passesRightOf_37 : decode cX0_passesRightOf 37 = .ok (.ifCond .le 7, 3) := by decide +kernel
theorem dX0_passesRightOf_40 : decode cX0_passesRightOf 40 = .ok (.iconst 1, 1) := by decide +kernel
theorem dX0_passesRightOf_41 : decode cX0_passesRightOf 41 = .ok (.goto 4, 3) := by decide +kernel
theorem dX0_passesRightOf_44 : decode cX0_passesRightOf 44 = .ok (.iconst 0, 1) := by decide +kernel
theorem dX0_passesRightOf_45 : decode cX0_passesRightOf 45 = .ok (.ireturn, 1) := by decide +kernel
theorem dX0_passesRightOf_46 : decode cX0_passesRightOf 46 = .ok (.iload 5, 2) := by decide +kernel
theorem dX0_passesRightOf_48 : decode cX0_passesRightOf 48 = .ok (.iload_n 3, 1) := by decide +kernel
theorem dX0_passesRightOf_49 : decode cX0_passesRightOf 49 = .ok (.if_icmp .gt 23, 3) := by decide +kernel
theorem dX0_passesRightOf_52 : decode cX0_passesRightOf 52 = .ok (.iload_n 3, 1) := by decide +kernel
theorem dX0_passesRightOf_53 : decode cX0_passesRightOf 53 = .ok (.iload 4, 2) := by decide +kernel
theorem dX0_passesRightOf_55 : decode cX0_passesRightOf 55 = .ok (.if_icmp .ge 17, 3) := by decide +kernel
theorem dX0_passesRightOf_58 : decode cX0_passesRightOf 58 = .ok (.aload_n 0, 1) := by decide +kernel
theorem dX0_passesRightOf_59 : decode cX0_passesRightOf 59 = .ok (.iload_n 1, 1) := by decide +kernel
theorem dX0_passesRightOf_60 : decode cX0_passesRightOf 60 = .ok (.iload_n 2, 1) := by decide +kernel
theorem dX0_passesRightOf_61 : decode cX0_passesRightOf 61 = .ok (.iload_n 3, 1) := by decide +kernel
theorem dX0_passesRightOf_62 : decode cX0_passesRightOf 62 = .ok (.invokevirtual 22, 3) := by decide +kernel
theorem dX0_passesRightOf_65 : decode cX0_passesRightOf 65 = .ok (.ifCond .ge 7, 3) := by decide +kernel
theorem dX0_passesRightOf_68 : decode cX0_passesRightOf 68 = .ok (.iconst 1, 1) := by decide +kernel
theorem dX0_passesRightOf_69 : decode cX0_passesRightOf 69 = .ok (.goto 4, 3) := by decide +kernel
theorem dX0_passesRightOf_72 : decode cX0_passesRightOf 72 = .ok (.iconst 0, 1) := by decide +kernel
theorem dX0_passesRightOf_73 : decode cX0_passesRightOf 73 = .ok (.ireturn, 1) := by decide +kernel
set_option maxRecDepth 20000 in
theorem ggX1_init_X3_init : GoodIn wsX1_init wsX3_init := goodIn_r _ [10, 11, 2, 3, 12, 13, 14] (by decide +kernel) (by decide +kernel)
set_option maxRecDepth 20000 in
theorem gX1_init_X3_init_n11 : GoodIn wsX1_init (wsX3_init) := ggX1_init_X3_init
theorem dX1_init_0 : decode cX1_init 0 = .ok (.aload_n 0, 1) := by decide +kernel
theorem dX1_init_1 : decode cX1_init 1 = .ok (.invokespecial 3, 3) := by decide +kernel
theorem dX1_init_4 : decode cX1_init 4 = .ok (.aload_n 0, 1) := by decide +kernel
theorem dX1_init_5 : decode cX1_init 5 = .ok (.new 9, 3) := by decide +kernel
theorem dX1_init_8 : decode cX1_init 8 = .ok (.dup, 1) := by decide +kernel
theorem dX1_init_9 : decode cX1_init 9 = .ok (.invokespecial 11, 3) := by decide +kernel
theorem dX1_init_12 : decode cX1_init 12 = .ok (.putfield 12, 3) := by decide +kernel
theorem dX1_init_15 : decode cX1_init 15 = .ok (.aload_n 0, 1) := by decide +kernel
theorem dX1_init_16 : decode cX1_init 16 = .ok (.new 9, 3) := by decide +kernel
theorem dX1_init_19 : decode cX1_init 19 = .ok (.dup, 1) := by decide +kernel
theorem dX1_init_20 : decode cX1_init 20 = .ok (.invokespecial 11, 3) := by decide +kernel
theorem dX1_init_23 : decode cX1_init 23 = .ok (.putfield 18, 3) := by decide +kernel
theorem dX1_init_26 : decode cX1_init 26 = .ok (.return_, 1) := by decide +kernel
theorem dX1_part_0 : decode cX1_part 0 = .ok (.iload_n 1, 1) := by decide +kernel
theorem dX1_part_1 : decode cX1_part 1 = .ok (.ifCond .eq 10, 3) := by decide +kernel
theorem dX1_part_4 : decode cX1_part 4 = .ok (.aload_n 0, 1) := by decide +kernel
theorem dX1_part_5 : decode cX1_part 5 = .ok (.getfield 18, 3) := by decide +kernel
theorem dX1_part_8 : decode cX1_part 8 = .ok (.goto 7, 3) := by decide +kernel
theorem dX1_part_11 : decode cX1_part 11 = .ok (.aload_n 0, 1) := by decide +kernel
theorem dX1_part_12 : decode cX1_part 12 = .ok (.getfield 12, 3) := by decide +kernel
theorem dX1_part_15 : decode cX1_part 15 = .ok (.areturn, 1) := by decide +kernel
set_option maxRecDepth 20000 in
theorem ggX1_become_X3_become : GoodIn wsX1_become wsX3_become := goodIn_r _ [7, 8, 9, 10, 11, 12, 15] (by decide +kernel) (by decide +kernel)
set_option maxRecDepth 20000 in
theorem gX1_become_X3_become : GoodIn wsX1_become (wsV RX1 21 RX3 yX3_become wsX3_become) := goodIn_app (goodIn_of _ (by decide +kernel)) ggX1_become_X3_become
theorem dX1_become_0 : decode cX1_become 0 = .ok (.aload_n 0, 1) := by decide +kernel
theorem dX1_become_1 : decode cX1_become 1 = .ok (.getfield 12, 3) := by decide +kernel
theorem dX1_become_4 : decode cX1_become 4 = .ok (.aload_n 1, 1) := by decide +kernel
theorem dX1_become_5 : decode cX1_become 5 = .ok (.getfield 12, 3) := by decide +kernel
theorem dX1_become_8 : decode cX1_become 8 = .ok (.invokevirtual 21, 3) := by decide +kernel
theorem dX1_become_11 : decode cX1_become 11 = .ok (.aload_n 0, 1) := by decide +kernel
theorem dX1_become_12 : decode cX1_become 12 = .ok (.getfield 18, 3) := by decide +kernel
theorem dX1_become_15 : decode cX1_become 15 = .ok (.aload_n 1, 1) := by decide +kernel
theorem dX1_become_16 : decode cX1_become 16 = .ok (.getfield 18, 3) := by decide +kernel
theorem dX1_become_19 : decode cX1_become 19 = .ok (.invokevirtual 21, 3) := by decide +kernel
theorem dX1_become_22 : decode cX1_become 22 = .ok (.return_, 1) := by decide +kernel
set_option maxRecDepth 20000 in
theorem ggX1_fits_X3_fits : GoodIn wsX1_fits wsX3_fits := goodIn_r _ [7, 8, 9, 10, 11, 14] (by decide +kernel) (by decide +kernel)
set_option maxRecDepth 20000 in
theorem gX1_fits_X3_fits : GoodIn wsX1_fits (wsV RX1 25 RX3 yX3_fits wsX3_fits) := goodIn_app (goodIn_of _ (by decide +kernel)) ggX1_fits_X3_fits
theorem dX1_fits_0 : decode cX1_fits 0 = .ok (.aload_n 0, 1) := by decide +kernel
theorem dX1_fits_1 : decode cX1_fits 1 = .ok (.getfield 12, 3) := by decide +kernel
theorem dX1_fits_4 : decode cX1_fits 4 = .ok (.invokevirtual 25, 3) := by decide +kernel
theorem dX1_fits_7 : decode cX1_fits 7 = .ok (.ifCond .eq 17, 3) := by decide +kernel
theorem dX1_fits_10 : decode cX1_fits 10 = .ok (.aload_n 0, 1) := by decide +kernel
theorem dX1_fits_11 : decode cX1_fits 11 = .ok (.getfield 18, 3) := by decide +kernel
theorem dX1_fits_14 : decode cX1_fits 14 = .ok (.invokevirtual 25, 3) := by decide +kernel
theorem dX1_fits_17 : decode cX1_fits 17 = .ok (.ifCond .eq 7, 3) := by decide +kernel
theorem dX1_fits_20 : decode cX1_fits 20 = .ok (.iconst 1, 1) := by decide +kernel
theorem dX1_fits_21 : decode cX1_fits 21 = .ok (.goto 4, 3) := by decide +kernel
theorem dX1_fits_24 : decode cX1_fits 24 = .ok (.iconst 0, 1) := by decide +kernel
theorem dX1_fits_25 : decode cX1_fits 25 = .ok (.ireturn, 1) := by decide +kernel
set_option maxRecDepth 20000 in
theorem ggX1_countNotZero_X3_countNotZero : GoodIn wsX1_countNotZero wsX3_countNotZero := goodIn_r _ [7, 8, 11] (by decide +kernel) (by decide +kernel)
set_option maxRecDepth 20000 in
theorem gX1_countNotZero_X3_countNotZero : GoodIn wsX1_countNotZero (wsV RX1 29 RX3 yX3_countNotZero wsX3_countNotZero) := goodIn_app (goodIn_of _ (by decide +kernel)) ggX1_countNotZero_X3_countNotZero
theorem dX1_countNotZero_0 : decode cX1_countNotZero 0 = .ok (.aload_n 0, 1) := by decide +kernel
theorem dX1_countNotZero_1 : decode cX1_countNotZero 1 = .ok (.getfield 12, 3) := by decide +kernel
theorem dX1_countNotZero_4 : decode cX1_countNotZero 4 = .ok (.invokevirtual 29, 3) := by decide +kernel
theorem dX1_countNotZero_7 : decode cX1_countNotZero 7 = .ok (.aload_n 0, 1) := by decide +kernel
theorem dX1_countNotZero_8 : decode cX1_countNotZero 8 = .ok (.getfield 18, 3) := by decide +kernel
theorem dX1_countNotZero_11 : decode cX1_countNotZero 11 = .ok (.invokevirtual 29, 3) := by decide +kernel
theorem dX1_countNotZero_14 : decode cX1_countNotZero 14 = .ok (.iadd, 1) := by decide +kernel
theorem dX1_countNotZero_15 : decode cX1_countNotZero 15 = .ok (.ireturn, 1) := by decide +kernel
set_option maxRecDepth 20000 in
theorem ggX1_isRest_X3_at : GoodIn wsX1_isRest wsX3_at := goodIn_r _ [7, 8, 9, 10, 11, 6, 12, 15] (by decide +kernel) (by decide +kernel)
set_option maxRecDepth 20000 in
theorem gX1_isRest_X3_at : GoodIn wsX1_isRest (wsV RX1 33 RX3 yX3_at wsX3_at) := goodIn_app (goodIn_of _ (by decide +kernel)) ggX1_isRest_X3_at
theorem dX1_isRest_0 : decode cX1_isRest 0 = .ok (.aload_n 0, 1) := by decide +kernel
theorem dX1_isRest_1 : decode cX1_isRest 1 = .ok (.getfield 12, 3) := by decide +kernel
theorem dX1_isRest_4 : decode cX1_isRest 4 = .ok (.iload_n 1, 1) := by decide +kernel
theorem dX1_isRest_5 : decode cX1_isRest 5 = .ok (.iload_n 2, 1) := by decide +kernel
theorem dX1_isRest_6 : decode cX1_isRest 6 = .ok (.invokevirtual 33, 3) := by decide +kernel
theorem dX1_isRest_9 : decode cX1_isRest 9 = .ok (.ifCond .ne 19, 3) := by decide +kernel
theorem dX1_isRest_12 : decode cX1_isRest 12 = .ok (.aload_n 0, 1) := by decide +kernel
theorem dX1_isRest_13 : decode cX1_isRest 13 = .ok (.getfield 18, 3) := by decide +kernel
theorem dX1_isRest_16 : decode cX1_isRest 16 = .ok (.iload_n 1, 1) := by decide +kernel
theorem dX1_isRest_17 : decode cX1_isRest 17 = .ok (.iload_n 2, 1) := by decide +kernel
theorem dX1_isRest_18 : decode cX1_isRest 18 = .ok (.invokevirtual 33, 3) := by decide +kernel
theorem dX1_isRest_21 : decode cX1_isRest 21 = .ok (.ifCond .ne 7, 3) := by decide +kernel
theorem dX1_isRest_24 : decode cX1_isRest 24 = .ok (.iconst 1, 1) := by decide +kernel
theorem dX1_isRest_25 : decode cX1_isRest 25 = .ok (.goto 4, 3) := by decide +kernel
theorem dX1_isRest_28 : decode cX1_isRest 28 = .ok (.iconst 0, 1) := by decide +kernel
theorem dX1_isRest_29 : decode cX1_isRest 29 = .ok (.ireturn, 1) := by decide +kernel
set_option maxRecDepth 20000 in
theorem ggX1_sortAt_X3_byX : GoodIn wsX1_sortAt wsX3_byX := goodIn_r _ [7, 8, 15] (by decide +kernel) (by decide +kernel)
set_option maxRecDepth 20000 in
theorem gX1_sortAt_X3_byX : GoodIn wsX1_sortAt (wsV RX1 37 RX3 yX3_byX wsX3_byX) := goodIn_app (goodIn_of _ (by decide +kernel)) ggX1_sortAt_X3_byX
set_option maxRecDepth 20000 in
theorem ggX1_sortAt_X3_byY : GoodIn wsX1_sortAt wsX3_byY := goodIn_r _ [12, 8, 15] (by decide +kernel) (by decide +kernel)
set_option maxRecDepth 20000 in
theorem gX1_sortAt_X3_byY : GoodIn wsX1_sortAt (wsV RX1 40 RX3 yX3_byY wsX3_byY) := goodIn_app (goodIn_of _ (by decide +kernel)) ggX1_sortAt_X3_byY
theorem dX1_sortAt_0 : decode cX1_sortAt 0 = .ok (.aload_n 0, 1) := by decide +kernel
theorem dX1_sortAt_1 : decode cX1_sortAt 1 = .ok (.getfield 12, 3) := by decide +kernel
theorem dX1_sortAt_4 : decode cX1_sortAt 4 = .ok (.iload_n 1, 1) := by decide +kernel
theorem dX1_sortAt_5 : decode cX1_sortAt 5 = .ok (.iload_n 2, 1) := by decide +kernel
theorem dX1_sortAt_6 : decode cX1_sortAt 6 = .ok (.invokevirtual 37, 3) := by decide +kernel
theorem dX1_sortAt_9 : decode cX1_sortAt 9 = .ok (.aload_n 0, 1) := by decide +kernel
theorem dX1_sortAt_10 : decode cX1_sortAt 10 = .ok (.getfield 18, 3) := by decide +kernel
theorem dX1_sortAt_13 : decode cX1_sortAt 13 = .ok (.iload_n 1, 1) := by decide +kernel
theorem dX1_sortAt_14 : decode cX1_sortAt 14 = .ok (.iload_n 2, 1) := by decide +kernel
theorem dX1_sortAt_15 : decode cX1_sortAt 15 = .ok (.invokevirtual 40, 3) := by decide +kernel
theorem dX1_sortAt_18 : decode cX1_sortAt 18 = .ok (.iadd, 1) := by decide +kernel
theorem dX1_sortAt_19 : decode cX1_sortAt 19 = .ok (.istore_n 3, 1) := by decide +kernel
theorem dX1_sortAt_20 : decode cX1_sortAt 20 = .ok (.aload_n 0, 1) := by decide +kernel
theorem dX1_sortAt_21 : decode cX1_sortAt 21 = .ok (.getfield 12, 3) := by decide +kernel
theorem dX1_sortAt_24 : decode cX1_sortAt 24 = .ok (.iload_n 1, 1) := by decide +kernel
theorem dX1_sortAt_25 : decode cX1_sortAt 25 = .ok (.iload_n 2, 1) := by decide +kernel
theorem dX1_sortAt_26 : decode cX1_sortAt 26 = .ok (.invokevirtual 37, 3) := by decide +kernel
theorem dX1_sortAt_29 : decode cX1_sortAt 29 = .ok (.aload_n 0, 1) := by decide +kernel
theorem dX1_sortAt_30 : decode cX1_sortAt 30 = .ok (.getfield 18, 3) := by decide +kernel
theorem dX1_sortAt_33 : decode cX1_sortAt 33 = .ok (.iload_n 1, 1) := by decide +kernel
theorem dX1_sortAt_34 : decode cX1_sortAt 34 = .ok (.iload_n 2, 1) := by decide +kernel
theorem dX1_sortAt_35 : decode cX1_sortAt 35 = .ok (.invokevirtual 40, 3) := by decide +kernel
theorem dX1_sortAt_38 : decode cX1_sortAt 38 = .ok (.imul, 1) := by decide +kernel
theorem dX1_sortAt_39 : decode cX1_sortAt 39 = .ok (.aload_n 0, 1) := by decide +kernel
theorem dX1_sortAt_40 : decode cX1_sortAt 40 = .ok (.getfield 12, 3) := by decide +kernel
theorem dX1_sortAt_43 : decode cX1_sortAt 43 = .ok (.iload_n 1, 1) := by decide +kernel
theorem dX1_sortAt_44 : decode cX1_sortAt 44 = .ok (.iload_n 2, 1) := by decide +kernel
theorem dX1_sortAt_45 : decode cX1_sortAt 45 = .ok (.invokevirtual 40, 3) := by decide +kernel
theorem dX1_sortAt_48 : decode cX1_sortAt 48 = .ok (.aload_n 0, 1) := by decide +kernel
theorem dX1_sortAt_49 : decode cX1_sortAt 49 = .ok (.getfield 18, 3) := by decide +kernel
theorem dX1_sortAt_52 : decode cX1_sortAt 52 = .ok (.iload_n 1, 1) := by decide +kernel
theorem dX1_sortAt_53 : decode cX1_sortAt 53 = .ok (.iload_n 2, 1) := by decide +kernel
theorem dX1_sortAt_54 : decode cX1_sortAt 54 = .ok (.invokevirtual 37, 3) := by decide +kernel
theorem dX1_sortAt_57 : decode cX1_sortAt 57 = .ok (.imul, 1) := by decide +kernel
theorem dX1_sortAt_58 : decode cX1_sortAt 58 = .ok (.isub, 1) := by decide +kernel
theorem dX1_sortAt_59 : decode cX1_sortAt 59 = .ok (.istore 4, 2) := by decide +kernel
theorem dX1_sortAt_61 : decode cX1_sortAt 61 = .ok (.iload 4, 2) := by decide +kernel
theorem dX1_sortAt_63 : decode cX1_sortAt 63 = .ok (.ifCond .ne 5, 3) := by decide +kernel
theorem dX1_sortAt_66 : decode cX1_sortAt 66 = .ok (.iconst 5, 1) := by decide +kernel
theorem dX1_sortAt_67 : decode cX1_sortAt 67 = .ok (.ireturn, 1) := by decide +kernel
theorem dX1_sortAt_68 : decode cX1_sortAt 68 = .ok (.iload 4, 2) := by decide +kernel
theorem dX1_sortAt_70 : decode cX1_sortAt 70 = .ok (.ifCond .ge 5, 3) := by decide +kernel
theorem dX1_sortAt_73 : decode cX1_sortAt 73 = .ok (.iconst 1, 1) := by decide +kernel
theorem dX1_sortAt_74 : decode cX1_sortAt 74 = .ok (.ireturn, 1) := by decide +kernel
theorem dX1_sortAt_75 : decode cX1_sortAt 75 = .ok (.iload_n 3, 1) := by decide +kernel
theorem dX1_sortAt_76 : decode cX1_sortAt 76 = .ok (.iload_n 3, 1) := by decide +kernel
theorem dX1_sortAt_77 : decode cX1_sortAt 77 = .ok (.imul, 1) := by decide +kernel
theorem dX1_sortAt_78 : decode cX1_sortAt 78 = .ok (.iconst 4, 1) := by decide +kernel
theorem dX1_sortAt_79 : decode cX1_sortAt 79 = .ok (.iload 4, 2) := by decide +kernel
theorem dX1_sortAt_81 : decode cX1_sortAt 81 = .ok (.imul, 1) := by decide +kernel
theorem dX1_sortAt_82 : decode cX1_sortAt 82 = .ok (.if_icmp .lt 5, 3) := by decide +kernel
theorem dX1_sortAt_85 : decode cX1_sortAt 85 = .ok (.iconst 2, 1) := by decide +kernel
theorem dX1_sortAt_86 : decode cX1_sortAt 86 = .ok (.ireturn, 1) := by decide +kernel
theorem dX1_sortAt_87 : decode cX1_sortAt 87 = .ok (.iload_n 3, 1) := by decide +kernel
theorem dX1_sortAt_88 : decode cX1_sortAt 88 = .ok (.ifCond .eq 7, 3) := by decide +kernel
theorem dX1_sortAt_91 : decode cX1_sortAt 91 = .ok (.iconst 3, 1) := by decide +kernel
theorem dX1_sortAt_92 : decode cX1_sortAt 92 = .ok (.goto 4, 3) := by decide +kernel
theorem dX1_sortAt_95 : decode cX1_sortAt 95 = .ok (.iconst 4, 1) := by decide +kernel
theorem dX1_sortAt_96 : decode cX1_sortAt 96 = .ok (.ireturn, 1) := by decide +kernel
set_option maxRecDepth 20000 in
theorem ggX1_spreadAt_X3_byX : GoodIn wsX1_spreadAt wsX3_byX := goodIn_r _ [7, 8, 15] (by decide +kernel) (by decide +kernel)
set_option maxRecDepth 20000 in
theorem gX1_spreadAt_X3_byX : GoodIn wsX1_spreadAt (wsV RX1 37 RX3 yX3_byX wsX3_byX) := goodIn_app (goodIn_of _ (by decide +kernel)) ggX1_spreadAt_X3_byX
set_option maxRecDepth 20000 in
theorem ggX1_spreadAt_X3_byY : GoodIn wsX1_spreadAt wsX3_byY := goodIn_r _ [12, 8, 15] (by decide +kernel) (by decide +kernel)
set_option maxRecDepth 20000 in
theorem gX1_spreadAt_X3_byY : GoodIn wsX1_spreadAt (wsV RX1 40 RX3 yX3_byY wsX3_byY) := goodIn_app (goodIn_of _ (by decide +kernel)) ggX1_spreadAt_X3_byY
theorem dX1_spreadAt_0 : decode cX1_spreadAt 0 = .ok (.aload_n 0, 1) := by decide +kernel
theorem dX1_spreadAt_1 : decode cX1_spreadAt 1 = .ok (.getfield 12, 3) := by decide +kernel
theorem dX1_spreadAt_4 : decode cX1_spreadAt 4 = .ok (.iload_n 1, 1) := by decide +kernel
theorem dX1_spreadAt_5 : decode cX1_spreadAt 5 = .ok (.iload_n 2, 1) := by decide +kernel
theorem dX1_spreadAt_6 : decode cX1_spreadAt 6 = .ok (.invokevirtual 37, 3) := by decide +kernel
theorem dX1_spreadAt_9 : decode cX1_spreadAt 9 = .ok (.aload_n 0, 1) := by decide +kernel
theorem dX1_spreadAt_10 : decode cX1_spreadAt 10 = .ok (.getfield 18, 3) := by decide +kernel
theorem dX1_spreadAt_13 : decode cX1_spreadAt 13 = .ok (.iload_n 1, 1) := by decide +kernel
theorem dX1_spreadAt_14 : decode cX1_spreadAt 14 = .ok (.iload_n 2, 1) := by decide +kernel
theorem dX1_spreadAt_15 : decode cX1_spreadAt 15 = .ok (.invokevirtual 40, 3) := by decide +kernel
theorem dX1_spreadAt_18 : decode cX1_spreadAt 18 = .ok (.iadd, 1) := by decide +kernel
theorem dX1_spreadAt_19 : decode cX1_spreadAt 19 = .ok (.ireturn, 1) := by decide +kernel
set_option maxRecDepth 20000 in
theorem ggX1_isFree_X1_spreadAt : GoodIn wsX1_isFree wsX1_spreadAt := goodIn_r _ [5, 6, 7, 8, 9, 10, 11, 12, 13, 14, 15, 16, 17, 18, 19, 20] (by decide +kernel) (by decide +kernel)
set_option maxRecDepth 20000 in
theorem gX1_isFree_X1_spreadAt : GoodIn wsX1_isFree (wsV RX1 43 RX1 yX1_spreadAt wsX1_spreadAt) := goodIn_app (goodIn_of _ (by decide +kernel)) ggX1_isFree_X1_spreadAt
theorem dX1_isFree_0 : decode cX1_isFree 0 = .ok (.aload_n 0, 1) := by decide +kernel
theorem dX1_isFree_1 : decode cX1_isFree 1 = .ok (.iconst 0, 1) := by decide +kernel
theorem dX1_isFree_2 : decode cX1_isFree 2 = .ok (.iconst 0, 1) := by decide +kernel
theorem dX1_isFree_3 : decode cX1_isFree 3 = .ok (.invokevirtual 43, 3) := by decide +kernel
theorem dX1_isFree_6 : decode cX1_isFree 6 = .ok (.ifCond .ne 25, 3) := by decide +kernel
theorem dX1_isFree_9 : decode cX1_isFree 9 = .ok (.aload_n 0, 1) := by decide +kernel
theorem dX1_isFree_10 : decode cX1_isFree 10 = .ok (.iconst 1, 1) := by decide +kernel
theorem dX1_isFree_11 : decode cX1_isFree 11 = .ok (.iconst 0, 1) := by decide +kernel
theorem dX1_isFree_12 : decode cX1_isFree 12 = .ok (.invokevirtual 43, 3) := by decide +kernel
theorem dX1_isFree_15 : decode cX1_isFree 15 = .ok (.ifCond .ne 16, 3) := by decide +kernel
theorem dX1_isFree_18 : decode cX1_isFree 18 = .ok (.aload_n 0, 1) := by decide +kernel
theorem dX1_isFree_19 : decode cX1_isFree 19 = .ok (.iconst 0, 1) := by decide +kernel
theorem dX1_isFree_20 : decode cX1_isFree 20 = .ok (.iconst 1, 1) := by decide +kernel
theorem dX1_isFree_21 : decode cX1_isFree 21 = .ok (.invokevirtual 43, 3) := by decide +kernel
theorem dX1_isFree_24 : decode cX1_isFree 24 = .ok (.ifCond .ne 7, 3) := by decide +kernel
theorem dX1_isFree_27 : decode cX1_isFree 27 = .ok (.iconst 1, 1) := by decide +kernel
theorem dX1_isFree_28 : decode cX1_isFree 28 = .ok (.goto 4, 3) := by decide +kernel
theorem dX1_isFree_31 : decode cX1_isFree 31 = .ok (.iconst 0, 1) := by decide +kernel
theorem dX1_isFree_32 : decode cX1_isFree 32 = .ok (.ireturn, 1) := by decide +kernel
set_option maxRecDepth 20000 in
theorem ggX1_lastKind_X1_isFree : GoodIn wsX1_lastKind wsX1_isFree := goodIn_r _ [8, 9, 10, 11, 7, 12, 1, 2, 13, 14, 15, 16, 17, 18, 19, 20, 21, 22, 27, 28, 29] (by decide +kernel) (by decide +kernel)
set_option maxRecDepth 20000 in
theorem gX1_lastKind_X1_isFree : GoodIn wsX1_lastKind (wsV RX1 46 RX1 yX1_isFree wsX1_isFree) := goodIn_app (goodIn_of _ (by decide +kernel)) ggX1_lastKind_X1_isFree
set_option maxRecDepth 20000 in
theorem ggX1_lastKind_X3_hasSquares : GoodIn wsX1_lastKind wsX3_hasSquares := goodIn_r _ [26, 18, 29] (by decide +kernel) (by decide +kernel)
set_option maxRecDepth 20000 in
theorem gX1_lastKind_X3_hasSquares : GoodIn wsX1_lastKind (wsV RX1 49 RX3 yX3_hasSquares wsX3_hasSquares) := goodIn_app (goodIn_of _ (by decide +kernel)) ggX1_lastKind_X3_hasSquares
theorem dX1_lastKind_0 : decode cX1_lastKind 0 = .ok (.aload_n 0, 1) := by decide +kernel
theorem dX1_lastKind_1 : decode cX1_lastKind 1 = .ok (.invokevirtual 46, 3) := by decide +kernel
theorem dX1_lastKind_4 : decode cX1_lastKind 4 = .ok (.ifCond .eq 5, 3) := by decide +kernel
theorem dX1_lastKind_7 : decode cX1_lastKind 7 = .ok (.iconst 3, 1) := by decide +kernel
theorem dX1_lastKind_8 : decode cX1_lastKind 8 = .ok (.ireturn, 1) := by decide +kernel
theorem dX1_lastKind_9 : decode cX1_lastKind 9 = .ok (.aload_n 0, 1) := by decide +kernel
theorem dX1_lastKind_10 : decode cX1_lastKind 10 = .ok (.getfield 12, 3) := by decide +kernel
theorem dX1_lastKind_13 : decode cX1_lastKind 13 = .ok (.invokevirtual 49, 3) := by decide +kernel
theorem dX1_lastKind_16 : decode cX1_lastKind 16 = .ok (.ifCond .ne 13, 3) := by decide +kernel
theorem dX1_lastKind_19 : decode cX1_lastKind 19 = .ok (.aload_n 0, 1) := by decide +kernel
theorem dX1_lastKind_20 : decode cX1_lastKind 20 = .ok (.getfield 18, 3) := by decide +kernel
theorem dX1_lastKind_23 : decode cX1_lastKind 23 = .ok (.invokevirtual 49, 3) := by decide +kernel
theorem dX1_lastKind_26 : decode cX1_lastKind 26 = .ok (.ifCond .eq 5, 3) := by decide +kernel
theorem dX1_lastKind_29 : decode cX1_lastKind 29 = .ok (.iconst 0, 1) := by decide +kernel
theorem dX1_lastKind_30 : decode cX1_lastKind 30 = .ok (.ireturn, 1) := by decide +kernel
theorem dX1_lastKind_31 : decode cX1_lastKind 31 = .ok (.aload_n 0, 1) := by decide +kernel
theorem dX1_lastKind_32 : decode cX1_lastKind 32 = .ok (.getfield 12, 3) := by decide +kernel
theorem dX1_lastKind_35 : decode cX1_lastKind 35 = .ok (.getfield 52, 3) := by decide +kernel
theorem dX1_lastKind_38 : decode cX1_lastKind 38 = .ok (.iconst 0, 1) := by decide +kernel
theorem dX1_lastKind_39 : decode cX1_lastKind 39 = .ok (.iaload, 1) := by decide +kernel
theorem dX1_lastKind_40 : decode cX1_lastKind 40 = .ok (.ifCond .ne 19, 3) := by decide +kernel
theorem dX1_lastKind_43 : decode cX1_lastKind 43 = .ok (.aload_n 0, 1) := by decide +kernel
theorem dX1_lastKind_44 : decode cX1_lastKind 44 = .ok (.getfield 18, 3) := by decide +kernel
theorem dX1_lastKind_47 : decode cX1_lastKind 47 = .ok (.getfield 52, 3) := by decide +kernel
theorem dX1_lastKind_50 : decode cX1_lastKind 50 = .ok (.iconst 0, 1) := by decide +kernel
theorem dX1_lastKind_51 : decode cX1_lastKind 51 = .ok (.iaload, 1) := by decide +kernel
theorem dX1_lastKind_52 : decode cX1_lastKind 52 = .ok (.ifCond .ne 7, 3) := by decide +kernel
theorem dX1_lastKind_55 : decode cX1_lastKind 55 = .ok (.iconst 2, 1) := by decide +kernel
theorem dX1_lastKind_56 : decode cX1_lastKind 56 = .ok (.goto 4, 3) := by decide +kernel
theorem dX1_lastKind_59 : decode cX1_lastKind 59 = .ok (.iconst 1, 1) := by decide +kernel
theorem dX1_lastKind_60 : decode cX1_lastKind 60 = .ok (.ireturn, 1) := by decide +kernel
theorem dX2_init_0 : decode cX2_init 0 = .ok (.aload_n 0, 1) := by decide +kernel
theorem dX2_init_1 : decode cX2_init 1 = .ok (.invokespecial 5, 3) := by decide +kernel
theorem dX2_init_4 : decode cX2_init 4 = .ok (.aload_n 0, 1) := by decide +kernel
theorem dX2_init_5 : decode cX2_init 5 = .ok (.bipush 25, 2) := by decide +kernel
theorem dX2_init_7 : decode cX2_init 7 = .ok (.bipush 31, 2) := by decide +kernel
theorem dX2_init_9 : decode cX2_init 9 = .ok (.multianewarray 11 2, 4) := by decide +kernel
theorem dX2_init_13 : decode cX2_init 13 = .ok (.putfield 13, 3) := by decide +kernel
theorem dX2_init_16 : decode cX2_init 16 = .ok (.aload_n 0, 1) := by decide +kernel
theorem dX2_init_17 : decode cX2_init 17 = .ok (.iconst 0, 1) := by decide +kernel
theorem dX2_init_18 : decode cX2_init 18 = .ok (.putfield 16, 3) := by decide +kernel
theorem dX2_init_21 : decode cX2_init 21 = .ok (.aload_n 0, 1) := by decide +kernel
theorem dX2_init_22 : decode cX2_init 22 = .ok (.bipush 24, 2) := by decide +kernel
theorem dX2_init_24 : decode cX2_init 24 = .ok (.putfield 20, 3) := by decide +kernel
theorem dX2_init_27 : decode cX2_init 27 = .ok (.return_, 1) := by decide +kernel
theorem dX2_remember_0 : decode cX2_remember 0 = .ok (.aload_n 0, 1) := by decide +kernel
theorem dX2_remember_1 : decode cX2_remember 1 = .ok (.aload_n 0, 1) := by decide +kernel
theorem dX2_remember_2 : decode cX2_remember 2 = .ok (.getfield 20, 3) := by decide +kernel
theorem dX2_remember_5 : decode cX2_remember 5 = .ok (.iconst 1, 1) := by decide +kernel
theorem dX2_remember_6 : decode cX2_remember 6 = .ok (.iadd, 1) := by decide +kernel
theorem dX2_remember_7 : decode cX2_remember 7 = .ok (.bipush 25, 2) := by decide +kernel
theorem dX2_remember_9 : decode cX2_remember 9 = .ok (.if_icmp .ge 12, 3) := by decide +kernel
theorem dX2_remember_12 : decode cX2_remember 12 = .ok (.aload_n 0, 1) := by decide +kernel
theorem dX2_remember_13 : decode cX2_remember 13 = .ok (.getfield 20, 3) := by decide +kernel
theorem dX2_remember_16 : decode cX2_remember 16 = .ok (.iconst 1, 1) := by decide +kernel
theorem dX2_remember_17 : decode cX2_remember 17 = .ok (.iadd, 1) := by decide +kernel
theorem dX2_remember_18 : decode cX2_remember 18 = .ok (.goto 4, 3) := by decide +kernel
theorem dX2_remember_21 : decode cX2_remember 21 = .ok (.iconst 0, 1) := by decide +kernel
theorem dX2_remember_22 : decode cX2_remember 22 = .ok (.putfield 20, 3) := by decide +kernel
theorem dX2_remember_25 : decode cX2_remember 25 = .ok (.aload_n 0, 1) := by decide +kernel
theorem dX2_remember_26 : decode cX2_remember 26 = .ok (.aload_n 0, 1) := by decide +kernel
theorem dX2_remember_27 : decode cX2_remember 27 = .ok (.getfield 16, 3) := by decide +kernel
theorem dX2_remember_30 : decode cX2_remember 30 = .ok (.iconst 1, 1) := by decide +kernel
theorem dX2_remember_31 : decode cX2_remember 31 = .ok (.iadd, 1) := by decide +kernel
theorem dX2_remember_32 : decode cX2_remember 32 = .ok (.bipush 25, 2) := by decide +kernel
theorem dX2_remember_34 : decode cX2_remember 34 = .ok (.invokestatic 23, 3) := by decide +kernel
theorem dX2_remember_37 : decode cX2_remember 37 = .ok (.putfield 16, 3) := by decide +kernel
theorem dX2_remember_40 : decode cX2_remember 40 = .ok (.aload_n 0, 1) := by decide +kernel
theorem dX2_remember_41 : decode cX2_remember 41 = .ok (.getfield 13, 3) := by decide +kernel
theorem dX2_remember_44 : decode cX2_remember 44 = .ok (.aload_n 0, 1) := by decide +kernel
theorem dX2_remember_45 : decode cX2_remember 45 = .ok (.getfield 20, 3) := by decide +kernel
theorem dX2_remember_48 : decode cX2_remember 48 = .ok (.aaload, 1) := by decide +kernel
theorem dX2_remember_49 : decode cX2_remember 49 = .ok (.astore_n 3, 1) := by decide +kernel
theorem dX2_remember_50 : decode cX2_remember 50 = .ok (.aload_n 1, 1) := by decide +kernel
theorem dX2_remember_51 : decode cX2_remember 51 = .ok (.getfield 29, 3) := by decide +kernel
theorem dX2_remember_54 : decode cX2_remember 54 = .ok (.getfield 35, 3) := by decide +kernel
theorem dX2_remember_57 : decode cX2_remember 57 = .ok (.iconst 0, 1) := by decide +kernel
theorem dX2_remember_58 : decode cX2_remember 58 = .ok (.aload_n 3, 1) := by decide +kernel
theorem dX2_remember_59 : decode cX2_remember 59 = .ok (.iconst 0, 1) := by decide +kernel
theorem dX2_remember_60 : decode cX2_remember 60 = .ok (.bipush 6, 2) := by decide +kernel
theorem dX2_remember_62 : decode cX2_remember 62 = .ok (.invokestatic 41, 3) := by decide +kernel
theorem dX2_remember_65 : decode cX2_remember 65 = .ok (.aload_n 1, 1) := by decide +kernel
theorem dX2_remember_66 : decode cX2_remember 66 = .ok (.getfield 47, 3) := by decide +kernel
theorem dX2_remember_69 : decode cX2_remember 69 = .ok (.getfield 35, 3) := by decide +kernel
theorem dX2_remember_72 : decode cX2_remember 72 = .ok (.iconst 0, 1) := by decide +kernel
theorem dX2_remember_73 : decode cX2_remember 73 = .ok (.aload_n 3, 1) := by decide +kernel
theorem dX2_remember_74 : decode cX2_remember 74 = .ok (.bipush 6, 2) := by decide +kernel
theorem dX2_remember_76 : decode cX2_remember 76 = .ok (.bipush 6, 2) := by decide +kernel
theorem dX2_remember_78 : decode cX2_remember 78 = .ok (.invokestatic 41, 3) := by decide +kernel
theorem dX2_remember_81 : decode cX2_remember 81 = .ok (.aload_n 3, 1) := by decide +kernel
theorem dX2_remember_82 : decode cX2_remember 82 = .ok (.bipush 12, 2) := by decide +kernel
theorem dX2_remember_84 : decode cX2_remember 84 = .ok (.aload_n 2, 1) := by decide +kernel
theorem dX2_remember_85 : decode cX2_remember 85 = .ok (.getfield 50, 3) := by decide +kernel
theorem dX2_remember_88 : decode cX2_remember 88 = .ok (.iastore, 1) := by decide +kernel
theorem dX2_remember_89 : decode cX2_remember 89 = .ok (.aload_n 2, 1) := by decide +kernel
theorem dX2_remember_90 : decode cX2_remember 90 = .ok (.getfield 53, 3) := by decide +kernel
theorem dX2_remember_93 : decode cX2_remember 93 = .ok (.iconst 0, 1) := by decide +kernel
theorem dX2_remember_94 : decode cX2_remember 94 = .ok (.aload_n 3, 1) := by decide +kernel
theorem dX2_remember_95 : decode cX2_remember 95 = .ok (.bipush 13, 2) := by decide +kernel
theorem dX2_remember_97 : decode cX2_remember 97 = .ok (.bipush 9, 2) := by decide +kernel
theorem dX2_remember_99 : decode cX2_remember 99 = .ok (.invokestatic 41, 3) := by decide +kernel
theorem dX2_remember_102 : decode cX2_remember 102 = .ok (.aload_n 2, 1) := by decide +kernel
theorem dX2_remember_103 : decode cX2_remember 103 = .ok (.getfield 56, 3) := by decide +kernel
theorem dX2_remember_106 : decode cX2_remember 106 = .ok (.iconst 0, 1) := by decide +kernel
theorem dX2_remember_107 : decode cX2_remember 107 = .ok (.aload_n 3, 1) := by decide +kernel
theorem dX2_remember_108 : decode cX2_remember 108 = .ok (.bipush 22, 2) := by decide +kernel
theorem dX2_remember_110 : decode cX2_remember 110 = .ok (.bipush 9, 2) := by decide +kernel
theorem dX2_remember_112 : decode cX2_remember 112 = .ok (.invokestatic 41, 3) := by decide +kernel
theorem dX2_remember_115 : decode cX2_remember 115 = .ok (.return_, 1) := by decide +kernel
theorem dX2_bringBack_0 : decode cX2_bringBack 0 = .ok (.aload_n 0, 1) := by decide +kernel
theorem dX2_bringBack_1 : decode cX2_bringBack 1 = .ok (.getfield 16, 3) := by decide +kernel
theorem dX2_bringBack_4 : decode cX2_bringBack 4 = .ok (.ifCond .ne 4, 3) := by decide +kernel
theorem dX2_bringBack_7 : decode cX2_bringBack 7 = .ok (.return_, 1) := by decide +kernel
theorem dX2_bringBack_8 : decode cX2_bringBack 8 = .ok (.aload_n 0, 1) := by decide +kernel
theorem dX2_bringBack_9 : decode cX2_bringBack 9 = .ok (.getfield 13, 3) := by decide +kernel
theorem dX2_bringBack_12 : decode cX2_bringBack 12 = .ok (.aload_n 0, 1) := by decide +kernel
theorem dX2_bringBack_13 : decode cX2_bringBack 13 = .ok (.getfield 20, 3) := by decide +kernel
theorem dX2_bringBack_16 : decode cX2_bringBack 16 = .ok (.aaload, 1) := by decide +kernel
theorem dX2_bringBack_17 : decode cX2_bringBack 17 = .ok (.astore_n 3, 1) := by decide +kernel
theorem dX2_bringBack_18 : decode cX2_bringBack 18 = .ok (.aload_n 3, 1) := by decide +kernel
theorem dX2_bringBack_19 : decode cX2_bringBack 19 = .ok (.iconst 0, 1) := by decide +kernel
theorem dX2_bringBack_20 : decode cX2_bringBack 20 = .ok (.aload_n 1, 1) := by decide +kernel
theorem dX2_bringBack_21 : decode cX2_bringBack 21 = .ok (.getfield 29, 3) := by decide +kernel
theorem dX2_bringBack_24 : decode cX2_bringBack 24 = .ok (.getfield 35, 3) := by decide +kernel
theorem dX2_bringBack_27 : decode cX2_bringBack 27 = .ok (.iconst 0, 1) := by decide +kernel
theorem dX2_bringBack_28 : decode cX2_bringBack 28 = .ok (.bipush 6, 2) := by decide +kernel
theorem dX2_bringBack_30 : decode cX2_bringBack 30 = .ok (.invokestatic 41, 3) := by decide +kernel
theorem dX2_bringBack_33 : decode cX2_bringBack 33 = .ok (.aload_n 3, 1) := by decide +kernel
theorem dX2_bringBack_34 : decode cX2_bringBack 34 = .ok (.bipush 6, 2) := by decide +kernel
theorem dX2_bringBack_36 : decode cX2_bringBack 36 = .ok (.aload_n 1, 1) := by decide +kernel
theorem dX2_bringBack_37 : decode cX2_bringBack 37 = .ok (.getfield 47, 3) := by decide +kernel
theorem dX2_bringBack_40 : decode cX2_bringBack 40 = .ok (.getfield 35, 3) := by decide +kernel
theorem dX2_bringBack_43 : decode cX2_bringBack 43 = .ok (.iconst 0, 1) := by decide +kernel
theorem dX2_bringBack_44 : decode cX2_bringBack 44 = .ok (.bipush 6, 2) := by decide +kernel
theorem dX2_bringBack_46 : decode cX2_bringBack 46 = .ok (.invokestatic 41, 3) := by decide +kernel
theorem dX2_bringBack_49 : decode cX2_bringBack 49 = .ok (.aload_n 2, 1) := by decide +kernel
theorem dX2_bringBack_50 : decode cX2_bringBack 50 = .ok (.aload_n 3, 1) := by decide +kernel
theorem dX2_bringBack_51 : decode cX2_bringBack 51 = .ok (.bipush 12, 2) := by decide +kernel
theorem dX2_bringBack_53 : decode cX2_bringBack 53 = .ok (.iaload, 1) := by decide +kernel
theorem dX2_bringBack_54 : decode cX2_bringBack 54 = .ok (.putfield 50, 3) := by decide +kernel
theorem dX2_bringBack_57 : decode cX2_bringBack 57 = .ok (.aload_n 3, 1) := by decide +kernel
theorem dX2_bringBack_58 : decode cX2_bringBack 58 = .ok (.bipush 13, 2) := by decide +kernel
theorem dX2_bringBack_60 : decode cX2_bringBack 60 = .ok (.aload_n 2, 1) := by decide +kernel
theorem dX2_bringBack_61 : decode cX2_bringBack 61 = .ok (.getfield 53, 3) := by decide +kernel
theorem dX2_bringBack_64 : decode cX2_bringBack 64 = .ok (.iconst 0, 1) := by decide +kernel
theorem dX2_bringBack_65 : decode cX2_bringBack 65 = .ok (.bipush 9, 2) := by decide +kernel
theorem dX2_bringBack_67 : decode cX2_bringBack 67 = .ok (.invokestatic 41, 3) := by decide +kernel
theorem dX2_bringBack_70 : decode cX2_bringBack 70 = .ok (.aload_n 3, 1) := by decide +kernel
theorem dX2_bringBack_71 : decode cX2_bringBack 71 = .ok (.bipush 22, 2) := by decide +kernel
theorem dX2_bringBack_73 : decode cX2_bringBack 73 = .ok (.aload_n 2, 1) := by decide +kernel
theorem dX2_bringBack_74 : decode cX2_bringBack 74 = .ok (.getfield 56, 3) := by decide +kernel
theorem dX2_bringBack_77 : decode cX2_bringBack 77 = .ok (.iconst 0, 1) := by decide +kernel
theorem dX2_bringBack_78 : decode cX2_bringBack 78 = .ok (.bipush 9, 2) := by decide +kernel
theorem dX2_bringBack_80 : decode cX2_bringBack 80 = .ok (.invokestatic 41, 3) := by decide +kernel
theorem dX2_bringBack_83 : decode cX2_bringBack 83 = .ok (.aload_n 0, 1) := by decide +kernel
theorem dX2_bringBack_84 : decode cX2_bringBack 84 = .ok (.aload_n 0, 1) := by decide +kernel
theorem dX2_bringBack_85 : decode cX2_bringBack 85 = .ok (.getfield 20, 3) := by decide +kernel
theorem dX2_bringBack_88 : decode cX2_bringBack 88 = .ok (.ifCond .le 12, 3) := by decide +kernel
theorem dX2_bringBack_91 : decode cX2_bringBack 91 = .ok (.aload_n 0, 1) := by decide +kernel
theorem dX2_bringBack_92 : decode cX2_bringBack 92 = .ok (.getfield 20, 3) := by decide +kernel
theorem dX2_bringBack_95 : decode cX2_bringBack 95 = .ok (.iconst 1, 1) := by decide +kernel
theorem dX2_bringBack_96 : decode cX2_bringBack 96 = .ok (.isub, 1) := by decide +kernel
theorem dX2_bringBack_97 : decode cX2_bringBack 97 = .ok (.goto 5, 3) := by decide +kernel
theorem dX2_bringBack_100 : decode cX2_bringBack 100 = .ok (.bipush 24, 2) := by decide +kernel
theorem dX2_bringBack_102 : decode cX2_bringBack 102 = .ok (.putfield 20, 3) := by decide +kernel
theorem dX2_bringBack_105 : decode cX2_bringBack 105 = .ok (.aload_n 0, 1) := by decide +kernel
theorem dX2_bringBack_106 : decode cX2_bringBack 106 = .ok (.dup, 1) := by decide +kernel
theorem dX2_bringBack_107 : decode cX2_bringBack 107 = .ok (.getfield 16, 3) := by decide +kernel
theorem dX2_bringBack_110 : decode cX2_bringBack 110 = .ok (.iconst 1, 1) := by decide +kernel
theorem dX2_bringBack_111 : decode cX2_bringBack 111 = .ok (.isub, 1) := by decide +kernel
theorem dX2_bringBack_112 : decode cX2_bringBack 112 = .ok (.putfield 16, 3) := by decide +kernel
theorem dX2_bringBack_115 : decode cX2_bringBack 115 = .ok (.return_, 1) := by decide +kernel
theorem dX3_init_0 : decode cX3_init 0 = .ok (.aload_n 0, 1) := by decide +kernel
theorem dX3_init_1 : decode cX3_init 1 = .ok (.invokespecial 3, 3) := by decide +kernel
theorem dX3_init_4 : decode cX3_init 4 = .ok (.aload_n 0, 1) := by decide +kernel
theorem dX3_init_5 : decode cX3_init 5 = .ok (.bipush 6, 2) := by decide +kernel
theorem dX3_init_7 : decode cX3_init 7 = .ok (.newarray .int, 2) := by decide +kernel
theorem dX3_init_9 : decode cX3_init 9 = .ok (.putfield 9, 3) := by decide +kernel
theorem dX3_init_12 : decode cX3_init 12 = .ok (.return_, 1) := by decide +kernel
set_option maxRecDepth 20000 in
theorem ggX3_at_X3_squaresAt : GoodIn wsX3_at wsX3_squaresAt := goodIn_r _ [6, 1, 7] (by decide +kernel) (by decide +kernel)
set_option maxRecDepth 20000 in
theorem gX3_at_X3_squaresAt : GoodIn wsX3_at (wsV RX3 15 RX3 yX3_squaresAt wsX3_squaresAt) := goodIn_app (goodIn_of _ (by decide +kernel)) ggX3_at_X3_squaresAt
theorem dX3_at_0 : decode cX3_at 0 = .ok (.aload_n 0, 1) := by decide +kernel
theorem dX3_at_1 : decode cX3_at 1 = .ok (.getfield 9, 3) := by decide +kernel
theorem dX3_at_4 : decode cX3_at 4 = .ok (.iconst 0, 1) := by decide +kernel
theorem dX3_at_5 : decode cX3_at 5 = .ok (.iaload, 1) := by decide +kernel
theorem dX3_at_6 : decode cX3_at 6 = .ok (.aload_n 0, 1) := by decide +kernel
theorem dX3_at_7 : decode cX3_at 7 = .ok (.getfield 9, 3) := by decide +kernel
theorem dX3_at_10 : decode cX3_at 10 = .ok (.iconst 1, 1) := by decide +kernel
theorem dX3_at_11 : decode cX3_at 11 = .ok (.iaload, 1) := by decide +kernel
theorem dX3_at_12 : decode cX3_at 12 = .ok (.iload_n 1, 1) := by decide +kernel
theorem dX3_at_13 : decode cX3_at 13 = .ok (.imul, 1) := by decide +kernel
theorem dX3_at_14 : decode cX3_at 14 = .ok (.iadd, 1) := by decide +kernel
theorem dX3_at_15 : decode cX3_at 15 = .ok (.aload_n 0, 1) := by decide +kernel
theorem dX3_at_16 : decode cX3_at 16 = .ok (.getfield 9, 3) := by decide +kernel
theorem dX3_at_19 : decode cX3_at 19 = .ok (.iconst 2, 1) := by decide +kernel
theorem dX3_at_20 : decode cX3_at 20 = .ok (.iaload, 1) := by decide +kernel
theorem dX3_at_21 : decode cX3_at 21 = .ok (.iload_n 2, 1) := by decide +kernel
theorem dX3_at_22 : decode cX3_at 22 = .ok (.imul, 1) := by decide +kernel
theorem dX3_at_23 : decode cX3_at 23 = .ok (.iadd, 1) := by decide +kernel
theorem dX3_at_24 : decode cX3_at 24 = .ok (.aload_n 0, 1) := by decide +kernel
theorem dX3_at_25 : decode cX3_at 25 = .ok (.iload_n 1, 1) := by decide +kernel
theorem dX3_at_26 : decode cX3_at 26 = .ok (.iload_n 2, 1) := by decide +kernel
theorem dX3_at_27 : decode cX3_at 27 = .ok (.invokevirtual 15, 3) := by decide +kernel
theorem dX3_at_30 : decode cX3_at 30 = .ok (.iadd, 1) := by decide +kernel
theorem dX3_at_31 : decode cX3_at 31 = .ok (.ireturn, 1) := by decide +kernel
theorem dX3_squaresAt_0 : decode cX3_squaresAt 0 = .ok (.aload_n 0, 1) := by decide +kernel
theorem dX3_squaresAt_1 : decode cX3_squaresAt 1 = .ok (.getfield 9, 3) := by decide +kernel
theorem dX3_squaresAt_4 : decode cX3_squaresAt 4 = .ok (.iconst 3, 1) := by decide +kernel
theorem dX3_squaresAt_5 : decode cX3_squaresAt 5 = .ok (.iaload, 1) := by decide +kernel
theorem dX3_squaresAt_6 : decode cX3_squaresAt 6 = .ok (.iload_n 1, 1) := by decide +kernel
theorem dX3_squaresAt_7 : decode cX3_squaresAt 7 = .ok (.imul, 1) := by decide +kernel
theorem dX3_squaresAt_8 : decode cX3_squaresAt 8 = .ok (.iload_n 1, 1) := by decide +kernel
theorem dX3_squaresAt_9 : decode cX3_squaresAt 9 = .ok (.imul, 1) := by decide +kernel
theorem dX3_squaresAt_10 : decode cX3_squaresAt 10 = .ok (.aload_n 0, 1) := by decide +kernel
theorem dX3_squaresAt_11 : decode cX3_squaresAt 11 = .ok (.getfield 9, 3) := by decide +kernel
theorem dX3_squaresAt_14 : decode cX3_squaresAt 14 = .ok (.iconst 4, 1) := by decide +kernel
theorem dX3_squaresAt_15 : decode cX3_squaresAt 15 = .ok (.iaload, 1) := by decide +kernel
theorem dX3_squaresAt_16 : decode cX3_squaresAt 16 = .ok (.iload_n 1, 1) := by decide +kernel
theorem dX3_squaresAt_17 : decode cX3_squaresAt 17 = .ok (.imul, 1) := by decide +kernel
theorem dX3_squaresAt_18 : decode cX3_squaresAt 18 = .ok (.iload_n 2, 1) := by decide +kernel
theorem dX3_squaresAt_19 : decode cX3_squaresAt 19 = .ok (.imul, 1) := by decide +kernel
theorem dX3_squaresAt_20 : decode cX3_squaresAt 20 = .ok (.iadd, 1) := by decide +kernel
theorem dX3_squaresAt_21 : decode cX3_squaresAt 21 = .ok (.aload_n 0, 1) := by decide +kernel
theorem dX3_squaresAt_22 : decode cX3_squaresAt 22 = .ok (.getfield 9, 3) := by decide +kernel
theorem dX3_squaresAt_25 : decode cX3_squaresAt 25 = .ok (.iconst 5, 1) := by decide +kernel
theorem dX3_squaresAt_26 : decode cX3_squaresAt 26 = .ok (.iaload, 1) := by decide +kernel
theorem dX3_squaresAt_27 : decode cX3_squaresAt 27 = .ok (.iload_n 2, 1) := by decide +kernel
theorem dX3_squaresAt_28 : decode cX3_squaresAt 28 = .ok (.imul, 1) := by decide +kernel
theorem dX3_squaresAt_29 : decode cX3_squaresAt 29 = .ok (.iload_n 2, 1) := by decide +kernel
theorem dX3_squaresAt_30 : decode cX3_squaresAt 30 = .ok (.imul, 1) := by decide +kernel
theorem dX3_squaresAt_31 : decode cX3_squaresAt 31 = .ok (.iadd, 1) := by decide +kernel
theorem dX3_squaresAt_32 : decode cX3_squaresAt 32 = .ok (.ireturn, 1) := by decide +kernel
theorem dX3_byX_0 : decode cX3_byX 0 = .ok (.aload_n 0, 1) := by decide +kernel
theorem dX3_byX_1 : decode cX3_byX 1 = .ok (.getfield 9, 3) := by decide +kernel
theorem dX3_byX_4 : decode cX3_byX 4 = .ok (.iconst 1, 1) := by decide +kernel
theorem dX3_byX_5 : decode cX3_byX 5 = .ok (.iaload, 1) := by decide +kernel
theorem dX3_byX_6 : decode cX3_byX 6 = .ok (.iconst 2, 1) := by decide +kernel
theorem dX3_byX_7 : decode cX3_byX 7 = .ok (.aload_n 0, 1) := by decide +kernel
theorem dX3_byX_8 : decode cX3_byX 8 = .ok (.getfield 9, 3) := by decide +kernel
theorem dX3_byX_11 : decode cX3_byX 11 = .ok (.iconst 3, 1) := by decide +kernel
theorem dX3_byX_12 : decode cX3_byX 12 = .ok (.iaload, 1) := by decide +kernel
theorem dX3_byX_13 : decode cX3_byX 13 = .ok (.imul, 1) := by decide +kernel
theorem dX3_byX_14 : decode cX3_byX 14 = .ok (.iload_n 1, 1) := by decide +kernel
theorem dX3_byX_15 : decode cX3_byX 15 = .ok (.imul, 1) := by decide +kernel
theorem dX3_byX_16 : decode cX3_byX 16 = .ok (.iadd, 1) := by decide +kernel
theorem dX3_byX_17 : decode cX3_byX 17 = .ok (.aload_n 0, 1) := by decide +kernel
theorem dX3_byX_18 : decode cX3_byX 18 = .ok (.getfield 9, 3) := by decide +kernel
theorem dX3_byX_21 : decode cX3_byX 21 = .ok (.iconst 4, 1) := by decide +kernel
theorem dX3_byX_22 : decode cX3_byX 22 = .ok (.iaload, 1) := by decide +kernel
theorem dX3_byX_23 : decode cX3_byX 23 = .ok (.iload_n 2, 1) := by decide +kernel
theorem dX3_byX_24 : decode cX3_byX 24 = .ok (.imul, 1) := by decide +kernel
theorem dX3_byX_25 : decode cX3_byX 25 = .ok (.iadd, 1) := by decide +kernel
theorem dX3_byX_26 : decode cX3_byX 26 = .ok (.ireturn, 1) := by decide +kernel
theorem dX3_byY_0 : decode cX3_byY 0 = .ok (.aload_n 0, 1) := by decide +kernel
theorem dX3_byY_1 : decode cX3_byY 1 = .ok (.getfield 9, 3) := by decide +kernel
theorem dX3_byY_4 : decode cX3_byY 4 = .ok (.iconst 2, 1) := by decide +kernel
theorem dX3_byY_5 : decode cX3_byY 5 = .ok (.iaload, 1) := by decide +kernel
theorem dX3_byY_6 : decode cX3_byY 6 = .ok (.aload_n 0, 1) := by decide +kernel
theorem dX3_byY_7 : decode cX3_byY 7 = .ok (.getfield 9, 3) := by decide +kernel
theorem dX3_byY_10 : decode cX3_byY 10 = .ok (.iconst 4, 1) := by decide +kernel
theorem dX3_byY_11 : decode cX3_byY 11 = .ok (.iaload, 1) := by decide +kernel
theorem dX3_byY_12 : decode cX3_byY 12 = .ok (.iload_n 1, 1) := by decide +kernel
theorem dX3_byY_13 : decode cX3_byY 13 = .ok (.imul, 1) := by decide +kernel
theorem dX3_byY_14 : decode cX3_byY 14 = .ok (.iadd, 1) := by decide +kernel
theorem dX3_byY_15 : decode cX3_byY 15 = .ok (.iconst 2, 1) := by decide +kernel
theorem dX3_byY_16 : decode cX3_byY 16 = .ok (.aload_n 0, 1) := by decide +kernel
theorem dX3_byY_17 : decode cX3_byY 17 = .ok (.getfield 9, 3) := by decide +kernel
theorem dX3_byY_20 : decode cX3_byY 20 = .ok (.iconst 5, 1) := by decide +kernel
theorem dX3_byY_21 : decode cX3_byY 21 = .ok (.iaload, 1) := by decide +kernel
theorem dX3_byY_22 : decode cX3_byY 22 = .ok (.imul, 1) := by decide +kernel
theorem dX3_byY_23 : decode cX3_byY 23 = .ok (.iload_n 2, 1) := by decide +kernel
theorem dX3_byY_24 : decode cX3_byY 24 = .ok (.imul, 1) := by decide +kernel
theorem dX3_byY_25 : decode cX3_byY 25 = .ok (.iadd, 1) := by decide +kernel
theorem dX3_byY_26 : decode cX3_byY 26 = .ok (.ireturn, 1) := by decide +kernel
theorem dX3_hasSquares_0 : decode cX3_hasSquares 0 = .ok (.aload_n 0, 1) := by decide +kernel
theorem dX3_hasSquares_1 : decode cX3_hasSquares 1 = .ok (.getfield 9, 3) := by decide +kernel
theorem dX3_hasSquares_4 : decode cX3_hasSquares 4 = .ok (.iconst 3, 1) := by decide +kernel
theorem dX3_hasSquares_5 : decode cX3_hasSquares 5 = .ok (.iaload, 1) := by decide +kernel
theorem dX3_hasSquares_6 : decode cX3_hasSquares 6 = .ok (.ifCond .ne 21, 3) := by decide +kernel
theorem dX3_hasSquares_9 : decode cX3_hasSquares 9 = .ok (.aload_n 0, 1) := by decide +kernel
theorem dX3_hasSquares_10 : decode cX3_hasSquares 10 = .ok (.getfield 9, 3) := by decide +kernel
theorem dX3_hasSquares_13 : decode cX3_hasSquares 13 = .ok (.iconst 4, 1) := by decide +kernel
theorem dX3_hasSquares_14 : decode cX3_hasSquares 14 = .ok (.iaload, 1) := by decide +kernel
theorem dX3_hasSquares_15 : decode cX3_hasSquares 15 = .ok (.ifCond .ne 12, 3) := by decide +kernel
theorem dX3_hasSquares_18 : decode cX3_hasSquares 18 = .ok (.aload_n 0, 1) := by decide +kernel
theorem dX3_hasSquares_19 : decode cX3_hasSquares 19 = .ok (.getfield 9, 3) := by decide +kernel
theorem dX3_hasSquares_22 : decode cX3_hasSquares 22 = .ok (.iconst 5, 1) := by decide +kernel
theorem dX3_hasSquares_23 : decode cX3_hasSquares 23 = .ok (.iaload, 1) := by decide +kernel
theorem dX3_hasSquares_24 : decode cX3_hasSquares 24 = .ok (.ifCond .eq 7, 3) := by decide +kernel
theorem dX3_hasSquares_27 : decode cX3_hasSquares 27 = .ok (.iconst 1, 1) := by decide +kernel
theorem dX3_hasSquares_28 : decode cX3_hasSquares 28 = .ok (.goto 4, 3) := by decide +kernel
theorem dX3_hasSquares_31 : decode cX3_hasSquares 31 = .ok (.iconst 0, 1) := by decide +kernel
theorem dX3_hasSquares_32 : decode cX3_hasSquares 32 = .ok (.ireturn, 1) := by decide +kernel
set_option maxRecDepth 20000 in
theorem ggX3_fits_X7_isWithin : GoodIn wsX3_fits wsX7_isWithin := goodIn_r _ [4] (by decide +kernel) (by decide +kernel)
set_option maxRecDepth 20000 in
theorem gX3_fits_X7_isWithin_n19 : GoodIn wsX3_fits (wsX7_isWithin) := ggX3_fits_X7_isWithin
theorem dX3_fits_0 : decode cX3_fits 0 = .ok (.iconst 0, 1) := by decide +kernel
theorem dX3_fits_1 : decode cX3_fits 1 = .ok (.istore_n 1, 1) := by decide +kernel
theorem dX3_fits_2 : decode cX3_fits 2 = .ok (.iload_n 1, 1) := by decide +kernel
theorem dX3_fits_3 : decode cX3_fits 3 = .ok (.bipush 6, 2) := by decide +kernel
theorem dX3_fits_5 : decode cX3_fits 5 = .ok (.if_icmp .ge 24, 3) := by decide +kernel
theorem dX3_fits_8 : decode cX3_fits 8 = .ok (.aload_n 0, 1) := by decide +kernel
theorem dX3_fits_9 : decode cX3_fits 9 = .ok (.getfield 9, 3) := by decide +kernel
theorem dX3_fits_12 : decode cX3_fits 12 = .ok (.iload_n 1, 1) := by decide +kernel
theorem dX3_fits_13 : decode cX3_fits 13 = .ok (.iaload, 1) := by decide +kernel
theorem dX3_fits_14 : decode cX3_fits 14 = .ok (.iconst 4, 1) := by decide +kernel
theorem dX3_fits_15 : decode cX3_fits 15 = .ok (.invokestatic 19, 3) := by decide +kernel
theorem dX3_fits_18 : decode cX3_fits 18 = .ok (.ifCond .ne 5, 3) := by decide +kernel
theorem dX3_fits_21 : decode cX3_fits 21 = .ok (.iconst 0, 1) := by decide +kernel
theorem dX3_fits_22 : decode cX3_fits 22 = .ok (.ireturn, 1) := by decide +kernel
theorem dX3_fits_23 : decode cX3_fits 23 = .ok (.iinc 1 1, 3) := by decide +kernel
theorem dX3_fits_26 : decode cX3_fits 26 = .ok (.goto (-24), 3) := by decide +kernel
theorem dX3_fits_29 : decode cX3_fits 29 = .ok (.iconst 1, 1) := by decide +kernel
theorem dX3_fits_30 : decode cX3_fits 30 = .ok (.ireturn, 1) := by decide +kernel
theorem dX3_countNotZero_0 : decode cX3_countNotZero 0 = .ok (.iconst 0, 1) := by decide +kernel
theorem dX3_countNotZero_1 : decode cX3_countNotZero 1 = .ok (.istore_n 1, 1) := by decide +kernel
theorem dX3_countNotZero_2 : decode cX3_countNotZero 2 = .ok (.iconst 0, 1) := by decide +kernel
theorem dX3_countNotZero_3 : decode cX3_countNotZero 3 = .ok (.istore_n 2, 1) := by decide +kernel
theorem dX3_countNotZero_4 : decode cX3_countNotZero 4 = .ok (.iload_n 2, 1) := by decide +kernel
theorem dX3_countNotZero_5 : decode cX3_countNotZero 5 = .ok (.bipush 6, 2) := by decide +kernel
theorem dX3_countNotZero_7 : decode cX3_countNotZero 7 = .ok (.if_icmp .ge 21, 3) := by decide +kernel
theorem dX3_countNotZero_10 : decode cX3_countNotZero 10 = .ok (.aload_n 0, 1) := by decide +kernel
theorem dX3_countNotZero_11 : decode cX3_countNotZero 11 = .ok (.getfield 9, 3) := by decide +kernel
theorem dX3_countNotZero_14 : decode cX3_countNotZero 14 = .ok (.iload_n 2, 1) := by decide +kernel
theorem dX3_countNotZero_15 : decode cX3_countNotZero 15 = .ok (.iaload, 1) := by decide +kernel
theorem dX3_countNotZero_16 : decode cX3_countNotZero 16 = .ok (.ifCond .eq 6, 3) := by decide +kernel
theorem dX3_countNotZero_19 : decode cX3_countNotZero 19 = .ok (.iinc 1 1, 3) := by decide +kernel
theorem dX3_countNotZero_22 : decode cX3_countNotZero 22 = .ok (.iinc 2 1, 3) := by decide +kernel
theorem dX3_countNotZero_25 : decode cX3_countNotZero 25 = .ok (.goto (-21), 3) := by decide +kernel
theorem dX3_countNotZero_28 : decode cX3_countNotZero 28 = .ok (.iload_n 1, 1) := by decide +kernel
theorem dX3_countNotZero_29 : decode cX3_countNotZero 29 = .ok (.ireturn, 1) := by decide +kernel
theorem dX3_become_0 : decode cX3_become 0 = .ok (.aload_n 1, 1) := by decide +kernel
theorem dX3_become_1 : decode cX3_become 1 = .ok (.getfield 9, 3) := by decide +kernel
theorem dX3_become_4 : decode cX3_become 4 = .ok (.iconst 0, 1) := by decide +kernel
theorem dX3_become_5 : decode cX3_become 5 = .ok (.aload_n 0, 1) := by decide +kernel
theorem dX3_become_6 : decode cX3_become 6 = .ok (.getfield 9, 3) := by decide +kernel
theorem dX3_become_9 : decode cX3_become 9 = .ok (.iconst 0, 1) := by decide +kernel
theorem dX3_become_10 : decode cX3_become 10 = .ok (.bipush 6, 2) := by decide +kernel
theorem dX3_become_12 : decode cX3_become 12 = .ok (.invokestatic 23, 3) := by decide +kernel
theorem dX3_become_15 : decode cX3_become 15 = .ok (.return_, 1) := by decide +kernel
theorem dX3_negatedFrom_0 : decode cX3_negatedFrom 0 = .ok (.iconst 0, 1) := by decide +kernel
theorem dX3_negatedFrom_1 : decode cX3_negatedFrom 1 = .ok (.istore_n 2, 1) := by decide +kernel
theorem dX3_negatedFrom_2 : decode cX3_negatedFrom 2 = .ok (.iload_n 2, 1) := by decide +kernel
theorem dX3_negatedFrom_3 : decode cX3_negatedFrom 3 = .ok (.bipush 6, 2) := by decide +kernel
theorem dX3_negatedFrom_5 : decode cX3_negatedFrom 5 = .ok (.if_icmp .ge 22, 3) := by decide +kernel
theorem dX3_negatedFrom_8 : decode cX3_negatedFrom 8 = .ok (.aload_n 0, 1) := by decide +kernel
theorem dX3_negatedFrom_9 : decode cX3_negatedFrom 9 = .ok (.getfield 9, 3) := by decide +kernel
theorem dX3_negatedFrom_12 : decode cX3_negatedFrom 12 = .ok (.iload_n 2, 1) := by decide +kernel
theorem dX3_negatedFrom_13 : decode cX3_negatedFrom 13 = .ok (.aload_n 1, 1) := by decide +kernel
theorem dX3_negatedFrom_14 : decode cX3_negatedFrom 14 = .ok (.getfield 9, 3) := by decide +kernel
theorem dX3_negatedFrom_17 : decode cX3_negatedFrom 17 = .ok (.iload_n 2, 1) := by decide +kernel
theorem dX3_negatedFrom_18 : decode cX3_negatedFrom 18 = .ok (.iaload, 1) := by decide +kernel
theorem dX3_negatedFrom_19 : decode cX3_negatedFrom 19 = .ok (.ineg, 1) := by decide +kernel
theorem dX3_negatedFrom_20 : decode cX3_negatedFrom 20 = .ok (.iastore, 1) := by decide +kernel
theorem dX3_negatedFrom_21 : decode cX3_negatedFrom 21 = .ok (.iinc 2 1, 3) := by decide +kernel
theorem dX3_negatedFrom_24 : decode cX3_negatedFrom 24 = .ok (.goto (-22), 3) := by decide +kernel
theorem dX3_negatedFrom_27 : decode cX3_negatedFrom 27 = .ok (.return_, 1) := by decide +kernel
theorem dX3_turnedFrom_0 : decode cX3_turnedFrom 0 = .ok (.aload_n 0, 1) := by decide +kernel
theorem dX3_turnedFrom_1 : decode cX3_turnedFrom 1 = .ok (.getfield 9, 3) := by decide +kernel
theorem dX3_turnedFrom_4 : decode cX3_turnedFrom 4 = .ok (.iconst 0, 1) := by decide +kernel
theorem dX3_turnedFrom_5 : decode cX3_turnedFrom 5 = .ok (.iload_n 2, 1) := by decide +kernel
theorem dX3_turnedFrom_6 : decode cX3_turnedFrom 6 = .ok (.aload_n 1, 1) := by decide +kernel
theorem dX3_turnedFrom_7 : decode cX3_turnedFrom 7 = .ok (.getfield 9, 3) := by decide +kernel
theorem dX3_turnedFrom_10 : decode cX3_turnedFrom 10 = .ok (.iconst 0, 1) := by decide +kernel
theorem dX3_turnedFrom_11 : decode cX3_turnedFrom 11 = .ok (.iaload, 1) := by decide +kernel
theorem dX3_turnedFrom_12 : decode cX3_turnedFrom 12 = .ok (.imul, 1) := by decide +kernel
theorem dX3_turnedFrom_13 : decode cX3_turnedFrom 13 = .ok (.iastore, 1) := by decide +kernel
theorem dX3_turnedFrom_14 : decode cX3_turnedFrom 14 = .ok (.aload_n 0, 1) := by decide +kernel
theorem dX3_turnedFrom_15 : decode cX3_turnedFrom 15 = .ok (.getfield 9, 3) := by decide +kernel
theorem dX3_turnedFrom_18 : decode cX3_turnedFrom 18 = .ok (.iconst 1, 1) := by decide +kernel
theorem dX3_turnedFrom_19 : decode cX3_turnedFrom 19 = .ok (.iload_n 2, 1) := by decide +kernel
theorem dX3_turnedFrom_20 : decode cX3_turnedFrom 20 = .ok (.ineg, 1) := by decide +kernel
theorem dX3_turnedFrom_21 : decode cX3_turnedFrom 21 = .ok (.aload_n 1, 1) := by decide +kernel
theorem dX3_turnedFrom_22 : decode cX3_turnedFrom 22 = .ok (.getfield 9, 3) := by decide +kernel
theorem dX3_turnedFrom_25 : decode cX3_turnedFrom 25 = .ok (.iconst 2, 1) := by decide +kernel
theorem dX3_turnedFrom_26 : decode cX3_turnedFrom 26 = .ok (.iaload, 1) := by decide +kernel
theorem dX3_turnedFrom_27 : decode cX3_turnedFrom 27 = .ok (.imul, 1) := by decide +kernel
theorem dX3_turnedFrom_28 : decode cX3_turnedFrom 28 = .ok (.iastore, 1) := by decide +kernel
theorem dX3_turnedFrom_29 : decode cX3_turnedFrom 29 = .ok (.aload_n 0, 1) := by decide +kernel
theorem dX3_turnedFrom_30 : decode cX3_turnedFrom 30 = .ok (.getfield 9, 3) := by decide +kernel
theorem dX3_turnedFrom_33 : decode cX3_turnedFrom 33 = .ok (.iconst 2, 1) := by decide +kernel
theorem dX3_turnedFrom_34 : decode cX3_turnedFrom 34 = .ok (.iload_n 2, 1) := by decide +kernel
theorem dX3_turnedFrom_35 : decode cX3_turnedFrom 35 = .ok (.aload_n 1, 1) := by decide +kernel
theorem dX3_turnedFrom_36 : decode cX3_turnedFrom 36 = .ok (.getfield 9, 3) := by decide +kernel
theorem dX3_turnedFrom_39 : decode cX3_turnedFrom 39 = .ok (.iconst 1, 1) := by decide +kernel
theorem dX3_turnedFrom_40 : decode cX3_turnedFrom 40 = .ok (.iaload, 1) := by decide +kernel
theorem dX3_turnedFrom_41 : decode cX3_turnedFrom 41 = .ok (.imul, 1) := by decide +kernel
theorem dX3_turnedFrom_42 : decode cX3_turnedFrom 42 = .ok (.iastore, 1) := by decide +kernel
theorem dX3_turnedFrom_43 : decode cX3_turnedFrom 43 = .ok (.aload_n 0, 1) := by decide +kernel
theorem dX3_turnedFrom_44 : decode cX3_turnedFrom 44 = .ok (.getfield 9, 3) := by decide +kernel
theorem dX3_turnedFrom_47 : decode cX3_turnedFrom 47 = .ok (.iconst 3, 1) := by decide +kernel
theorem dX3_turnedFrom_48 : decode cX3_turnedFrom 48 = .ok (.iload_n 2, 1) := by decide +kernel
theorem dX3_turnedFrom_49 : decode cX3_turnedFrom 49 = .ok (.aload_n 1, 1) := by decide +kernel
theorem dX3_turnedFrom_50 : decode cX3_turnedFrom 50 = .ok (.getfield 9, 3) := by decide +kernel
theorem dX3_turnedFrom_53 : decode cX3_turnedFrom 53 = .ok (.iconst 5, 1) := by decide +kernel
theorem dX3_turnedFrom_54 : decode cX3_turnedFrom 54 = .ok (.iaload, 1) := by decide +kernel
theorem dX3_turnedFrom_55 : decode cX3_turnedFrom 55 = .ok (.imul, 1) := by decide +kernel
theorem dX3_turnedFrom_56 : decode cX3_turnedFrom 56 = .ok (.iastore, 1) := by decide +kernel
theorem dX3_turnedFrom_57 : decode cX3_turnedFrom 57 = .ok (.aload_n 0, 1) := by decide +kernel
theorem dX3_turnedFrom_58 : decode cX3_turnedFrom 58 = .ok (.getfield 9, 3) := by decide +kernel
theorem dX3_turnedFrom_61 : decode cX3_turnedFrom 61 = .ok (.iconst 4, 1) := by decide +kernel
theorem dX3_turnedFrom_62 : decode cX3_turnedFrom 62 = .ok (.iload_n 2, 1) := by decide +kernel
theorem dX3_turnedFrom_63 : decode cX3_turnedFrom 63 = .ok (.ineg, 1) := by decide +kernel
theorem dX3_turnedFrom_64 : decode cX3_turnedFrom 64 = .ok (.aload_n 1, 1) := by decide +kernel
theorem dX3_turnedFrom_65 : decode cX3_turnedFrom 65 = .ok (.getfield 9, 3) := by decide +kernel
theorem dX3_turnedFrom_68 : decode cX3_turnedFrom 68 = .ok (.iconst 4, 1) := by decide +kernel
theorem dX3_turnedFrom_69 : decode cX3_turnedFrom 69 = .ok (.iaload, 1) := by decide +kernel
theorem dX3_turnedFrom_70 : decode cX3_turnedFrom 70 = .ok (.imul, 1) := by decide +kernel
theorem dX3_turnedFrom_71 : decode cX3_turnedFrom 71 = .ok (.iastore, 1) := by decide +kernel
theorem dX3_turnedFrom_72 : decode cX3_turnedFrom 72 = .ok (.aload_n 0, 1) := by decide +kernel
theorem dX3_turnedFrom_73 : decode cX3_turnedFrom 73 = .ok (.getfield 9, 3) := by decide +kernel
theorem dX3_turnedFrom_76 : decode cX3_turnedFrom 76 = .ok (.iconst 5, 1) := by decide +kernel
theorem dX3_turnedFrom_77 : decode cX3_turnedFrom 77 = .ok (.iload_n 2, 1) := by decide +kernel
theorem dX3_turnedFrom_78 : decode cX3_turnedFrom 78 = .ok (.aload_n 1, 1) := by decide +kernel
theorem dX3_turnedFrom_79 : decode cX3_turnedFrom 79 = .ok (.getfield 9, 3) := by decide +kernel
theorem dX3_turnedFrom_82 : decode cX3_turnedFrom 82 = .ok (.iconst 3, 1) := by decide +kernel
theorem dX3_turnedFrom_83 : decode cX3_turnedFrom 83 = .ok (.iaload, 1) := by decide +kernel
theorem dX3_turnedFrom_84 : decode cX3_turnedFrom 84 = .ok (.imul, 1) := by decide +kernel
theorem dX3_turnedFrom_85 : decode cX3_turnedFrom 85 = .ok (.iastore, 1) := by decide +kernel
theorem dX3_turnedFrom_86 : decode cX3_turnedFrom 86 = .ok (.return_, 1) := by decide +kernel
theorem dX3_mirroredFrom_0 : decode cX3_mirroredFrom 0 = .ok (.aload_n 0, 1) := by decide +kernel
theorem dX3_mirroredFrom_1 : decode cX3_mirroredFrom 1 = .ok (.getfield 9, 3) := by decide +kernel
theorem dX3_mirroredFrom_4 : decode cX3_mirroredFrom 4 = .ok (.iconst 0, 1) := by decide +kernel
theorem dX3_mirroredFrom_5 : decode cX3_mirroredFrom 5 = .ok (.iload_n 2, 1) := by decide +kernel
theorem dX3_mirroredFrom_6 : decode cX3_mirroredFrom 6 = .ok (.aload_n 1, 1) := by decide +kernel
theorem dX3_mirroredFrom_7 : decode cX3_mirroredFrom 7 = .ok (.getfield 9, 3) := by decide +kernel
theorem dX3_mirroredFrom_10 : decode cX3_mirroredFrom 10 = .ok (.iconst 0, 1) := by decide +kernel
theorem dX3_mirroredFrom_11 : decode cX3_mirroredFrom 11 = .ok (.iaload, 1) := by decide +kernel
theorem dX3_mirroredFrom_12 : decode cX3_mirroredFrom 12 = .ok (.imul, 1) := by decide +kernel
theorem dX3_mirroredFrom_13 : decode cX3_mirroredFrom 13 = .ok (.iastore, 1) := by decide +kernel
theorem dX3_mirroredFrom_14 : decode cX3_mirroredFrom 14 = .ok (.aload_n 0, 1) := by decide +kernel
theorem dX3_mirroredFrom_15 : decode cX3_mirroredFrom 15 = .ok (.getfield 9, 3) := by decide +kernel
theorem dX3_mirroredFrom_18 : decode cX3_mirroredFrom 18 = .ok (.iconst 1, 1) := by decide +kernel
theorem dX3_mirroredFrom_19 : decode cX3_mirroredFrom 19 = .ok (.iload_n 2, 1) := by decide +kernel
theorem dX3_mirroredFrom_20 : decode cX3_mirroredFrom 20 = .ok (.ineg, 1) := by decide +kernel
theorem dX3_mirroredFrom_21 : decode cX3_mirroredFrom 21 = .ok (.aload_n 1, 1) := by decide +kernel
theorem dX3_mirroredFrom_22 : decode cX3_mirroredFrom 22 = .ok (.getfield 9, 3) := by decide +kernel
theorem dX3_mirroredFrom_25 : decode cX3_mirroredFrom 25 = .ok (.iconst 1, 1) := by decide +kernel
theorem dX3_mirroredFrom_26 : decode cX3_mirroredFrom 26 = .ok (.iaload, 1) := by decide +kernel
theorem dX3_mirroredFrom_27 : decode cX3_mirroredFrom 27 = .ok (.imul, 1) := by decide +kernel
theorem dX3_mirroredFrom_28 : decode cX3_mirroredFrom 28 = .ok (.iastore, 1) := by decide +kernel
theorem dX3_mirroredFrom_29 : decode cX3_mirroredFrom 29 = .ok (.aload_n 0, 1) := by decide +kernel
theorem dX3_mirroredFrom_30 : decode cX3_mirroredFrom 30 = .ok (.getfield 9, 3) := by decide +kernel
theorem dX3_mirroredFrom_33 : decode cX3_mirroredFrom 33 = .ok (.iconst 2, 1) := by decide +kernel
theorem dX3_mirroredFrom_34 : decode cX3_mirroredFrom 34 = .ok (.iload_n 2, 1) := by decide +kernel
theorem dX3_mirroredFrom_35 : decode cX3_mirroredFrom 35 = .ok (.aload_n 1, 1) := by decide +kernel
theorem dX3_mirroredFrom_36 : decode cX3_mirroredFrom 36 = .ok (.getfield 9, 3) := by decide +kernel
theorem dX3_mirroredFrom_39 : decode cX3_mirroredFrom 39 = .ok (.iconst 2, 1) := by decide +kernel
theorem dX3_mirroredFrom_40 : decode cX3_mirroredFrom 40 = .ok (.iaload, 1) := by decide +kernel
theorem dX3_mirroredFrom_41 : decode cX3_mirroredFrom 41 = .ok (.imul, 1) := by decide +kernel
theorem dX3_mirroredFrom_42 : decode cX3_mirroredFrom 42 = .ok (.iastore, 1) := by decide +kernel
theorem dX3_mirroredFrom_43 : decode cX3_mirroredFrom 43 = .ok (.aload_n 0, 1) := by decide +kernel
theorem dX3_mirroredFrom_44 : decode cX3_mirroredFrom 44 = .ok (.getfield 9, 3) := by decide +kernel
theorem dX3_mirroredFrom_47 : decode cX3_mirroredFrom 47 = .ok (.iconst 3, 1) := by decide +kernel
theorem dX3_mirroredFrom_48 : decode cX3_mirroredFrom 48 = .ok (.iload_n 2, 1) := by decide +kernel
theorem dX3_mirroredFrom_49 : decode cX3_mirroredFrom 49 = .ok (.aload_n 1, 1) := by decide +kernel
theorem dX3_mirroredFrom_50 : decode cX3_mirroredFrom 50 = .ok (.getfield 9, 3) := by decide +kernel
theorem dX3_mirroredFrom_53 : decode cX3_mirroredFrom 53 = .ok (.iconst 3, 1) := by decide +kernel
theorem dX3_mirroredFrom_54 : decode cX3_mirroredFrom 54 = .ok (.iaload, 1) := by decide +kernel
theorem dX3_mirroredFrom_55 : decode cX3_mirroredFrom 55 = .ok (.imul, 1) := by decide +kernel
theorem dX3_mirroredFrom_56 : decode cX3_mirroredFrom 56 = .ok (.iastore, 1) := by decide +kernel
theorem dX3_mirroredFrom_57 : decode cX3_mirroredFrom 57 = .ok (.aload_n 0, 1) := by decide +kernel
theorem dX3_mirroredFrom_58 : decode cX3_mirroredFrom 58 = .ok (.getfield 9, 3) := by decide +kernel
theorem dX3_mirroredFrom_61 : decode cX3_mirroredFrom 61 = .ok (.iconst 4, 1) := by decide +kernel
theorem dX3_mirroredFrom_62 : decode cX3_mirroredFrom 62 = .ok (.iload_n 2, 1) := by decide +kernel
theorem dX3_mirroredFrom_63 : decode cX3_mirroredFrom 63 = .ok (.ineg, 1) := by decide +kernel
theorem dX3_mirroredFrom_64 : decode cX3_mirroredFrom 64 = .ok (.aload_n 1, 1) := by decide +kernel
theorem dX3_mirroredFrom_65 : decode cX3_mirroredFrom 65 = .ok (.getfield 9, 3) := by decide +kernel
theorem dX3_mirroredFrom_68 : decode cX3_mirroredFrom 68 = .ok (.iconst 4, 1) := by decide +kernel
theorem dX3_mirroredFrom_69 : decode cX3_mirroredFrom 69 = .ok (.iaload, 1) := by decide +kernel
theorem dX3_mirroredFrom_70 : decode cX3_mirroredFrom 70 = .ok (.imul, 1) := by decide +kernel
theorem dX3_mirroredFrom_71 : decode cX3_mirroredFrom 71 = .ok (.iastore, 1) := by decide +kernel
theorem dX3_mirroredFrom_72 : decode cX3_mirroredFrom 72 = .ok (.aload_n 0, 1) := by decide +kernel
theorem dX3_mirroredFrom_73 : decode cX3_mirroredFrom 73 = .ok (.getfield 9, 3) := by decide +kernel
theorem dX3_mirroredFrom_76 : decode cX3_mirroredFrom 76 = .ok (.iconst 5, 1) := by decide +kernel
theorem dX3_mirroredFrom_77 : decode cX3_mirroredFrom 77 = .ok (.iload_n 2, 1) := by decide +kernel
theorem dX3_mirroredFrom_78 : decode cX3_mirroredFrom 78 = .ok (.aload_n 1, 1) := by decide +kernel
theorem dX3_mirroredFrom_79 : decode cX3_mirroredFrom 79 = .ok (.getfield 9, 3) := by decide +kernel
theorem dX3_mirroredFrom_82 : decode cX3_mirroredFrom 82 = .ok (.iconst 5, 1) := by decide +kernel
theorem dX3_mirroredFrom_83 : decode cX3_mirroredFrom 83 = .ok (.iaload, 1) := by decide +kernel
theorem dX3_mirroredFrom_84 : decode cX3_mirroredFrom 84 = .ok (.imul, 1) := by decide +kernel
theorem dX3_mirroredFrom_85 : decode cX3_mirroredFrom 85 = .ok (.iastore, 1) := by decide +kernel
theorem dX3_mirroredFrom_86 : decode cX3_mirroredFrom 86 = .ok (.return_, 1) := by decide +kernel
set_option maxRecDepth 20000 in
theorem ggX3_movedFrom_X3_become : GoodIn wsX3_movedFrom wsX3_become := goodIn_r _ [6, 1, 7, 8, 9, 10, 27] (by decide +kernel) (by decide +kernel)
set_option maxRecDepth 20000 in
theorem gX3_movedFrom_X3_become : GoodIn wsX3_movedFrom (wsV RX3 29 RX3 yX3_become wsX3_become) := goodIn_app (goodIn_of _ (by decide +kernel)) ggX3_movedFrom_X3_become
set_option maxRecDepth 20000 in
theorem ggX3_movedFrom_X3_at : GoodIn wsX3_movedFrom wsX3_at := goodIn_r _ [14, 1, 15, 16, 17, 5, 18, 27] (by decide +kernel) (by decide +kernel)
set_option maxRecDepth 20000 in
theorem gX3_movedFrom_X3_at : GoodIn wsX3_movedFrom (wsV RX3 33 RX3 yX3_at wsX3_at) := goodIn_app (goodIn_of _ (by decide +kernel)) ggX3_movedFrom_X3_at
set_option maxRecDepth 20000 in
theorem ggX3_movedFrom_X3_byX : GoodIn wsX3_movedFrom wsX3_byX := goodIn_r _ [22, 1, 27] (by decide +kernel) (by decide +kernel)
set_option maxRecDepth 20000 in
theorem gX3_movedFrom_X3_byX : GoodIn wsX3_movedFrom (wsV RX3 36 RX3 yX3_byX wsX3_byX) := goodIn_app (goodIn_of _ (by decide +kernel)) ggX3_movedFrom_X3_byX
set_option maxRecDepth 20000 in
theorem ggX3_movedFrom_X3_byY : GoodIn wsX3_movedFrom wsX3_byY := goodIn_r _ [26, 1, 27] (by decide +kernel) (by decide +kernel)
set_option maxRecDepth 20000 in
theorem gX3_movedFrom_X3_byY : GoodIn wsX3_movedFrom (wsV RX3 39 RX3 yX3_byY wsX3_byY) := goodIn_app (goodIn_of _ (by decide +kernel)) ggX3_movedFrom_X3_byY
theorem dX3_movedFrom_0 : decode cX3_movedFrom 0 = .ok (.aload_n 0, 1) := by decide +kernel
theorem dX3_movedFrom_1 : decode cX3_movedFrom 1 = .ok (.aload_n 1, 1) := by decide +kernel
theorem dX3_movedFrom_2 : decode cX3_movedFrom 2 = .ok (.invokevirtual 29, 3) := by decide +kernel
theorem dX3_movedFrom_5 : decode cX3_movedFrom 5 = .ok (.aload_n 0, 1) := by decide +kernel
theorem dX3_movedFrom_6 : decode cX3_movedFrom 6 = .ok (.getfield 9, 3) := by decide +kernel
theorem dX3_movedFrom_9 : decode cX3_movedFrom 9 = .ok (.iconst 0, 1) := by decide +kernel
theorem dX3_movedFrom_10 : decode cX3_movedFrom 10 = .ok (.aload_n 1, 1) := by decide +kernel
theorem dX3_movedFrom_11 : decode cX3_movedFrom 11 = .ok (.iload_n 2, 1) := by decide +kernel
theorem dX3_movedFrom_12 : decode cX3_movedFrom 12 = .ok (.iload_n 3, 1) := by decide +kernel
theorem dX3_movedFrom_13 : decode cX3_movedFrom 13 = .ok (.invokevirtual 33, 3) := by decide +kernel
theorem dX3_movedFrom_16 : decode cX3_movedFrom 16 = .ok (.iastore, 1) := by decide +kernel
theorem dX3_movedFrom_17 : decode cX3_movedFrom 17 = .ok (.aload_n 0, 1) := by decide +kernel
theorem dX3_movedFrom_18 : decode cX3_movedFrom 18 = .ok (.getfield 9, 3) := by decide +kernel
theorem dX3_movedFrom_21 : decode cX3_movedFrom 21 = .ok (.iconst 1, 1) := by decide +kernel
theorem dX3_movedFrom_22 : decode cX3_movedFrom 22 = .ok (.aload_n 1, 1) := by decide +kernel
theorem dX3_movedFrom_23 : decode cX3_movedFrom 23 = .ok (.iload_n 2, 1) := by decide +kernel
theorem dX3_movedFrom_24 : decode cX3_movedFrom 24 = .ok (.iload_n 3, 1) := by decide +kernel
theorem dX3_movedFrom_25 : decode cX3_movedFrom 25 = .ok (.invokevirtual 36, 3) := by decide +kernel
theorem dX3_movedFrom_28 : decode cX3_movedFrom 28 = .ok (.iastore, 1) := by decide +kernel
theorem dX3_movedFrom_29 : decode cX3_movedFrom 29 = .ok (.aload_n 0, 1) := by decide +kernel
theorem dX3_movedFrom_30 : decode cX3_movedFrom 30 = .ok (.getfield 9, 3) := by decide +kernel
theorem dX3_movedFrom_33 : decode cX3_movedFrom 33 = .ok (.iconst 2, 1) := by decide +kernel
theorem dX3_movedFrom_34 : decode cX3_movedFrom 34 = .ok (.aload_n 1, 1) := by decide +kernel
theorem dX3_movedFrom_35 : decode cX3_movedFrom 35 = .ok (.iload_n 2, 1) := by decide +kernel
theorem dX3_movedFrom_36 : decode cX3_movedFrom 36 = .ok (.iload_n 3, 1) := by decide +kernel
theorem dX3_movedFrom_37 : decode cX3_movedFrom 37 = .ok (.invokevirtual 39, 3) := by decide +kernel
theorem dX3_movedFrom_40 : decode cX3_movedFrom 40 = .ok (.iastore, 1) := by decide +kernel
theorem dX3_movedFrom_41 : decode cX3_movedFrom 41 = .ok (.return_, 1) := by decide +kernel
theorem dX3_increase_0 : decode cX3_increase 0 = .ok (.iconst 0, 1) := by decide +kernel
theorem dX3_increase_1 : decode cX3_increase 1 = .ok (.istore_n 3, 1) := by decide +kernel
theorem dX3_increase_2 : decode cX3_increase 2 = .ok (.iload_n 3, 1) := by decide +kernel
theorem dX3_increase_3 : decode cX3_increase 3 = .ok (.bipush 6, 2) := by decide +kernel
theorem dX3_increase_5 : decode cX3_increase 5 = .ok (.if_icmp .ge 26, 3) := by decide +kernel
theorem dX3_increase_8 : decode cX3_increase 8 = .ok (.aload_n 0, 1) := by decide +kernel
theorem dX3_increase_9 : decode cX3_increase 9 = .ok (.getfield 9, 3) := by decide +kernel
theorem dX3_increase_12 : decode cX3_increase 12 = .ok (.iload_n 3, 1) := by decide +kernel
theorem dX3_increase_13 : decode cX3_increase 13 = .ok (.dup2, 1) := by decide +kernel
theorem dX3_increase_14 : decode cX3_increase 14 = .ok (.iaload, 1) := by decide +kernel
theorem dX3_increase_15 : decode cX3_increase 15 = .ok (.iload_n 2, 1) := by decide +kernel
theorem dX3_increase_16 : decode cX3_increase 16 = .ok (.aload_n 1, 1) := by decide +kernel
theorem dX3_increase_17 : decode cX3_increase 17 = .ok (.getfield 9, 3) := by decide +kernel
theorem dX3_increase_20 : decode cX3_increase 20 = .ok (.iload_n 3, 1) := by decide +kernel
theorem dX3_increase_21 : decode cX3_increase 21 = .ok (.iaload, 1) := by decide +kernel
theorem dX3_increase_22 : decode cX3_increase 22 = .ok (.imul, 1) := by decide +kernel
theorem dX3_increase_23 : decode cX3_increase 23 = .ok (.iadd, 1) := by decide +kernel
theorem dX3_increase_24 : decode cX3_increase 24 = .ok (.iastore, 1) := by decide +kernel
theorem dX3_increase_25 : decode cX3_increase 25 = .ok (.iinc 3 1, 3) := by decide +kernel
theorem dX3_increase_28 : decode cX3_increase 28 = .ok (.goto (-26), 3) := by decide +kernel
theorem dX3_increase_31 : decode cX3_increase 31 = .ok (.return_, 1) := by decide +kernel
theorem dX4_init_0 : decode cX4_init 0 = .ok (.aload_n 0, 1) := by decide +kernel
theorem dX4_init_1 : decode cX4_init 1 = .ok (.invokespecial 3, 3) := by decide +kernel
theorem dX4_init_4 : decode cX4_init 4 = .ok (.return_, 1) := by decide +kernel
set_option maxRecDepth 20000 in
theorem ggX4_follow_X0_stepX : GoodIn wsX4_follow wsX0_stepX := goodIn_r _ [10, 11, 36, 37, 38] (by decide +kernel) (by decide +kernel)
set_option maxRecDepth 20000 in
theorem gX4_follow_X0_stepX : GoodIn wsX4_follow (wsV RX4 18 RX0 yX0_stepX wsX0_stepX) := goodIn_app (goodIn_of _ (by decide +kernel)) ggX4_follow_X0_stepX
set_option maxRecDepth 20000 in
theorem ggX4_follow_X0_stepY : GoodIn wsX4_follow wsX0_stepY := goodIn_r _ [15, 16, 36, 37, 38] (by decide +kernel) (by decide +kernel)
set_option maxRecDepth 20000 in
theorem gX4_follow_X0_stepY : GoodIn wsX4_follow (wsV RX4 22 RX0 yX0_stepY wsX0_stepY) := goodIn_app (goodIn_of _ (by decide +kernel)) ggX4_follow_X0_stepY
set_option maxRecDepth 20000 in
theorem ggX4_follow_X3_squaresAt : GoodIn wsX4_follow wsX3_squaresAt := goodIn_r _ [21, 22, 42] (by decide +kernel) (by decide +kernel)
set_option maxRecDepth 20000 in
theorem gX4_follow_X3_squaresAt : GoodIn wsX4_follow (wsV RX4 25 RX3 yX3_squaresAt wsX3_squaresAt) := goodIn_app (goodIn_of _ (by decide +kernel)) ggX4_follow_X3_squaresAt
set_option maxRecDepth 20000 in
theorem ggX4_follow_X3_byX : GoodIn wsX4_follow wsX3_byX := goodIn_r _ [26, 22, 42] (by decide +kernel) (by decide +kernel)
set_option maxRecDepth 20000 in
theorem gX4_follow_X3_byX : GoodIn wsX4_follow (wsV RX4 37 RX3 yX3_byX wsX3_byX) := goodIn_app (goodIn_of _ (by decide +kernel)) ggX4_follow_X3_byX
set_option maxRecDepth 20000 in
theorem ggX4_follow_X3_byY : GoodIn wsX4_follow wsX3_byY := goodIn_r _ [30, 22, 42] (by decide +kernel) (by decide +kernel)
set_option maxRecDepth 20000 in
theorem gX4_follow_X3_byY : GoodIn wsX4_follow (wsV RX4 40 RX3 yX3_byY wsX3_byY) := goodIn_app (goodIn_of _ (by decide +kernel)) ggX4_follow_X3_byY
set_option maxRecDepth 20000 in
theorem ggX4_follow_X3_at : GoodIn wsX4_follow wsX3_at := goodIn_r _ [34, 22, 35, 18, 19, 20, 21, 42] (by decide +kernel) (by decide +kernel)
set_option maxRecDepth 20000 in
theorem gX4_follow_X3_at : GoodIn wsX4_follow (wsV RX4 46 RX3 yX3_at wsX3_at) := goodIn_app (goodIn_of _ (by decide +kernel)) ggX4_follow_X3_at
theorem dX4_follow_0 : decode cX4_follow 0 = .ok (.aload_n 2, 1) := by decide +kernel
theorem dX4_follow_1 : decode cX4_follow 1 = .ok (.getfield 9, 3) := by decide +kernel
theorem dX4_follow_4 : decode cX4_follow 4 = .ok (.iload_n 3, 1) := by decide +kernel
theorem dX4_follow_5 : decode cX4_follow 5 = .ok (.iaload, 1) := by decide +kernel
theorem dX4_follow_6 : decode cX4_follow 6 = .ok (.istore 4, 2) := by decide +kernel
theorem dX4_follow_8 : decode cX4_follow 8 = .ok (.aload_n 2, 1) := by decide +kernel
theorem dX4_follow_9 : decode cX4_follow 9 = .ok (.getfield 15, 3) := by decide +kernel
theorem dX4_follow_12 : decode cX4_follow 12 = .ok (.iload_n 3, 1) := by decide +kernel
theorem dX4_follow_13 : decode cX4_follow 13 = .ok (.iaload, 1) := by decide +kernel
theorem dX4_follow_14 : decode cX4_follow 14 = .ok (.istore 5, 2) := by decide +kernel
theorem dX4_follow_16 : decode cX4_follow 16 = .ok (.aload_n 2, 1) := by decide +kernel
theorem dX4_follow_17 : decode cX4_follow 17 = .ok (.iload_n 3, 1) := by decide +kernel
theorem dX4_follow_18 : decode cX4_follow 18 = .ok (.invokevirtual 18, 3) := by decide +kernel
theorem dX4_follow_21 : decode cX4_follow 21 = .ok (.istore 6, 2) := by decide +kernel
theorem dX4_follow_23 : decode cX4_follow 23 = .ok (.aload_n 2, 1) := by decide +kernel
theorem dX4_follow_24 : decode cX4_follow 24 = .ok (.iload_n 3, 1) := by decide +kernel
theorem dX4_follow_25 : decode cX4_follow 25 = .ok (.invokevirtual 22, 3) := by decide +kernel
theorem dX4_follow_28 : decode cX4_follow 28 = .ok (.istore 7, 2) := by decide +kernel
theorem dX4_follow_30 : decode cX4_follow 30 = .ok (.aload_n 0, 1) := by decide +kernel
theorem dX4_follow_31 : decode cX4_follow 31 = .ok (.aload_n 1, 1) := by decide +kernel
theorem dX4_follow_32 : decode cX4_follow 32 = .ok (.iload 6, 2) := by decide +kernel
theorem dX4_follow_34 : decode cX4_follow 34 = .ok (.iload 7, 2) := by decide +kernel
theorem dX4_follow_36 : decode cX4_follow 36 = .ok (.invokevirtual 25, 3) := by decide +kernel
theorem dX4_follow_39 : decode cX4_follow 39 = .ok (.i2l, 1) := by decide +kernel
theorem dX4_follow_40 : decode cX4_follow 40 = .ok (.putfield 31, 3) := by decide +kernel
theorem dX4_follow_43 : decode cX4_follow 43 = .ok (.aload_n 0, 1) := by decide +kernel
theorem dX4_follow_44 : decode cX4_follow 44 = .ok (.iload 6, 2) := by decide +kernel
theorem dX4_follow_46 : decode cX4_follow 46 = .ok (.aload_n 1, 1) := by decide +kernel
theorem dX4_follow_47 : decode cX4_follow 47 = .ok (.iload 4, 2) := by decide +kernel
theorem dX4_follow_49 : decode cX4_follow 49 = .ok (.iload 5, 2) := by decide +kernel
theorem dX4_follow_51 : decode cX4_follow 51 = .ok (.invokevirtual 37, 3) := by decide +kernel
theorem dX4_follow_54 : decode cX4_follow 54 = .ok (.imul, 1) := by decide +kernel
theorem dX4_follow_55 : decode cX4_follow 55 = .ok (.iload 7, 2) := by decide +kernel
theorem dX4_follow_57 : decode cX4_follow 57 = .ok (.aload_n 1, 1) := by decide +kernel
theorem dX4_follow_58 : decode cX4_follow 58 = .ok (.iload 4, 2) := by decide +kernel
theorem dX4_follow_60 : decode cX4_follow 60 = .ok (.iload 5, 2) := by decide +kernel
theorem dX4_follow_62 : decode cX4_follow 62 = .ok (.invokevirtual 40, 3) := by decide +kernel
theorem dX4_follow_65 : decode cX4_follow 65 = .ok (.imul, 1) := by decide +kernel
theorem dX4_follow_66 : decode cX4_follow 66 = .ok (.iadd, 1) := by decide +kernel
theorem dX4_follow_67 : decode cX4_follow 67 = .ok (.i2l, 1) := by decide +kernel
theorem dX4_follow_68 : decode cX4_follow 68 = .ok (.putfield 43, 3) := by decide +kernel
theorem dX4_follow_71 : decode cX4_follow 71 = .ok (.aload_n 0, 1) := by decide +kernel
theorem dX4_follow_72 : decode cX4_follow 72 = .ok (.aload_n 1, 1) := by decide +kernel
theorem dX4_follow_73 : decode cX4_follow 73 = .ok (.iload 4, 2) := by decide +kernel
theorem dX4_follow_75 : decode cX4_follow 75 = .ok (.iload 5, 2) := by decide +kernel
theorem dX4_follow_77 : decode cX4_follow 77 = .ok (.invokevirtual 46, 3) := by decide +kernel
theorem dX4_follow_80 : decode cX4_follow 80 = .ok (.i2l, 1) := by decide +kernel
theorem dX4_follow_81 : decode cX4_follow 81 = .ok (.putfield 49, 3) := by decide +kernel
theorem dX4_follow_84 : decode cX4_follow 84 = .ok (.return_, 1) := by decide +kernel
theorem dX4_combine_0 : decode cX4_combine 0 = .ok (.aload_n 0, 1) := by decide +kernel
theorem dX4_combine_1 : decode cX4_combine 1 = .ok (.lload_n 1, 1) := by decide +kernel
theorem dX4_combine_2 : decode cX4_combine 2 = .ok (.aload_n 3, 1) := by decide +kernel
theorem dX4_combine_3 : decode cX4_combine 3 = .ok (.getfield 31, 3) := by decide +kernel
theorem dX4_combine_6 : decode cX4_combine 6 = .ok (.lmul, 1) := by decide +kernel
theorem dX4_combine_7 : decode cX4_combine 7 = .ok (.lload 4, 2) := by decide +kernel
theorem dX4_combine_9 : decode cX4_combine 9 = .ok (.aload 6, 2) := by decide +kernel
theorem dX4_combine_11 : decode cX4_combine 11 = .ok (.getfield 31, 3) := by decide +kernel
theorem dX4_combine_14 : decode cX4_combine 14 = .ok (.lmul, 1) := by decide +kernel
theorem dX4_combine_15 : decode cX4_combine 15 = .ok (.ladd, 1) := by decide +kernel
theorem dX4_combine_16 : decode cX4_combine 16 = .ok (.putfield 31, 3) := by decide +kernel
theorem dX4_combine_19 : decode cX4_combine 19 = .ok (.aload_n 0, 1) := by decide +kernel
theorem dX4_combine_20 : decode cX4_combine 20 = .ok (.lload_n 1, 1) := by decide +kernel
theorem dX4_combine_21 : decode cX4_combine 21 = .ok (.aload_n 3, 1) := by decide +kernel
theorem dX4_combine_22 : decode cX4_combine 22 = .ok (.getfield 43, 3) := by decide +kernel
theorem dX4_combine_25 : decode cX4_combine 25 = .ok (.lmul, 1) := by decide +kernel
theorem dX4_combine_26 : decode cX4_combine 26 = .ok (.lload 4, 2) := by decide +kernel
theorem dX4_combine_28 : decode cX4_combine 28 = .ok (.aload 6, 2) := by decide +kernel
theorem dX4_combine_30 : decode cX4_combine 30 = .ok (.getfield 43, 3) := by decide +kernel
theorem dX4_combine_33 : decode cX4_combine 33 = .ok (.lmul, 1) := by decide +kernel
theorem dX4_combine_34 : decode cX4_combine 34 = .ok (.ladd, 1) := by decide +kernel
theorem dX4_combine_35 : decode cX4_combine 35 = .ok (.putfield 43, 3) := by decide +kernel
theorem dX4_combine_38 : decode cX4_combine 38 = .ok (.aload_n 0, 1) := by decide +kernel
theorem dX4_combine_39 : decode cX4_combine 39 = .ok (.lload_n 1, 1) := by decide +kernel
theorem dX4_combine_40 : decode cX4_combine 40 = .ok (.aload_n 3, 1) := by decide +kernel
theorem dX4_combine_41 : decode cX4_combine 41 = .ok (.getfield 49, 3) := by decide +kernel
theorem dX4_combine_44 : decode cX4_combine 44 = .ok (.lmul, 1) := by decide +kernel
theorem dX4_combine_45 : decode cX4_combine 45 = .ok (.lload 4, 2) := by decide +kernel
theorem dX4_combine_47 : decode cX4_combine 47 = .ok (.aload 6, 2) := by decide +kernel
theorem dX4_combine_49 : decode cX4_combine 49 = .ok (.getfield 49, 3) := by decide +kernel
theorem dX4_combine_52 : decode cX4_combine 52 = .ok (.lmul, 1) := by decide +kernel
theorem dX4_combine_53 : decode cX4_combine 53 = .ok (.ladd, 1) := by decide +kernel
theorem dX4_combine_54 : decode cX4_combine 54 = .ok (.putfield 49, 3) := by decide +kernel
theorem dX4_combine_57 : decode cX4_combine 57 = .ok (.return_, 1) := by decide +kernel
theorem dX4_isZero_0 : decode cX4_isZero 0 = .ok (.aload_n 0, 1) := by decide +kernel
theorem dX4_isZero_1 : decode cX4_isZero 1 = .ok (.getfield 31, 3) := by decide +kernel
theorem dX4_isZero_4 : decode cX4_isZero 4 = .ok (.lconst 0, 1) := by decide +kernel
theorem dX4_isZero_5 : decode cX4_isZero 5 = .ok (.lcmp, 1) := by decide +kernel
theorem dX4_isZero_6 : decode cX4_isZero 6 = .ok (.ifCond .ne 25, 3) := by decide +kernel
theorem dX4_isZero_9 : decode cX4_isZero 9 = .ok (.aload_n 0, 1) := by decide +kernel
theorem dX4_isZero_10 : decode cX4_isZero 10 = .ok (.getfield 43, 3) := by decide +kernel
theorem dX4_isZero_13 : decode cX4_isZero 13 = .ok (.lconst 0, 1) := by decide +kernel
theorem dX4_isZero_14 : decode cX4_isZero 14 = .ok (.lcmp, 1) := by decide +kernel
theorem dX4_isZero_15 : decode cX4_isZero 15 = .ok (.ifCond .ne 16, 3) := by decide +kernel
theorem dX4_isZero_18 : decode cX4_isZero 18 = .ok (.aload_n 0, 1) := by decide +kernel
theorem dX4_isZero_19 : decode cX4_isZero 19 = .ok (.getfield 49, 3) := by decide +kernel
theorem dX4_isZero_22 : decode cX4_isZero 22 = .ok (.lconst 0, 1) := by decide +kernel
theorem dX4_isZero_23 : decode cX4_isZero 23 = .ok (.lcmp, 1) := by decide +kernel
theorem dX4_isZero_24 : decode cX4_isZero 24 = .ok (.ifCond .ne 7, 3) := by decide +kernel
theorem dX4_isZero_27 : decode cX4_isZero 27 = .ok (.iconst 1, 1) := by decide +kernel
theorem dX4_isZero_28 : decode cX4_isZero 28 = .ok (.goto 4, 3) := by decide +kernel
theorem dX4_isZero_31 : decode cX4_isZero 31 = .ok (.iconst 0, 1) := by decide +kernel
theorem dX4_isZero_32 : decode cX4_isZero 32 = .ok (.ireturn, 1) := by decide +kernel
theorem dX4_discriminant_0 : decode cX4_discriminant 0 = .ok (.aload_n 0, 1) := by decide +kernel
theorem dX4_discriminant_1 : decode cX4_discriminant 1 = .ok (.getfield 43, 3) := by decide +kernel
theorem dX4_discriminant_4 : decode cX4_discriminant 4 = .ok (.aload_n 0, 1) := by decide +kernel
theorem dX4_discriminant_5 : decode cX4_discriminant 5 = .ok (.getfield 43, 3) := by decide +kernel
theorem dX4_discriminant_8 : decode cX4_discriminant 8 = .ok (.lmul, 1) := by decide +kernel
theorem dX4_discriminant_9 : decode cX4_discriminant 9 = .ok (.ldc2_w 52, 3) := by decide +kernel
theorem dX4_discriminant_12 : decode cX4_discriminant 12 = .ok (.aload_n 0, 1) := by decide +kernel
theorem dX4_discriminant_13 : decode cX4_discriminant 13 = .ok (.getfield 31, 3) := by decide +kernel
theorem dX4_discriminant_16 : decode cX4_discriminant 16 = .ok (.lmul, 1) := by decide +kernel
theorem dX4_discriminant_17 : decode cX4_discriminant 17 = .ok (.aload_n 0, 1) := by decide +kernel
theorem dX4_discriminant_18 : decode cX4_discriminant 18 = .ok (.getfield 49, 3) := by decide +kernel
theorem dX4_discriminant_21 : decode cX4_discriminant 21 = .ok (.lmul, 1) := by decide +kernel
theorem dX4_discriminant_22 : decode cX4_discriminant 22 = .ok (.lsub, 1) := by decide +kernel
theorem dX4_discriminant_23 : decode cX4_discriminant 23 = .ok (.lreturn, 1) := by decide +kernel
set_option maxRecDepth 20000 in
theorem ggX4_rootCount_X4_discriminant : GoodIn wsX4_rootCount wsX4_discriminant := goodIn_r _ [7, 2, 8, 1, 9, 10, 11, 12] (by decide +kernel) (by decide +kernel)
set_option maxRecDepth 20000 in
theorem gX4_rootCount_X4_discriminant : GoodIn wsX4_rootCount (wsV RX4 54 RX4 yX4_discriminant wsX4_discriminant) := goodIn_app (goodIn_of _ (by decide +kernel)) ggX4_rootCount_X4_discriminant

theorem dX4_rootCount_0 : decode cX4_rootCount 0 = .ok (.aload_n 0, 1) := by decide +kernel
theorem dX4_rootCount_1 : decode cX4_rootCount 1 = .ok (.getfield 31, 3) := by decide +kernel
theorem dX4_rootCount_4 : decode cX4_rootCount 4 = .ok (.lconst 0, 1) := by decide +kernel
theorem dX4_rootCount_5 : decode cX4_rootCount 5 = .ok (.lcmp, 1) := by decide +kernel
theorem dX4_rootCount_6 : decode cX4_rootCount 6 = .ok (.ifCond .ne 18, 3) := by decide +kernel
theorem dX4_rootCount_9 : decode cX4_rootCount 9 = .ok (.aload_n 0, 1) := by decide +kernel
theorem dX4_rootCount_10 : decode cX4_rootCount 10 = .ok (.getfield 43, 3) := by decide +kernel
theorem dX4_rootCount_13 : decode cX4_rootCount 13 = .ok (.lconst 0, 1) := by decide +kernel
theorem dX4_rootCount_14 : decode cX4_rootCount 14 = .ok (.lcmp, 1) := by decide +kernel
theorem dX4_rootCount_15 : decode cX4_rootCount 15 = .ok (.ifCond .ne 7, 3) := by decide +kernel
theorem dX4_rootCount_18 : decode cX4_rootCount 18 = .ok (.iconst 0, 1) := by decide +kernel
theorem dX4_rootCount_19 : decode cX4_rootCount 19 = .ok (.goto 4, 3) := by decide +kernel
theorem dX4_rootCount_22 : decode cX4_rootCount 22 = .ok (.iconst 1, 1) := by decide +kernel
theorem dX4_rootCount_23 : decode cX4_rootCount 23 = .ok (.ireturn, 1) := by decide +kernel
theorem dX4_rootCount_24 : decode cX4_rootCount 24 = .ok (.aload_n 0, 1) := by decide +kernel
theorem dX4_rootCount_25 : decode cX4_rootCount 25 = .ok (.invokevirtual 54, 3) := by decide +kernel
theorem dX4_rootCount_28 : decode cX4_rootCount 28 = .ok (.lstore_n 1, 1) := by decide +kernel
theorem dX4_rootCount_29 : decode cX4_rootCount 29 = .ok (.lload_n 1, 1) := by decide +kernel
theorem dX4_rootCount_30 : decode cX4_rootCount 30 = .ok (.lconst 0, 1) := by decide +kernel
theorem dX4_rootCount_31 : decode cX4_rootCount 31 = .ok (.lcmp, 1) := by decide +kernel
theorem dX4_rootCount_32 : decode cX4_rootCount 32 = .ok (.ifCond .ne 5, 3) := by decide +kernel
theorem dX4_rootCount_35 : decode cX4_rootCount 35 = .ok (.iconst 1, 1) := by decide +kernel
theorem dX4_rootCount_36 : decode cX4_rootCount 36 = .ok (.ireturn, 1) := by decide +kernel
theorem dX4_rootCount_37 : decode cX4_rootCount 37 = .ok (.lload_n 1, 1) := by decide +kernel
theorem dX4_rootCount_38 : decode cX4_rootCount 38 = .ok (.lconst 0, 1) := by decide +kernel
theorem dX4_rootCount_39 : decode cX4_rootCount 39 = .ok (.lcmp, 1) := by decide +kernel
theorem dX4_rootCount_40 : decode cX4_rootCount 40 = .ok (.ifCond .le 7, 3) := by decide +kernel
theorem dX4_rootCount_43 : decode cX4_rootCount 43 = .ok (.iconst 2, 1) := by decide +kernel
theorem dX4_rootCount_44 : decode cX4_rootCount 44 = .ok (.goto 4, 3) := by decide +kernel
theorem dX4_rootCount_47 : decode cX4_rootCount 47 = .ok (.iconst 0, 1) := by decide +kernel
theorem dX4_rootCount_48 : decode cX4_rootCount 48 = .ok (.ireturn, 1) := by decide +kernel
theorem dX4_branch_0 : decode cX4_branch 0 = .ok (.iload_n 1, 1) := by decide +kernel
theorem dX4_branch_1 : decode cX4_branch 1 = .ok (.ifCond .ne 7, 3) := by decide +kernel
theorem dX4_branch_4 : decode cX4_branch 4 = .ok (.iconst (-1), 1) := by decide +kernel
theorem dX4_branch_5 : decode cX4_branch 5 = .ok (.goto 4, 3) := by decide +kernel
theorem dX4_branch_8 : decode cX4_branch 8 = .ok (.iconst 1, 1) := by decide +kernel
theorem dX4_branch_9 : decode cX4_branch 9 = .ok (.ireturn, 1) := by decide +kernel
set_option maxRecDepth 20000 in
theorem ggX4_signAtRoot_J13_signum_95d88 : GoodIn wsX4_signAtRoot wsJ13_signum_95d88 := goodIn_r _ [8] (by decide +kernel) (by decide +kernel)
set_option maxRecDepth 20000 in
theorem gX4_signAtRoot_J13_signum_95d88 : GoodIn wsX4_signAtRoot (va_wsS RX4 58 yJ13_signum_95d88 wsJ13_signum_95d88) := goodIn_app (goodIn_of _ (by decide +kernel)) ggX4_signAtRoot_J13_signum_95d88
set_option maxRecDepth 20000 in
theorem ggX4_signAtRoot_X4_discriminant : GoodIn wsX4_signAtRoot wsX4_discriminant := goodIn_r _ [13, 3, 14, 1, 2, 19, 20, 21] (by decide +kernel) (by decide +kernel)
set_option maxRecDepth 20000 in
theorem gX4_signAtRoot_X4_discriminant : GoodIn wsX4_signAtRoot (wsV RX4 54 RX4 yX4_discriminant wsX4_discriminant) := goodIn_app (goodIn_of _ (by decide +kernel)) ggX4_signAtRoot_X4_discriminant
set_option maxRecDepth 20000 in
theorem ggX4_signAtRoot_X4_branch : GoodIn wsX4_signAtRoot wsX4_branch := goodIn_r _ [18] (by decide +kernel) (by decide +kernel)
set_option maxRecDepth 20000 in
theorem gX4_signAtRoot_X4_branch : GoodIn wsX4_signAtRoot (wsV RX4 66 RX4 yX4_branch wsX4_branch) := goodIn_app (goodIn_of _ (by decide +kernel)) ggX4_signAtRoot_X4_branch
theorem dX4_signAtRoot_0 : decode cX4_signAtRoot 0 = .ok (.aload_n 0, 1) := by decide +kernel
theorem dX4_signAtRoot_1 : decode cX4_signAtRoot 1 = .ok (.getfield 31, 3) := by decide +kernel
theorem dX4_signAtRoot_4 : decode cX4_signAtRoot 4 = .ok (.lconst 0, 1) := by decide +kernel
theorem dX4_signAtRoot_5 : decode cX4_signAtRoot 5 = .ok (.lcmp, 1) := by decide +kernel
theorem dX4_signAtRoot_6 : decode cX4_signAtRoot 6 = .ok (.ifCond .ne 44, 3) := by decide +kernel
theorem dX4_signAtRoot_9 : decode cX4_signAtRoot 9 = .ok (.lload_n 2, 1) := by decide +kernel
theorem dX4_signAtRoot_10 : decode cX4_signAtRoot 10 = .ok (.aload_n 0, 1) := by decide +kernel
theorem dX4_signAtRoot_11 : decode cX4_signAtRoot 11 = .ok (.getfield 49, 3) := by decide +kernel
theorem dX4_signAtRoot_14 : decode cX4_signAtRoot 14 = .ok (.lmul, 1) := by decide +kernel
theorem dX4_signAtRoot_15 : decode cX4_signAtRoot 15 = .ok (.aload_n 0, 1) := by decide +kernel
theorem dX4_signAtRoot_16 : decode cX4_signAtRoot 16 = .ok (.getfield 49, 3) := by decide +kernel
theorem dX4_signAtRoot_19 : decode cX4_signAtRoot 19 = .ok (.lmul, 1) := by decide +kernel
theorem dX4_signAtRoot_20 : decode cX4_signAtRoot 20 = .ok (.lload 4, 2) := by decide +kernel
theorem dX4_signAtRoot_22 : decode cX4_signAtRoot 22 = .ok (.aload_n 0, 1) := by decide +kernel
theorem dX4_signAtRoot_23 : decode cX4_signAtRoot 23 = .ok (.getfield 43, 3) := by decide +kernel
theorem dX4_signAtRoot_26 : decode cX4_signAtRoot 26 = .ok (.lmul, 1) := by decide +kernel
theorem dX4_signAtRoot_27 : decode cX4_signAtRoot 27 = .ok (.aload_n 0, 1) := by decide +kernel
theorem dX4_signAtRoot_28 : decode cX4_signAtRoot 28 = .ok (.getfield 49, 3) := by decide +kernel
theorem dX4_signAtRoot_31 : decode cX4_signAtRoot 31 = .ok (.lmul, 1) := by decide +kernel
theorem dX4_signAtRoot_32 : decode cX4_signAtRoot 32 = .ok (.lsub, 1) := by decide +kernel
theorem dX4_signAtRoot_33 : decode cX4_signAtRoot 33 = .ok (.lload 6, 2) := by decide +kernel
theorem dX4_signAtRoot_35 : decode cX4_signAtRoot 35 = .ok (.aload_n 0, 1) := by decide +kernel
theorem dX4_signAtRoot_36 : decode cX4_signAtRoot 36 = .ok (.getfield 43, 3) := by decide +kernel
theorem dX4_signAtRoot_39 : decode cX4_signAtRoot 39 = .ok (.lmul, 1) := by decide +kernel
theorem dX4_signAtRoot_40 : decode cX4_signAtRoot 40 = .ok (.aload_n 0, 1) := by decide +kernel
theorem dX4_signAtRoot_41 : decode cX4_signAtRoot 41 = .ok (.getfield 43, 3) := by decide +kernel
theorem dX4_signAtRoot_44 : decode cX4_signAtRoot 44 = .ok (.lmul, 1) := by decide +kernel
theorem dX4_signAtRoot_45 : decode cX4_signAtRoot 45 = .ok (.ladd, 1) := by decide +kernel
theorem dX4_signAtRoot_46 : decode cX4_signAtRoot 46 = .ok (.invokestatic 58, 3) := by decide +kernel
theorem dX4_signAtRoot_49 : decode cX4_signAtRoot 49 = .ok (.ireturn, 1) := by decide +kernel
theorem dX4_signAtRoot_50 : decode cX4_signAtRoot 50 = .ok (.aload_n 0, 1) := by decide +kernel
theorem dX4_signAtRoot_51 : decode cX4_signAtRoot 51 = .ok (.getfield 31, 3) := by decide +kernel
theorem dX4_signAtRoot_54 : decode cX4_signAtRoot 54 = .ok (.lload 4, 2) := by decide +kernel
theorem dX4_signAtRoot_56 : decode cX4_signAtRoot 56 = .ok (.lmul, 1) := by decide +kernel
theorem dX4_signAtRoot_57 : decode cX4_signAtRoot 57 = .ok (.lload_n 2, 1) := by decide +kernel
theorem dX4_signAtRoot_58 : decode cX4_signAtRoot 58 = .ok (.aload_n 0, 1) := by decide +kernel
theorem dX4_signAtRoot_59 : decode cX4_signAtRoot 59 = .ok (.getfield 43, 3) := by decide +kernel
theorem dX4_signAtRoot_62 : decode cX4_signAtRoot 62 = .ok (.lmul, 1) := by decide +kernel
theorem dX4_signAtRoot_63 : decode cX4_signAtRoot 63 = .ok (.lsub, 1) := by decide +kernel
theorem dX4_signAtRoot_64 : decode cX4_signAtRoot 64 = .ok (.lstore 8, 2) := by decide +kernel
theorem dX4_signAtRoot_66 : decode cX4_signAtRoot 66 = .ok (.aload_n 0, 1) := by decide +kernel
theorem dX4_signAtRoot_67 : decode cX4_signAtRoot 67 = .ok (.getfield 31, 3) := by decide +kernel
theorem dX4_signAtRoot_70 : decode cX4_signAtRoot 70 = .ok (.lload 6, 2) := by decide +kernel
theorem dX4_signAtRoot_72 : decode cX4_signAtRoot 72 = .ok (.lmul, 1) := by decide +kernel
theorem dX4_signAtRoot_73 : decode cX4_signAtRoot 73 = .ok (.lload_n 2, 1) := by decide +kernel
theorem dX4_signAtRoot_74 : decode cX4_signAtRoot 74 = .ok (.aload_n 0, 1) := by decide +kernel
theorem dX4_signAtRoot_75 : decode cX4_signAtRoot 75 = .ok (.getfield 49, 3) := by decide +kernel
theorem dX4_signAtRoot_78 : decode cX4_signAtRoot 78 = .ok (.lmul, 1) := by decide +kernel
theorem dX4_signAtRoot_79 : decode cX4_signAtRoot 79 = .ok (.lsub, 1) := by decide +kernel
theorem dX4_signAtRoot_80 : decode cX4_signAtRoot 80 = .ok (.lstore 10, 2) := by decide +kernel
theorem dX4_signAtRoot_82 : decode cX4_signAtRoot 82 = .ok (.aload_n 0, 1) := by decide +kernel
theorem dX4_signAtRoot_83 : decode cX4_signAtRoot 83 = .ok (.getfield 43, 3) := by decide +kernel
theorem dX4_signAtRoot_86 : decode cX4_signAtRoot 86 = .ok (.lload 6, 2) := by decide +kernel
theorem dX4_signAtRoot_88 : decode cX4_signAtRoot 88 = .ok (.lmul, 1) := by decide +kernel
theorem dX4_signAtRoot_89 : decode cX4_signAtRoot 89 = .ok (.lload 4, 2) := by decide +kernel
theorem dX4_signAtRoot_91 : decode cX4_signAtRoot 91 = .ok (.aload_n 0, 1) := by decide +kernel
theorem dX4_signAtRoot_92 : decode cX4_signAtRoot 92 = .ok (.getfield 49, 3) := by decide +kernel
theorem dX4_signAtRoot_95 : decode cX4_signAtRoot 95 = .ok (.lmul, 1) := by decide +kernel
theorem dX4_signAtRoot_96 : decode cX4_signAtRoot 96 = .ok (.lsub, 1) := by decide +kernel
theorem dX4_signAtRoot_97 : decode cX4_signAtRoot 97 = .ok (.lstore 12, 2) := by decide +kernel
theorem dX4_signAtRoot_99 : decode cX4_signAtRoot 99 = .ok (.ldc2_w 64, 3) := by decide +kernel
theorem dX4_signAtRoot_102 : decode cX4_signAtRoot 102 = .ok (.aload_n 0, 1) := by decide +kernel
theorem dX4_signAtRoot_103 : decode cX4_signAtRoot 103 = .ok (.getfield 31, 3) := by decide +kernel
theorem dX4_signAtRoot_106 : decode cX4_signAtRoot 106 = .ok (.lmul, 1) := by decide +kernel
theorem dX4_signAtRoot_107 : decode cX4_signAtRoot 107 = .ok (.lload 10, 2) := by decide +kernel
theorem dX4_signAtRoot_109 : decode cX4_signAtRoot 109 = .ok (.lmul, 1) := by decide +kernel
theorem dX4_signAtRoot_110 : decode cX4_signAtRoot 110 = .ok (.lload 8, 2) := by decide +kernel
theorem dX4_signAtRoot_112 : decode cX4_signAtRoot 112 = .ok (.aload_n 0, 1) := by decide +kernel
theorem dX4_signAtRoot_113 : decode cX4_signAtRoot 113 = .ok (.getfield 43, 3) := by decide +kernel
theorem dX4_signAtRoot_116 : decode cX4_signAtRoot 116 = .ok (.lmul, 1) := by decide +kernel
theorem dX4_signAtRoot_117 : decode cX4_signAtRoot 117 = .ok (.lsub, 1) := by decide +kernel
theorem dX4_signAtRoot_118 : decode cX4_signAtRoot 118 = .ok (.invokestatic 58, 3) := by decide +kernel
theorem dX4_signAtRoot_121 : decode cX4_signAtRoot 121 = .ok (.istore 14, 2) := by decide +kernel
theorem dX4_signAtRoot_123 : decode cX4_signAtRoot 123 = .ok (.aload_n 0, 1) := by decide +kernel
theorem dX4_signAtRoot_124 : decode cX4_signAtRoot 124 = .ok (.invokevirtual 54, 3) := by decide +kernel
theorem dX4_signAtRoot_127 : decode cX4_signAtRoot 127 = .ok (.lconst 0, 1) := by decide +kernel
theorem dX4_signAtRoot_128 : decode cX4_signAtRoot 128 = .ok (.lcmp, 1) := by decide +kernel
theorem dX4_signAtRoot_129 : decode cX4_signAtRoot 129 = .ok (.ifCond .ne 7, 3) := by decide +kernel
theorem dX4_signAtRoot_132 : decode cX4_signAtRoot 132 = .ok (.iconst 0, 1) := by decide +kernel
theorem dX4_signAtRoot_133 : decode cX4_signAtRoot 133 = .ok (.goto 14, 3) := by decide +kernel
theorem dX4_signAtRoot_136 : decode cX4_signAtRoot 136 = .ok (.aload_n 0, 1) := by decide +kernel
theorem dX4_signAtRoot_137 : decode cX4_signAtRoot 137 = .ok (.iload_n 1, 1) := by decide +kernel
theorem dX4_signAtRoot_138 : decode cX4_signAtRoot 138 = .ok (.invokevirtual 66, 3) := by decide +kernel
theorem dX4_signAtRoot_141 : decode cX4_signAtRoot 141 = .ok (.lload 8, 2) := by decide +kernel
theorem dX4_signAtRoot_143 : decode cX4_signAtRoot 143 = .ok (.invokestatic 58, 3) := by decide +kernel
theorem dX4_signAtRoot_146 : decode cX4_signAtRoot 146 = .ok (.imul, 1) := by decide +kernel
theorem dX4_signAtRoot_147 : decode cX4_signAtRoot 147 = .ok (.istore 15, 2) := by decide +kernel
theorem dX4_signAtRoot_149 : decode cX4_signAtRoot 149 = .ok (.iload 14, 2) := by decide +kernel
theorem dX4_signAtRoot_151 : decode cX4_signAtRoot 151 = .ok (.iload 15, 2) := by decide +kernel
theorem dX4_signAtRoot_153 : decode cX4_signAtRoot 153 = .ok (.imul, 1) := by decide +kernel
theorem dX4_signAtRoot_154 : decode cX4_signAtRoot 154 = .ok (.ifCond .lt 16, 3) := by decide +kernel
theorem dX4_signAtRoot_157 : decode cX4_signAtRoot 157 = .ok (.iload 14, 2) := by decide +kernel
theorem dX4_signAtRoot_159 : decode cX4_signAtRoot 159 = .ok (.ifCond .eq 8, 3) := by decide +kernel
theorem dX4_signAtRoot_162 : decode cX4_signAtRoot 162 = .ok (.iload 14, 2) := by decide +kernel
theorem dX4_signAtRoot_164 : decode cX4_signAtRoot 164 = .ok (.goto 5, 3) := by decide +kernel
theorem dX4_signAtRoot_167 : decode cX4_signAtRoot 167 = .ok (.iload 15, 2) := by decide +kernel
theorem dX4_signAtRoot_169 : decode cX4_signAtRoot 169 = .ok (.ireturn, 1) := by decide +kernel
theorem dX4_signAtRoot_170 : decode cX4_signAtRoot 170 = .ok (.lload 10, 2) := by decide +kernel
theorem dX4_signAtRoot_172 : decode cX4_signAtRoot 172 = .ok (.lload 10, 2) := by decide +kernel
theorem dX4_signAtRoot_174 : decode cX4_signAtRoot 174 = .ok (.lmul, 1) := by decide +kernel
theorem dX4_signAtRoot_175 : decode cX4_signAtRoot 175 = .ok (.lload 8, 2) := by decide +kernel
theorem dX4_signAtRoot_177 : decode cX4_signAtRoot 177 = .ok (.lload 12, 2) := by decide +kernel
theorem dX4_signAtRoot_179 : decode cX4_signAtRoot 179 = .ok (.lmul, 1) := by decide +kernel
theorem dX4_signAtRoot_180 : decode cX4_signAtRoot 180 = .ok (.lsub, 1) := by decide +kernel
theorem dX4_signAtRoot_181 : decode cX4_signAtRoot 181 = .ok (.invokestatic 58, 3) := by decide +kernel
theorem dX4_signAtRoot_184 : decode cX4_signAtRoot 184 = .ok (.istore 16, 2) := by decide +kernel
theorem dX4_signAtRoot_186 : decode cX4_signAtRoot 186 = .ok (.iload 16, 2) := by decide +kernel
theorem dX4_signAtRoot_188 : decode cX4_signAtRoot 188 = .ok (.ifCond .lt 11, 3) := by decide +kernel
theorem dX4_signAtRoot_191 : decode cX4_signAtRoot 191 = .ok (.iload 14, 2) := by decide +kernel
theorem dX4_signAtRoot_193 : decode cX4_signAtRoot 193 = .ok (.iload 16, 2) := by decide +kernel
theorem dX4_signAtRoot_195 : decode cX4_signAtRoot 195 = .ok (.imul, 1) := by decide +kernel
theorem dX4_signAtRoot_196 : decode cX4_signAtRoot 196 = .ok (.goto 5, 3) := by decide +kernel
theorem dX4_signAtRoot_199 : decode cX4_signAtRoot 199 = .ok (.iload 15, 2) := by decide +kernel
theorem dX4_signAtRoot_201 : decode cX4_signAtRoot 201 = .ok (.ireturn, 1) := by decide +kernel
set_option maxRecDepth 20000 in
theorem ggX4_signAtRootOf_X4_signAtRoot : GoodIn wsX4_signAtRootOf wsX4_signAtRoot := goodIn_r _ [8, 1, 3, 2, 9, 10, 11, 12, 13, 14, 15, 16, 7, 17, 18, 19, 20, 21, 22, 23, 24, 25] (by decide +kernel) (by decide +kernel)
set_option maxRecDepth 20000 in
theorem gX4_signAtRootOf_X4_signAtRoot : GoodIn wsX4_signAtRootOf (wsV RX4 69 RX4 yX4_signAtRoot wsX4_signAtRoot) := goodIn_app (goodIn_of _ (by decide +kernel)) ggX4_signAtRootOf_X4_signAtRoot
theorem dX4_signAtRootOf_0 : decode cX4_signAtRootOf 0 = .ok (.aload_n 1, 1) := by decide +kernel
theorem dX4_signAtRootOf_1 : decode cX4_signAtRootOf 1 = .ok (.iload_n 2, 1) := by decide +kernel
theorem dX4_signAtRootOf_2 : decode cX4_signAtRootOf 2 = .ok (.aload_n 0, 1) := by decide +kernel
theorem dX4_signAtRootOf_3 : decode cX4_signAtRootOf 3 = .ok (.getfield 31, 3) := by decide +kernel
theorem dX4_signAtRootOf_6 : decode cX4_signAtRootOf 6 = .ok (.aload_n 0, 1) := by decide +kernel
theorem dX4_signAtRootOf_7 : decode cX4_signAtRootOf 7 = .ok (.getfield 43, 3) := by decide +kernel
theorem dX4_signAtRootOf_10 : decode cX4_signAtRootOf 10 = .ok (.aload_n 0, 1) := by decide +kernel
theorem dX4_signAtRootOf_11 : decode cX4_signAtRootOf 11 = .ok (.getfield 49, 3) := by decide +kernel
theorem dX4_signAtRootOf_14 : decode cX4_signAtRootOf 14 = .ok (.invokevirtual 69, 3) := by decide +kernel
theorem dX4_signAtRootOf_17 : decode cX4_signAtRootOf 17 = .ok (.ireturn, 1) := by decide +kernel
set_option maxRecDepth 20000 in
theorem ggX4_sideOfStart_X4_signAtRoot : GoodIn wsX4_sideOfStart wsX4_signAtRoot := goodIn_r _ [5, 6, 7, 8, 9, 10, 11, 12, 13, 14, 15, 16, 4, 17, 18, 19, 20, 21, 22, 23, 24, 25] (by decide +kernel) (by decide +kernel)
set_option maxRecDepth 20000 in
theorem gX4_sideOfStart_X4_signAtRoot : GoodIn wsX4_sideOfStart (wsV RX4 69 RX4 yX4_signAtRoot wsX4_signAtRoot) := goodIn_app (goodIn_of _ (by decide +kernel)) ggX4_sideOfStart_X4_signAtRoot
theorem dX4_sideOfStart_0 : decode cX4_sideOfStart 0 = .ok (.aload_n 0, 1) := by decide +kernel
theorem dX4_sideOfStart_1 : decode cX4_sideOfStart 1 = .ok (.iload_n 1, 1) := by decide +kernel
theorem dX4_sideOfStart_2 : decode cX4_sideOfStart 2 = .ok (.lconst 0, 1) := by decide +kernel
theorem dX4_sideOfStart_3 : decode cX4_sideOfStart 3 = .ok (.lconst 1, 1) := by decide +kernel
theorem dX4_sideOfStart_4 : decode cX4_sideOfStart 4 = .ok (.lconst 0, 1) := by decide +kernel
theorem dX4_sideOfStart_5 : decode cX4_sideOfStart 5 = .ok (.invokevirtual 69, 3) := by decide +kernel
theorem dX4_sideOfStart_8 : decode cX4_sideOfStart 8 = .ok (.ireturn, 1) := by decide +kernel
set_option maxRecDepth 20000 in
theorem ggX4_sideOfEnd_X4_signAtRoot : GoodIn wsX4_sideOfEnd wsX4_signAtRoot := goodIn_r _ [6, 7, 8, 9, 10, 11, 12, 13, 14, 15, 16, 17, 5, 18, 19, 20, 21, 22, 23, 24, 25, 26] (by decide +kernel) (by decide +kernel)
set_option maxRecDepth 20000 in
theorem gX4_sideOfEnd_X4_signAtRoot : GoodIn wsX4_sideOfEnd (wsV RX4 69 RX4 yX4_signAtRoot wsX4_signAtRoot) := goodIn_app (goodIn_of _ (by decide +kernel)) ggX4_sideOfEnd_X4_signAtRoot
theorem dX4_sideOfEnd_0 : decode cX4_sideOfEnd 0 = .ok (.aload_n 0, 1) := by decide +kernel
theorem dX4_sideOfEnd_1 : decode cX4_sideOfEnd 1 = .ok (.iload_n 1, 1) := by decide +kernel
theorem dX4_sideOfEnd_2 : decode cX4_sideOfEnd 2 = .ok (.lconst 0, 1) := by decide +kernel
theorem dX4_sideOfEnd_3 : decode cX4_sideOfEnd 3 = .ok (.lconst 1, 1) := by decide +kernel
theorem dX4_sideOfEnd_4 : decode cX4_sideOfEnd 4 = .ok (.ldc2_w 73, 3) := by decide +kernel
theorem dX4_sideOfEnd_7 : decode cX4_sideOfEnd 7 = .ok (.invokevirtual 69, 3) := by decide +kernel
theorem dX4_sideOfEnd_10 : decode cX4_sideOfEnd 10 = .ok (.ireturn, 1) := by decide +kernel
set_option maxRecDepth 20000 in
theorem ggX4_isOnPiece_X4_sideOfStart : GoodIn wsX4_isOnPiece wsX4_sideOfStart := goodIn_r _ [5, 6, 7, 8, 4, 9, 10, 11, 12, 13, 14, 15, 16, 17, 18, 19, 20, 21, 22, 23, 24, 25, 26, 32, 33, 34] (by decide +kernel) (by decide +kernel)
set_option maxRecDepth 20000 in
theorem gX4_isOnPiece_X4_sideOfStart : GoodIn wsX4_isOnPiece (wsV RX4 75 RX4 yX4_sideOfStart wsX4_sideOfStart) := goodIn_app (goodIn_of _ (by decide +kernel)) ggX4_isOnPiece_X4_sideOfStart
set_option maxRecDepth 20000 in
theorem ggX4_isOnPiece_X4_sideOfEnd : GoodIn wsX4_isOnPiece wsX4_sideOfEnd := goodIn_r _ [30, 31, 6, 7, 8, 4, 9, 10, 11, 12, 13, 14, 15, 16, 17, 18, 19, 20, 21, 22, 23, 24, 25, 26, 32, 33, 34] (by decide +kernel) (by decide +kernel)
set_option maxRecDepth 20000 in
theorem gX4_isOnPiece_X4_sideOfEnd : GoodIn wsX4_isOnPiece (wsV RX4 78 RX4 yX4_sideOfEnd wsX4_sideOfEnd) := goodIn_app (goodIn_of _ (by decide +kernel)) ggX4_isOnPiece_X4_sideOfEnd
theorem dX4_isOnPiece_0 : decode cX4_isOnPiece 0 = .ok (.aload_n 0, 1) := by decide +kernel
theorem dX4_isOnPiece_1 : decode cX4_isOnPiece 1 = .ok (.iload_n 1, 1) := by decide +kernel
theorem dX4_isOnPiece_2 : decode cX4_isOnPiece 2 = .ok (.invokevirtual 75, 3) := by decide +kernel
theorem dX4_isOnPiece_5 : decode cX4_isOnPiece 5 = .ok (.ifCond .lt 15, 3) := by decide +kernel
theorem dX4_isOnPiece_8 : decode cX4_isOnPiece 8 = .ok (.aload_n 0, 1) := by decide +kernel
theorem dX4_isOnPiece_9 : decode cX4_isOnPiece 9 = .ok (.iload_n 1, 1) := by decide +kernel
theorem dX4_isOnPiece_10 : decode cX4_isOnPiece 10 = .ok (.invokevirtual 78, 3) := by decide +kernel
theorem dX4_isOnPiece_13 : decode cX4_isOnPiece 13 = .ok (.ifCond .gt 7, 3) := by decide +kernel
theorem dX4_isOnPiece_16 : decode cX4_isOnPiece 16 = .ok (.iconst 1, 1) := by decide +kernel
theorem dX4_isOnPiece_17 : decode cX4_isOnPiece 17 = .ok (.goto 4, 3) := by decide +kernel
theorem dX4_isOnPiece_20 : decode cX4_isOnPiece 20 = .ok (.iconst 0, 1) := by decide +kernel
theorem dX4_isOnPiece_21 : decode cX4_isOnPiece 21 = .ok (.ireturn, 1) := by decide +kernel
set_option maxRecDepth 20000 in
theorem ggX4_zerosOnPiece_X4_isZero : GoodIn wsX4_zerosOnPiece wsX4_isZero := goodIn_r _ [5, 6, 7, 8, 44, 45, 46] (by decide +kernel) (by decide +kernel)
set_option maxRecDepth 20000 in
theorem gX4_zerosOnPiece_X4_isZero : GoodIn wsX4_zerosOnPiece (wsV RX4 81 RX4 yX4_isZero wsX4_isZero) := goodIn_app (goodIn_of _ (by decide +kernel)) ggX4_zerosOnPiece_X4_isZero
set_option maxRecDepth 20000 in
theorem ggX4_zerosOnPiece_X4_rootCount : GoodIn wsX4_zerosOnPiece wsX4_rootCount := goodIn_r _ [12, 6, 7, 13, 14, 15, 4, 16, 17, 8, 44, 45, 46] (by decide +kernel) (by decide +kernel)
set_option maxRecDepth 20000 in
theorem gX4_zerosOnPiece_X4_rootCount : GoodIn wsX4_zerosOnPiece (wsV RX4 85 RX4 yX4_rootCount wsX4_rootCount) := goodIn_app (goodIn_of _ (by decide +kernel)) ggX4_zerosOnPiece_X4_rootCount
set_option maxRecDepth 20000 in
theorem ggX4_zerosOnPiece_X4_isOnPiece : GoodIn wsX4_zerosOnPiece wsX4_isOnPiece := goodIn_r _ [21, 22, 23, 24, 4, 25, 26, 27, 28, 29, 6, 8, 7, 30, 31, 32, 33, 34, 13, 14, 15, 16, 17, 35, 36, 37, 38, 39, 40, 41, 42, 43, 44, 45, 46] (by decide +kernel) (by decide +kernel)
set_option maxRecDepth 20000 in
theorem gX4_zerosOnPiece_X4_isOnPiece : GoodIn wsX4_zerosOnPiece (wsV RX4 89 RX4 yX4_isOnPiece wsX4_isOnPiece) := goodIn_app (goodIn_of _ (by decide +kernel)) ggX4_zerosOnPiece_X4_isOnPiece
theorem dX4_zerosOnPiece_0 : decode cX4_zerosOnPiece 0 = .ok (.aload_n 0, 1) := by decide +kernel
theorem dX4_zerosOnPiece_1 : decode cX4_zerosOnPiece 1 = .ok (.invokevirtual 81, 3) := by decide +kernel
theorem dX4_zerosOnPiece_4 : decode cX4_zerosOnPiece 4 = .ok (.ifCond .eq 5, 3) := by decide +kernel
theorem dX4_zerosOnPiece_7 : decode cX4_zerosOnPiece 7 = .ok (.iconst 3, 1) := by decide +kernel
theorem dX4_zerosOnPiece_8 : decode cX4_zerosOnPiece 8 = .ok (.ireturn, 1) := by decide +kernel
theorem dX4_zerosOnPiece_9 : decode cX4_zerosOnPiece 9 = .ok (.iconst 0, 1) := by decide +kernel
theorem dX4_zerosOnPiece_10 : decode cX4_zerosOnPiece 10 = .ok (.istore_n 1, 1) := by decide +kernel
theorem dX4_zerosOnPiece_11 : decode cX4_zerosOnPiece 11 = .ok (.aload_n 0, 1) := by decide +kernel
theorem dX4_zerosOnPiece_12 : decode cX4_zerosOnPiece 12 = .ok (.invokevirtual 85, 3) := by decide +kernel
theorem dX4_zerosOnPiece_15 : decode cX4_zerosOnPiece 15 = .ok (.istore_n 2, 1) := by decide +kernel
theorem dX4_zerosOnPiece_16 : decode cX4_zerosOnPiece 16 = .ok (.iconst 0, 1) := by decide +kernel
theorem dX4_zerosOnPiece_17 : decode cX4_zerosOnPiece 17 = .ok (.istore_n 3, 1) := by decide +kernel
theorem dX4_zerosOnPiece_18 : decode cX4_zerosOnPiece 18 = .ok (.iload_n 3, 1) := by decide +kernel
theorem dX4_zerosOnPiece_19 : decode cX4_zerosOnPiece 19 = .ok (.iload_n 2, 1) := by decide +kernel
theorem dX4_zerosOnPiece_20 : decode cX4_zerosOnPiece 20 = .ok (.if_icmp .ge 20, 3) := by decide +kernel
theorem dX4_zerosOnPiece_23 : decode cX4_zerosOnPiece 23 = .ok (.aload_n 0, 1) := by decide +kernel
theorem dX4_zerosOnPiece_24 : decode cX4_zerosOnPiece 24 = .ok (.iload_n 3, 1) := by decide +kernel
theorem dX4_zerosOnPiece_25 : decode cX4_zerosOnPiece 25 = .ok (.invokevirtual 89, 3) := by decide +kernel
theorem dX4_zerosOnPiece_28 : decode cX4_zerosOnPiece 28 = .ok (.ifCond .eq 6, 3) := by decide +kernel
theorem dX4_zerosOnPiece_31 : decode cX4_zerosOnPiece 31 = .ok (.iinc 1 1, 3) := by decide +kernel
theorem dX4_zerosOnPiece_34 : decode cX4_zerosOnPiece 34 = .ok (.iinc 3 1, 3) := by decide +kernel
theorem dX4_zerosOnPiece_37 : decode cX4_zerosOnPiece 37 = .ok (.goto (-19), 3) := by decide +kernel
theorem dX4_zerosOnPiece_40 : decode cX4_zerosOnPiece 40 = .ok (.iload_n 1, 1) := by decide +kernel
theorem dX4_zerosOnPiece_41 : decode cX4_zerosOnPiece 41 = .ok (.ireturn, 1) := by decide +kernel
set_option maxRecDepth 20000 in
theorem ggX4_meetsZeroOf_X4_isZero : GoodIn wsX4_meetsZeroOf wsX4_isZero := goodIn_r _ [5, 6, 7, 8, 52, 53, 54] (by decide +kernel) (by decide +kernel)
set_option maxRecDepth 20000 in
theorem gX4_meetsZeroOf_X4_isZero : GoodIn wsX4_meetsZeroOf (wsV RX4 81 RX4 yX4_isZero wsX4_isZero) := goodIn_app (goodIn_of _ (by decide +kernel)) ggX4_meetsZeroOf_X4_isZero
set_option maxRecDepth 20000 in
theorem ggX4_meetsZeroOf_X4_zerosOnPiece : GoodIn wsX4_meetsZeroOf wsX4_zerosOnPiece := goodIn_r _ [12, 1, 2, 3, 4, 5, 6, 7, 8, 13, 14, 15, 16, 17, 18, 19, 20, 21, 22, 23, 24, 25, 26, 27, 28, 29, 30, 31, 32, 33, 34, 35, 36, 37, 38, 39, 40, 41, 42, 43, 44, 45, 46, 47, 52, 53, 54] (by decide +kernel) (by decide +kernel)
set_option maxRecDepth 20000 in
theorem gX4_meetsZeroOf_X4_zerosOnPiece : GoodIn wsX4_meetsZeroOf (wsV RX4 93 RX4 yX4_zerosOnPiece wsX4_zerosOnPiece) := goodIn_app (goodIn_of _ (by decide +kernel)) ggX4_meetsZeroOf_X4_zerosOnPiece
set_option maxRecDepth 20000 in
theorem ggX4_meetsZeroOf_X4_rootCount : GoodIn wsX4_meetsZeroOf wsX4_rootCount := goodIn_r _ [16, 6, 7, 17, 18, 19, 4, 20, 21, 8, 52, 53, 54] (by decide +kernel) (by decide +kernel)
set_option maxRecDepth 20000 in
theorem gX4_meetsZeroOf_X4_rootCount : GoodIn wsX4_meetsZeroOf (wsV RX4 85 RX4 yX4_rootCount wsX4_rootCount) := goodIn_app (goodIn_of _ (by decide +kernel)) ggX4_meetsZeroOf_X4_rootCount
set_option maxRecDepth 20000 in
theorem ggX4_meetsZeroOf_X4_isOnPiece : GoodIn wsX4_meetsZeroOf wsX4_isOnPiece := goodIn_r _ [25, 26, 27, 28, 4, 29, 30, 31, 32, 33, 6, 8, 7, 34, 35, 36, 37, 38, 17, 18, 19, 20, 21, 39, 40, 41, 42, 43, 44, 45, 46, 47, 52, 53, 54] (by decide +kernel) (by decide +kernel)
set_option maxRecDepth 20000 in
theorem gX4_meetsZeroOf_X4_isOnPiece : GoodIn wsX4_meetsZeroOf (wsV RX4 89 RX4 yX4_isOnPiece wsX4_isOnPiece) := goodIn_app (goodIn_of _ (by decide +kernel)) ggX4_meetsZeroOf_X4_isOnPiece
set_option maxRecDepth 20000 in
theorem ggX4_meetsZeroOf_X4_signAtRootOf : GoodIn wsX4_meetsZeroOf wsX4_signAtRootOf := goodIn_r _ [51, 6, 7, 8, 30, 31, 32, 4, 33, 34, 35, 36, 37, 38, 17, 18, 19, 20, 21, 39, 40, 41, 42, 52, 53, 54] (by decide +kernel) (by decide +kernel)
set_option maxRecDepth 20000 in
theorem gX4_meetsZeroOf_X4_signAtRootOf : GoodIn wsX4_meetsZeroOf (wsV RX4 96 RX4 yX4_signAtRootOf wsX4_signAtRootOf) := goodIn_app (goodIn_of _ (by decide +kernel)) ggX4_meetsZeroOf_X4_signAtRootOf
theorem dX4_meetsZeroOf_0 : decode cX4_meetsZeroOf 0 = .ok (.aload_n 0, 1) := by decide +kernel
theorem dX4_meetsZeroOf_1 : decode cX4_meetsZeroOf 1 = .ok (.invokevirtual 81, 3) := by decide +kernel
theorem dX4_meetsZeroOf_4 : decode cX4_meetsZeroOf 4 = .ok (.ifCond .eq 16, 3) := by decide +kernel
theorem dX4_meetsZeroOf_7 : decode cX4_meetsZeroOf 7 = .ok (.aload_n 1, 1) := by decide +kernel
theorem dX4_meetsZeroOf_8 : decode cX4_meetsZeroOf 8 = .ok (.invokevirtual 93, 3) := by decide +kernel
theorem dX4_meetsZeroOf_11 : decode cX4_meetsZeroOf 11 = .ok (.ifCond .le 7, 3) := by decide +kernel
theorem dX4_meetsZeroOf_14 : decode cX4_meetsZeroOf 14 = .ok (.iconst 1, 1) := by decide +kernel
theorem dX4_meetsZeroOf_15 : decode cX4_meetsZeroOf 15 = .ok (.goto 4, 3) := by decide +kernel
theorem dX4_meetsZeroOf_18 : decode cX4_meetsZeroOf 18 = .ok (.iconst 0, 1) := by decide +kernel
theorem dX4_meetsZeroOf_19 : decode cX4_meetsZeroOf 19 = .ok (.ireturn, 1) := by decide +kernel
theorem dX4_meetsZeroOf_20 : decode cX4_meetsZeroOf 20 = .ok (.aload_n 0, 1) := by decide +kernel
theorem dX4_meetsZeroOf_21 : decode cX4_meetsZeroOf 21 = .ok (.invokevirtual 85, 3) := by decide +kernel
theorem dX4_meetsZeroOf_24 : decode cX4_meetsZeroOf 24 = .ok (.istore_n 2, 1) := by decide +kernel
theorem dX4_meetsZeroOf_25 : decode cX4_meetsZeroOf 25 = .ok (.iconst 0, 1) := by decide +kernel
theorem dX4_meetsZeroOf_26 : decode cX4_meetsZeroOf 26 = .ok (.istore_n 3, 1) := by decide +kernel
theorem dX4_meetsZeroOf_27 : decode cX4_meetsZeroOf 27 = .ok (.iload_n 3, 1) := by decide +kernel
theorem dX4_meetsZeroOf_28 : decode cX4_meetsZeroOf 28 = .ok (.iload_n 2, 1) := by decide +kernel
theorem dX4_meetsZeroOf_29 : decode cX4_meetsZeroOf 29 = .ok (.if_icmp .ge 28, 3) := by decide +kernel
theorem dX4_meetsZeroOf_32 : decode cX4_meetsZeroOf 32 = .ok (.aload_n 0, 1) := by decide +kernel
theorem dX4_meetsZeroOf_33 : decode cX4_meetsZeroOf 33 = .ok (.iload_n 3, 1) := by decide +kernel
theorem dX4_meetsZeroOf_34 : decode cX4_meetsZeroOf 34 = .ok (.invokevirtual 89, 3) := by decide +kernel
theorem dX4_meetsZeroOf_37 : decode cX4_meetsZeroOf 37 = .ok (.ifCond .eq 14, 3) := by decide +kernel
theorem dX4_meetsZeroOf_40 : decode cX4_meetsZeroOf 40 = .ok (.aload_n 1, 1) := by decide +kernel
theorem dX4_meetsZeroOf_41 : decode cX4_meetsZeroOf 41 = .ok (.aload_n 0, 1) := by decide +kernel
theorem dX4_meetsZeroOf_42 : decode cX4_meetsZeroOf 42 = .ok (.iload_n 3, 1) := by decide +kernel
theorem dX4_meetsZeroOf_43 : decode cX4_meetsZeroOf 43 = .ok (.invokevirtual 96, 3) := by decide +kernel
theorem dX4_meetsZeroOf_46 : decode cX4_meetsZeroOf 46 = .ok (.ifCond .ne 5, 3) := by decide +kernel
theorem dX4_meetsZeroOf_49 : decode cX4_meetsZeroOf 49 = .ok (.iconst 1, 1) := by decide +kernel
theorem dX4_meetsZeroOf_50 : decode cX4_meetsZeroOf 50 = .ok (.ireturn, 1) := by decide +kernel
theorem dX4_meetsZeroOf_51 : decode cX4_meetsZeroOf 51 = .ok (.iinc 3 1, 3) := by decide +kernel
theorem dX4_meetsZeroOf_54 : decode cX4_meetsZeroOf 54 = .ok (.goto (-27), 3) := by decide +kernel
theorem dX4_meetsZeroOf_57 : decode cX4_meetsZeroOf 57 = .ok (.iconst 0, 1) := by decide +kernel
theorem dX4_meetsZeroOf_58 : decode cX4_meetsZeroOf 58 = .ok (.ireturn, 1) := by decide +kernel
set_option maxRecDepth 20000 in
theorem ggX4_signAfterRoot_J13_signum_95d88 : GoodIn wsX4_signAfterRoot wsJ13_signum_95d88 := goodIn_r _ [6] (by decide +kernel) (by decide +kernel)
set_option maxRecDepth 20000 in
theorem gX4_signAfterRoot_J13_signum_95d88 : GoodIn wsX4_signAfterRoot (va_wsS RX4 58 yJ13_signum_95d88 wsJ13_signum_95d88) := goodIn_app (goodIn_of _ (by decide +kernel)) ggX4_signAfterRoot_J13_signum_95d88
set_option maxRecDepth 20000 in
theorem ggX4_signAfterRoot_X4_discriminant : GoodIn wsX4_signAfterRoot wsX4_discriminant := goodIn_r _ [11, 2, 12, 1, 13, 18, 19, 20] (by decide +kernel) (by decide +kernel)
set_option maxRecDepth 20000 in
theorem gX4_signAfterRoot_X4_discriminant : GoodIn wsX4_signAfterRoot (wsV RX4 54 RX4 yX4_discriminant wsX4_discriminant) := goodIn_app (goodIn_of _ (by decide +kernel)) ggX4_signAfterRoot_X4_discriminant
set_option maxRecDepth 20000 in
theorem ggX4_signAfterRoot_X4_branch : GoodIn wsX4_signAfterRoot wsX4_branch := goodIn_r _ [17] (by decide +kernel) (by decide +kernel)
set_option maxRecDepth 20000 in
theorem gX4_signAfterRoot_X4_branch : GoodIn wsX4_signAfterRoot (wsV RX4 66 RX4 yX4_branch wsX4_branch) := goodIn_app (goodIn_of _ (by decide +kernel)) ggX4_signAfterRoot_X4_branch
theorem dX4_signAfterRoot_0 : decode cX4_signAfterRoot 0 = .ok (.aload_n 0, 1) := by decide +kernel
theorem dX4_signAfterRoot_1 : decode cX4_signAfterRoot 1 = .ok (.getfield 31, 3) := by decide +kernel
theorem dX4_signAfterRoot_4 : decode cX4_signAfterRoot 4 = .ok (.lconst 0, 1) := by decide +kernel
theorem dX4_signAfterRoot_5 : decode cX4_signAfterRoot 5 = .ok (.lcmp, 1) := by decide +kernel
theorem dX4_signAfterRoot_6 : decode cX4_signAfterRoot 6 = .ok (.ifCond .ne 11, 3) := by decide +kernel
theorem dX4_signAfterRoot_9 : decode cX4_signAfterRoot 9 = .ok (.aload_n 0, 1) := by decide +kernel
theorem dX4_signAfterRoot_10 : decode cX4_signAfterRoot 10 = .ok (.getfield 43, 3) := by decide +kernel
theorem dX4_signAfterRoot_13 : decode cX4_signAfterRoot 13 = .ok (.invokestatic 58, 3) := by decide +kernel
theorem dX4_signAfterRoot_16 : decode cX4_signAfterRoot 16 = .ok (.ireturn, 1) := by decide +kernel
theorem dX4_signAfterRoot_17 : decode cX4_signAfterRoot 17 = .ok (.aload_n 0, 1) := by decide +kernel
theorem dX4_signAfterRoot_18 : decode cX4_signAfterRoot 18 = .ok (.invokevirtual 54, 3) := by decide +kernel
theorem dX4_signAfterRoot_21 : decode cX4_signAfterRoot 21 = .ok (.lconst 0, 1) := by decide +kernel
theorem dX4_signAfterRoot_22 : decode cX4_signAfterRoot 22 = .ok (.lcmp, 1) := by decide +kernel
theorem dX4_signAfterRoot_23 : decode cX4_signAfterRoot 23 = .ok (.ifCond .ne 13, 3) := by decide +kernel
theorem dX4_signAfterRoot_26 : decode cX4_signAfterRoot 26 = .ok (.aload_n 0, 1) := by decide +kernel
theorem dX4_signAfterRoot_27 : decode cX4_signAfterRoot 27 = .ok (.getfield 31, 3) := by decide +kernel
theorem dX4_signAfterRoot_30 : decode cX4_signAfterRoot 30 = .ok (.invokestatic 58, 3) := by decide +kernel
theorem dX4_signAfterRoot_33 : decode cX4_signAfterRoot 33 = .ok (.goto 8, 3) := by decide +kernel
theorem dX4_signAfterRoot_36 : decode cX4_signAfterRoot 36 = .ok (.aload_n 0, 1) := by decide +kernel
theorem dX4_signAfterRoot_37 : decode cX4_signAfterRoot 37 = .ok (.iload_n 1, 1) := by decide +kernel
theorem dX4_signAfterRoot_38 : decode cX4_signAfterRoot 38 = .ok (.invokevirtual 66, 3) := by decide +kernel
theorem dX4_signAfterRoot_41 : decode cX4_signAfterRoot 41 = .ok (.ireturn, 1) := by decide +kernel
set_option maxRecDepth 20000 in
theorem ggX4_signBeforeRoot_X4_discriminant : GoodIn wsX4_signBeforeRoot wsX4_discriminant := goodIn_r _ [6, 7, 8, 1, 9, 22, 23, 24] (by decide +kernel) (by decide +kernel)
set_option maxRecDepth 20000 in
theorem gX4_signBeforeRoot_X4_discriminant : GoodIn wsX4_signBeforeRoot (wsV RX4 54 RX4 yX4_discriminant wsX4_discriminant) := goodIn_app (goodIn_of _ (by decide +kernel)) ggX4_signBeforeRoot_X4_discriminant
set_option maxRecDepth 20000 in
theorem ggX4_signBeforeRoot_X4_signAfterRoot : GoodIn wsX4_signBeforeRoot wsX4_signAfterRoot := goodIn_r _ [13, 1, 7, 14, 15, 16, 17, 2, 3, 4, 5, 6, 8, 9, 18, 19, 20, 21, 22, 23, 24] (by decide +kernel) (by decide +kernel)
set_option maxRecDepth 20000 in
theorem gX4_signBeforeRoot_X4_signAfterRoot : GoodIn wsX4_signBeforeRoot (wsV RX4 100 RX4 yX4_signAfterRoot wsX4_signAfterRoot) := goodIn_app (goodIn_of _ (by decide +kernel)) ggX4_signBeforeRoot_X4_signAfterRoot
theorem dX4_signBeforeRoot_0 : decode cX4_signBeforeRoot 0 = .ok (.aload_n 0, 1) := by decide +kernel
theorem dX4_signBeforeRoot_1 : decode cX4_signBeforeRoot 1 = .ok (.getfield 31, 3) := by decide +kernel
theorem dX4_signBeforeRoot_4 : decode cX4_signBeforeRoot 4 = .ok (.lconst 0, 1) := by decide +kernel
theorem dX4_signBeforeRoot_5 : decode cX4_signBeforeRoot 5 = .ok (.lcmp, 1) := by decide +kernel
theorem dX4_signBeforeRoot_6 : decode cX4_signBeforeRoot 6 = .ok (.ifCond .eq 16, 3) := by decide +kernel
theorem dX4_signBeforeRoot_9 : decode cX4_signBeforeRoot 9 = .ok (.aload_n 0, 1) := by decide +kernel
theorem dX4_signBeforeRoot_10 : decode cX4_signBeforeRoot 10 = .ok (.invokevirtual 54, 3) := by decide +kernel
theorem dX4_signBeforeRoot_13 : decode cX4_signBeforeRoot 13 = .ok (.lconst 0, 1) := by decide +kernel
theorem dX4_signBeforeRoot_14 : decode cX4_signBeforeRoot 14 = .ok (.lcmp, 1) := by decide +kernel
theorem dX4_signBeforeRoot_15 : decode cX4_signBeforeRoot 15 = .ok (.ifCond .ne 7, 3) := by decide +kernel
theorem dX4_signBeforeRoot_18 : decode cX4_signBeforeRoot 18 = .ok (.iconst 1, 1) := by decide +kernel
theorem dX4_signBeforeRoot_19 : decode cX4_signBeforeRoot 19 = .ok (.goto 4, 3) := by decide +kernel
theorem dX4_signBeforeRoot_22 : decode cX4_signBeforeRoot 22 = .ok (.iconst 0, 1) := by decide +kernel
theorem dX4_signBeforeRoot_23 : decode cX4_signBeforeRoot 23 = .ok (.istore_n 2, 1) := by decide +kernel
theorem dX4_signBeforeRoot_24 : decode cX4_signBeforeRoot 24 = .ok (.iload_n 2, 1) := by decide +kernel
theorem dX4_signBeforeRoot_25 : decode cX4_signBeforeRoot 25 = .ok (.ifCond .eq 11, 3) := by decide +kernel
theorem dX4_signBeforeRoot_28 : decode cX4_signBeforeRoot 28 = .ok (.aload_n 0, 1) := by decide +kernel
theorem dX4_signBeforeRoot_29 : decode cX4_signBeforeRoot 29 = .ok (.iload_n 1, 1) := by decide +kernel
theorem dX4_signBeforeRoot_30 : decode cX4_signBeforeRoot 30 = .ok (.invokevirtual 100, 3) := by decide +kernel
theorem dX4_signBeforeRoot_33 : decode cX4_signBeforeRoot 33 = .ok (.goto 9, 3) := by decide +kernel
theorem dX4_signBeforeRoot_36 : decode cX4_signBeforeRoot 36 = .ok (.aload_n 0, 1) := by decide +kernel
theorem dX4_signBeforeRoot_37 : decode cX4_signBeforeRoot 37 = .ok (.iload_n 1, 1) := by decide +kernel
theorem dX4_signBeforeRoot_38 : decode cX4_signBeforeRoot 38 = .ok (.invokevirtual 100, 3) := by decide +kernel
theorem dX4_signBeforeRoot_41 : decode cX4_signBeforeRoot 41 = .ok (.ineg, 1) := by decide +kernel
theorem dX4_signBeforeRoot_42 : decode cX4_signBeforeRoot 42 = .ok (.ireturn, 1) := by decide +kernel
set_option maxRecDepth 20000 in
theorem ggX4_upwardCrossings_X4_rootCount : GoodIn wsX4_upwardCrossings wsX4_rootCount := goodIn_r _ [5, 6, 7, 8, 9, 10, 4, 11, 12, 13, 52, 53, 54] (by decide +kernel) (by decide +kernel)
set_option maxRecDepth 20000 in
theorem gX4_upwardCrossings_X4_rootCount : GoodIn wsX4_upwardCrossings (wsV RX4 85 RX4 yX4_rootCount wsX4_rootCount) := goodIn_app (goodIn_of _ (by decide +kernel)) ggX4_upwardCrossings_X4_rootCount
set_option maxRecDepth 20000 in
theorem ggX4_upwardCrossings_X4_isOnPiece : GoodIn wsX4_upwardCrossings wsX4_isOnPiece := goodIn_r _ [17, 18, 19, 20, 4, 21, 22, 23, 24, 25, 6, 13, 7, 26, 27, 28, 29, 30, 8, 9, 10, 11, 12, 31, 32, 33, 34, 35, 36, 37, 38, 39, 52, 53, 54] (by decide +kernel) (by decide +kernel)
set_option maxRecDepth 20000 in
theorem gX4_upwardCrossings_X4_isOnPiece : GoodIn wsX4_upwardCrossings (wsV RX4 89 RX4 yX4_isOnPiece wsX4_isOnPiece) := goodIn_app (goodIn_of _ (by decide +kernel)) ggX4_upwardCrossings_X4_isOnPiece
set_option maxRecDepth 20000 in
theorem ggX4_upwardCrossings_X4_signAtRootOf : GoodIn wsX4_upwardCrossings wsX4_signAtRootOf := goodIn_r _ [43, 6, 7, 13, 22, 23, 24, 4, 25, 26, 27, 28, 29, 30, 8, 9, 10, 11, 12, 31, 32, 33, 34, 52, 53, 54] (by decide +kernel) (by decide +kernel)
set_option maxRecDepth 20000 in
theorem gX4_upwardCrossings_X4_signAtRootOf : GoodIn wsX4_upwardCrossings (wsV RX4 96 RX4 yX4_signAtRootOf wsX4_signAtRootOf) := goodIn_app (goodIn_of _ (by decide +kernel)) ggX4_upwardCrossings_X4_signAtRootOf
set_option maxRecDepth 20000 in
theorem ggX4_upwardCrossings_X4_sideOfStart : GoodIn wsX4_upwardCrossings wsX4_sideOfStart := goodIn_r _ [21, 22, 23, 24, 4, 25, 6, 13, 7, 26, 27, 28, 29, 30, 8, 9, 10, 11, 12, 31, 32, 33, 34, 52, 53, 54] (by decide +kernel) (by decide +kernel)
set_option maxRecDepth 20000 in
theorem gX4_upwardCrossings_X4_sideOfStart : GoodIn wsX4_upwardCrossings (wsV RX4 75 RX4 yX4_sideOfStart wsX4_sideOfStart) := goodIn_app (goodIn_of _ (by decide +kernel)) ggX4_upwardCrossings_X4_sideOfStart
set_option maxRecDepth 20000 in
theorem ggX4_upwardCrossings_X4_signBeforeRoot : GoodIn wsX4_upwardCrossings wsX4_signBeforeRoot := goodIn_r _ [47, 6, 8, 9, 10, 4, 11, 7, 12, 13, 48, 49, 50, 51, 27, 28, 29, 30, 31, 32, 33, 34, 52, 53, 54] (by decide +kernel) (by decide +kernel)
set_option maxRecDepth 20000 in
theorem gX4_upwardCrossings_X4_signBeforeRoot : GoodIn wsX4_upwardCrossings (wsV RX4 103 RX4 yX4_signBeforeRoot wsX4_signBeforeRoot) := goodIn_app (goodIn_of _ (by decide +kernel)) ggX4_upwardCrossings_X4_signBeforeRoot
set_option maxRecDepth 20000 in
theorem ggX4_upwardCrossings_X4_sideOfEnd : GoodIn wsX4_upwardCrossings wsX4_sideOfEnd := goodIn_r _ [38, 39, 22, 23, 24, 4, 25, 6, 13, 7, 26, 27, 28, 29, 30, 8, 9, 10, 11, 12, 31, 32, 33, 34, 52, 53, 54] (by decide +kernel) (by decide +kernel)
set_option maxRecDepth 20000 in
theorem gX4_upwardCrossings_X4_sideOfEnd : GoodIn wsX4_upwardCrossings (wsV RX4 78 RX4 yX4_sideOfEnd wsX4_sideOfEnd) := goodIn_app (goodIn_of _ (by decide +kernel)) ggX4_upwardCrossings_X4_sideOfEnd
set_option maxRecDepth 20000 in
theorem ggX4_upwardCrossings_X4_signAfterRoot : GoodIn wsX4_upwardCrossings wsX4_signAfterRoot := goodIn_r _ [51, 6, 7, 27, 28, 29, 30, 8, 9, 10, 4, 11, 12, 13, 31, 32, 33, 34, 52, 53, 54] (by decide +kernel) (by decide +kernel)
set_option maxRecDepth 20000 in
theorem gX4_upwardCrossings_X4_signAfterRoot : GoodIn wsX4_upwardCrossings (wsV RX4 100 RX4 yX4_signAfterRoot wsX4_signAfterRoot) := goodIn_app (goodIn_of _ (by decide +kernel)) ggX4_upwardCrossings_X4_signAfterRoot
theorem dX4_upwardCrossings_0 : decode cX4_upwardCrossings 0 = .ok (.iconst 0, 1) := by decide +kernel
theorem dX4_upwardCrossings_1 : decode cX4_upwardCrossings 1 = .ok (.istore_n 2, 1) := by decide +kernel
theorem dX4_upwardCrossings_2 : decode cX4_upwardCrossings 2 = .ok (.aload_n 0, 1) := by decide +kernel
theorem dX4_upwardCrossings_3 : decode cX4_upwardCrossings 3 = .ok (.invokevirtual 85, 3) := by decide +kernel
theorem dX4_upwardCrossings_6 : decode cX4_upwardCrossings 6 = .ok (.istore_n 3, 1) := by decide +kernel
theorem dX4_upwardCrossings_7 : decode cX4_upwardCrossings 7 = .ok (.iconst 0, 1) := by decide +kernel
theorem dX4_upwardCrossings_8 : decode cX4_upwardCrossings 8 = .ok (.istore 4, 2) := by decide +kernel
theorem dX4_upwardCrossings_10 : decode cX4_upwardCrossings 10 = .ok (.iload 4, 2) := by decide +kernel
theorem dX4_upwardCrossings_12 : decode cX4_upwardCrossings 12 = .ok (.iload_n 3, 1) := by decide +kernel
theorem dX4_upwardCrossings_13 : decode cX4_upwardCrossings 13 = .ok (.if_icmp .ge 73, 3) := by decide +kernel
theorem dX4_upwardCrossings_16 : decode cX4_upwardCrossings 16 = .ok (.aload_n 0, 1) := by decide +kernel
theorem dX4_upwardCrossings_17 : decode cX4_upwardCrossings 17 = .ok (.iload 4, 2) := by decide +kernel
theorem dX4_upwardCrossings_19 : decode cX4_upwardCrossings 19 = .ok (.invokevirtual 89, 3) := by decide +kernel
theorem dX4_upwardCrossings_22 : decode cX4_upwardCrossings 22 = .ok (.ifCond .eq 58, 3) := by decide +kernel
theorem dX4_upwardCrossings_25 : decode cX4_upwardCrossings 25 = .ok (.aload_n 1, 1) := by decide +kernel
theorem dX4_upwardCrossings_26 : decode cX4_upwardCrossings 26 = .ok (.aload_n 0, 1) := by decide +kernel
theorem dX4_upwardCrossings_27 : decode cX4_upwardCrossings 27 = .ok (.iload 4, 2) := by decide +kernel
theorem dX4_upwardCrossings_29 : decode cX4_upwardCrossings 29 = .ok (.invokevirtual 96, 3) := by decide +kernel
theorem dX4_upwardCrossings_32 : decode cX4_upwardCrossings 32 = .ok (.ifCond .gt 6, 3) := by decide +kernel
theorem dX4_upwardCrossings_35 : decode cX4_upwardCrossings 35 = .ok (.goto 45, 3) := by decide +kernel
theorem dX4_upwardCrossings_38 : decode cX4_upwardCrossings 38 = .ok (.aload_n 0, 1) := by decide +kernel
theorem dX4_upwardCrossings_39 : decode cX4_upwardCrossings 39 = .ok (.iload 4, 2) := by decide +kernel
theorem dX4_upwardCrossings_41 : decode cX4_upwardCrossings 41 = .ok (.invokevirtual 75, 3) := by decide +kernel
theorem dX4_upwardCrossings_44 : decode cX4_upwardCrossings 44 = .ok (.ifCond .le 15, 3) := by decide +kernel
theorem dX4_upwardCrossings_47 : decode cX4_upwardCrossings 47 = .ok (.aload_n 0, 1) := by decide +kernel
theorem dX4_upwardCrossings_48 : decode cX4_upwardCrossings 48 = .ok (.iload 4, 2) := by decide +kernel
theorem dX4_upwardCrossings_50 : decode cX4_upwardCrossings 50 = .ok (.invokevirtual 103, 3) := by decide +kernel
theorem dX4_upwardCrossings_53 : decode cX4_upwardCrossings 53 = .ok (.ifCond .ge 6, 3) := by decide +kernel
theorem dX4_upwardCrossings_56 : decode cX4_upwardCrossings 56 = .ok (.iinc 2 1, 3) := by decide +kernel
theorem dX4_upwardCrossings_59 : decode cX4_upwardCrossings 59 = .ok (.aload_n 0, 1) := by decide +kernel
theorem dX4_upwardCrossings_60 : decode cX4_upwardCrossings 60 = .ok (.iload 4, 2) := by decide +kernel
theorem dX4_upwardCrossings_62 : decode cX4_upwardCrossings 62 = .ok (.invokevirtual 78, 3) := by decide +kernel
theorem dX4_upwardCrossings_65 : decode cX4_upwardCrossings 65 = .ok (.ifCond .ge 15, 3) := by decide +kernel
theorem dX4_upwardCrossings_68 : decode cX4_upwardCrossings 68 = .ok (.aload_n 0, 1) := by decide +kernel
theorem dX4_upwardCrossings_69 : decode cX4_upwardCrossings 69 = .ok (.iload 4, 2) := by decide +kernel
theorem dX4_upwardCrossings_71 : decode cX4_upwardCrossings 71 = .ok (.invokevirtual 100, 3) := by decide +kernel
theorem dX4_upwardCrossings_74 : decode cX4_upwardCrossings 74 = .ok (.ifCond .ge 6, 3) := by decide +kernel
theorem dX4_upwardCrossings_77 : decode cX4_upwardCrossings 77 = .ok (.iinc 2 (-1), 3) := by decide +kernel
theorem dX4_upwardCrossings_80 : decode cX4_upwardCrossings 80 = .ok (.iinc 4 1, 3) := by decide +kernel
theorem dX4_upwardCrossings_83 : decode cX4_upwardCrossings 83 = .ok (.goto (-73), 3) := by decide +kernel
theorem dX4_upwardCrossings_86 : decode cX4_upwardCrossings 86 = .ok (.iload_n 2, 1) := by decide +kernel
theorem dX4_upwardCrossings_87 : decode cX4_upwardCrossings 87 = .ok (.ireturn, 1) := by decide +kernel
theorem dX5_init_0 : decode cX5_init 0 = .ok (.aload_n 0, 1) := by decide +kernel
theorem dX5_init_1 : decode cX5_init 1 = .ok (.invokespecial 3, 3) := by decide +kernel
theorem dX5_init_4 : decode cX5_init 4 = .ok (.aload_n 0, 1) := by decide +kernel
theorem dX5_init_5 : decode cX5_init 5 = .ok (.bipush 16, 2) := by decide +kernel
theorem dX5_init_7 : decode cX5_init 7 = .ok (.newarray .int, 2) := by decide +kernel
theorem dX5_init_9 : decode cX5_init 9 = .ok (.putfield 9, 3) := by decide +kernel
theorem dX5_init_12 : decode cX5_init 12 = .ok (.aload_n 0, 1) := by decide +kernel
theorem dX5_init_13 : decode cX5_init 13 = .ok (.iconst 0, 1) := by decide +kernel
theorem dX5_init_14 : decode cX5_init 14 = .ok (.putfield 15, 3) := by decide +kernel
theorem dX5_init_17 : decode cX5_init 17 = .ok (.aload_n 0, 1) := by decide +kernel
theorem dX5_init_18 : decode cX5_init 18 = .ok (.iconst 0, 1) := by decide +kernel
theorem dX5_init_19 : decode cX5_init 19 = .ok (.putfield 19, 3) := by decide +kernel
theorem dX5_init_22 : decode cX5_init 22 = .ok (.return_, 1) := by decide +kernel
theorem dX5_isMissing_0 : decode cX5_isMissing 0 = .ok (.aload_n 0, 1) := by decide +kernel
theorem dX5_isMissing_1 : decode cX5_isMissing 1 = .ok (.getfield 15, 3) := by decide +kernel
theorem dX5_isMissing_4 : decode cX5_isMissing 4 = .ok (.ifCond .ne 7, 3) := by decide +kernel
theorem dX5_isMissing_7 : decode cX5_isMissing 7 = .ok (.iconst 1, 1) := by decide +kernel
theorem dX5_isMissing_8 : decode cX5_isMissing 8 = .ok (.goto 4, 3) := by decide +kernel
theorem dX5_isMissing_11 : decode cX5_isMissing 11 = .ok (.iconst 0, 1) := by decide +kernel
theorem dX5_isMissing_12 : decode cX5_isMissing 12 = .ok (.ireturn, 1) := by decide +kernel
theorem dX5_begin_0 : decode cX5_begin 0 = .ok (.aload_n 0, 1) := by decide +kernel
theorem dX5_begin_1 : decode cX5_begin 1 = .ok (.iload_n 1, 1) := by decide +kernel
theorem dX5_begin_2 : decode cX5_begin 2 = .ok (.putfield 15, 3) := by decide +kernel
theorem dX5_begin_5 : decode cX5_begin 5 = .ok (.aload_n 0, 1) := by decide +kernel
theorem dX5_begin_6 : decode cX5_begin 6 = .ok (.iload_n 2, 1) := by decide +kernel
theorem dX5_begin_7 : decode cX5_begin 7 = .ok (.putfield 19, 3) := by decide +kernel
theorem dX5_begin_10 : decode cX5_begin 10 = .ok (.iconst 0, 1) := by decide +kernel
theorem dX5_begin_11 : decode cX5_begin 11 = .ok (.istore_n 3, 1) := by decide +kernel
theorem dX5_begin_12 : decode cX5_begin 12 = .ok (.iload_n 3, 1) := by decide +kernel
theorem dX5_begin_13 : decode cX5_begin 13 = .ok (.bipush 16, 2) := by decide +kernel
theorem dX5_begin_15 : decode cX5_begin 15 = .ok (.if_icmp .ge 16, 3) := by decide +kernel
theorem dX5_begin_18 : decode cX5_begin 18 = .ok (.aload_n 0, 1) := by decide +kernel
theorem dX5_begin_19 : decode cX5_begin 19 = .ok (.getfield 9, 3) := by decide +kernel
theorem dX5_begin_22 : decode cX5_begin 22 = .ok (.iload_n 3, 1) := by decide +kernel
theorem dX5_begin_23 : decode cX5_begin 23 = .ok (.iconst 0, 1) := by decide +kernel
theorem dX5_begin_24 : decode cX5_begin 24 = .ok (.iastore, 1) := by decide +kernel
theorem dX5_begin_25 : decode cX5_begin 25 = .ok (.iinc 3 1, 3) := by decide +kernel
theorem dX5_begin_28 : decode cX5_begin 28 = .ok (.goto (-16), 3) := by decide +kernel
theorem dX5_begin_31 : decode cX5_begin 31 = .ok (.return_, 1) := by decide +kernel
theorem dX5_lowestBits_0 : decode cX5_lowestBits 0 = .ok (.aload_n 0, 1) := by decide +kernel
theorem dX5_lowestBits_1 : decode cX5_lowestBits 1 = .ok (.getfield 15, 3) := by decide +kernel
theorem dX5_lowestBits_4 : decode cX5_lowestBits 4 = .ok (.bipush 8, 2) := by decide +kernel
theorem dX5_lowestBits_6 : decode cX5_lowestBits 6 = .ok (.if_icmp .ne 6, 3) := by decide +kernel
theorem dX5_lowestBits_9 : decode cX5_lowestBits 9 = .ok (.iload_n 1, 1) := by decide +kernel
theorem dX5_lowestBits_10 : decode cX5_lowestBits 10 = .ok (.i2b, 1) := by decide +kernel
theorem dX5_lowestBits_11 : decode cX5_lowestBits 11 = .ok (.ireturn, 1) := by decide +kernel
theorem dX5_lowestBits_12 : decode cX5_lowestBits 12 = .ok (.aload_n 0, 1) := by decide +kernel
theorem dX5_lowestBits_13 : decode cX5_lowestBits 13 = .ok (.getfield 15, 3) := by decide +kernel
theorem dX5_lowestBits_16 : decode cX5_lowestBits 16 = .ok (.bipush 16, 2) := by decide +kernel
theorem dX5_lowestBits_18 : decode cX5_lowestBits 18 = .ok (.if_icmp .ne 8, 3) := by decide +kernel
theorem dX5_lowestBits_21 : decode cX5_lowestBits 21 = .ok (.iload_n 1, 1) := by decide +kernel
theorem dX5_lowestBits_22 : decode cX5_lowestBits 22 = .ok (.i2s, 1) := by decide +kernel
theorem dX5_lowestBits_23 : decode cX5_lowestBits 23 = .ok (.goto 4, 3) := by decide +kernel
theorem dX5_lowestBits_26 : decode cX5_lowestBits 26 = .ok (.iload_n 1, 1) := by decide +kernel
theorem dX5_lowestBits_27 : decode cX5_lowestBits 27 = .ok (.ireturn, 1) := by decide +kernel

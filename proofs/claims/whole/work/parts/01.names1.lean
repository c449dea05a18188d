theorem dX0_copyFrom_52 : decode cX0_copyFrom 52 = .ok (.aload_n 1, 1) := by decide +kernel
theorem dX0_copyFrom_53 : decode cX0_copyFrom 53 = .ok (.getfield 18, 3) := by decide +kernel
theorem dX0_copyFrom_56 : decode cX0_copyFrom 56 = .ok (.putfield 18, 3) := by decide +kernel
theorem dX0_copyFrom_59 : decode cX0_copyFrom 59 = .ok (.aload_n 0, 1) := by decide +kernel
theorem dX0_copyFrom_60 : decode cX0_copyFrom 60 = .ok (.aload_n 1, 1) := by decide +kernel
theorem dX0_copyFrom_61 : decode cX0_copyFrom 61 = .ok (.getfield 22, 3) := by decide +kernel
theorem dX0_copyFrom_64 : decode cX0_copyFrom 64 = .ok (.putfield 22, 3) := by decide +kernel
theorem dX0_copyFrom_67 : decode cX0_copyFrom 67 = .ok (.aload_n 0, 1) := by decide +kernel
theorem dX0_copyFrom_68 : decode cX0_copyFrom 68 = .ok (.aload_n 1, 1) := by decide +kernel
theorem dX0_copyFrom_69 : decode cX0_copyFrom 69 = .ok (.getfield 25, 3) := by decide +kernel
theorem dX0_copyFrom_72 : decode cX0_copyFrom 72 = .ok (.putfield 25, 3) := by decide +kernel
theorem dX0_copyFrom_75 : decode cX0_copyFrom 75 = .ok (.return_, 1) := by decide +kernel
theorem dX0_putNumber_0 : decode cX0_putNumber 0 = .ok (.iload_n 1, 1) := by decide +kernel
theorem dX0_putNumber_1 : decode cX0_putNumber 1 = .ok (.ifCond .lt 26, 3) := by decide +kernel
theorem dX0_putNumber_4 : decode cX0_putNumber 4 = .ok (.iload_n 1, 1) := by decide +kernel
theorem dX0_putNumber_5 : decode cX0_putNumber 5 = .ok (.iconst 5, 1) := by decide +kernel
theorem dX0_putNumber_6 : decode cX0_putNumber 6 = .ok (.if_icmp .ge 21, 3) := by decide +kernel
theorem dX0_putNumber_9 : decode cX0_putNumber 9 = .ok (.iload_n 2, 1) := by decide +kernel
theorem dX0_putNumber_10 : decode cX0_putNumber 10 = .ok (.getstatic 28, 3) := by decide +kernel
theorem dX0_putNumber_13 : decode cX0_putNumber 13 = .ok (.iload_n 1, 1) := by decide +kernel
theorem dX0_putNumber_14 : decode cX0_putNumber 14 = .ok (.iaload, 1) := by decide +kernel
theorem dX0_putNumber_15 : decode cX0_putNumber 15 = .ok (.if_icmp .lt 12, 3) := by decide +kernel
theorem dX0_putNumber_18 : decode cX0_putNumber 18 = .ok (.iload_n 2, 1) := by decide +kernel
theorem dX0_putNumber_19 : decode cX0_putNumber 19 = .ok (.getstatic 31, 3) := by decide +kernel
theorem dX0_putNumber_22 : decode cX0_putNumber 22 = .ok (.iload_n 1, 1) := by decide +kernel
theorem dX0_putNumber_23 : decode cX0_putNumber 23 = .ok (.iaload, 1) := by decide +kernel
theorem dX0_putNumber_24 : decode cX0_putNumber 24 = .ok (.if_icmp .le 5, 3) := by decide +kernel
theorem dX0_putNumber_27 : decode cX0_putNumber 27 = .ok (.iconst 0, 1) := by decide +kernel
theorem dX0_putNumber_28 : decode cX0_putNumber 28 = .ok (.ireturn, 1) := by decide +kernel
theorem dX0_putNumber_29 : decode cX0_putNumber 29 = .ok (.aload_n 0, 1) := by decide +kernel
theorem dX0_putNumber_30 : decode cX0_putNumber 30 = .ok (.getfield 15, 3) := by decide +kernel
theorem dX0_putNumber_33 : decode cX0_putNumber 33 = .ok (.iload_n 1, 1) := by decide +kernel
theorem dX0_putNumber_34 : decode cX0_putNumber 34 = .ok (.iload_n 2, 1) := by decide +kernel
theorem dX0_putNumber_35 : decode cX0_putNumber 35 = .ok (.iastore, 1) := by decide +kernel
theorem dX0_putNumber_36 : decode cX0_putNumber 36 = .ok (.iconst 1, 1) := by decide +kernel
theorem dX0_putNumber_37 : decode cX0_putNumber 37 = .ok (.ireturn, 1) := by decide +kernel
set_option maxRecDepth 20000 in
theorem ggX0_putLikely_X4_isSecond : GoodIn wsX0_putLikely wsX4_isSecond := goodIn_r _ [4] (by decide +kernel) (by decide +kernel)
set_option maxRecDepth 20000 in
theorem gX0_putLikely_X4_isSecond_n34 : GoodIn wsX0_putLikely (wsX4_isSecond) := ggX0_putLikely_X4_isSecond
theorem dX0_putLikely_0 : decode cX0_putLikely 0 = .ok (.iload_n 1, 1) := by decide +kernel
theorem dX0_putLikely_1 : decode cX0_putLikely 1 = .ok (.invokestatic 34, 3) := by decide +kernel
theorem dX0_putLikely_4 : decode cX0_putLikely 4 = .ok (.ifCond .eq 25, 3) := by decide +kernel
theorem dX0_putLikely_7 : decode cX0_putLikely 7 = .ok (.iload_n 2, 1) := by decide +kernel
theorem dX0_putLikely_8 : decode cX0_putLikely 8 = .ok (.invokestatic 34, 3) := by decide +kernel
theorem dX0_putLikely_11 : decode cX0_putLikely 11 = .ok (.ifCond .eq 18, 3) := by decide +kernel
theorem dX0_putLikely_14 : decode cX0_putLikely 14 = .ok (.iload_n 1, 1) := by decide +kernel
theorem dX0_putLikely_15 : decode cX0_putLikely 15 = .ok (.iload_n 2, 1) := by decide +kernel
theorem dX0_putLikely_16 : decode cX0_putLikely 16 = .ok (.if_icmp .gt 13, 3) := by decide +kernel
theorem dX0_putLikely_19 : decode cX0_putLikely 19 = .ok (.iload_n 3, 1) := by decide +kernel
theorem dX0_putLikely_20 : decode cX0_putLikely 20 = .ok (.ifCond .lt 9, 3) := by decide +kernel
theorem dX0_putLikely_23 : decode cX0_putLikely 23 = .ok (.iload_n 3, 1) := by decide +kernel
theorem dX0_putLikely_24 : decode cX0_putLikely 24 = .ok (.bipush 9, 2) := by decide +kernel
theorem dX0_putLikely_26 : decode cX0_putLikely 26 = .ok (.if_icmp .le 5, 3) := by decide +kernel
theorem dX0_putLikely_29 : decode cX0_putLikely 29 = .ok (.iconst 0, 1) := by decide +kernel
theorem dX0_putLikely_30 : decode cX0_putLikely 30 = .ok (.ireturn, 1) := by decide +kernel
theorem dX0_putLikely_31 : decode cX0_putLikely 31 = .ok (.iload_n 1, 1) := by decide +kernel
theorem dX0_putLikely_32 : decode cX0_putLikely 32 = .ok (.istore 4, 2) := by decide +kernel
theorem dX0_putLikely_34 : decode cX0_putLikely 34 = .ok (.iload 4, 2) := by decide +kernel
theorem dX0_putLikely_36 : decode cX0_putLikely 36 = .ok (.iload_n 2, 1) := by decide +kernel
theorem dX0_putLikely_37 : decode cX0_putLikely 37 = .ok (.if_icmp .gt 17, 3) := by decide +kernel
theorem dX0_putLikely_40 : decode cX0_putLikely 40 = .ok (.aload_n 0, 1) := by decide +kernel
theorem dX0_putLikely_41 : decode cX0_putLikely 41 = .ok (.getfield 9, 3) := by decide +kernel
theorem dX0_putLikely_44 : decode cX0_putLikely 44 = .ok (.iload 4, 2) := by decide +kernel
theorem dX0_putLikely_46 : decode cX0_putLikely 46 = .ok (.iload_n 3, 1) := by decide +kernel
theorem dX0_putLikely_47 : decode cX0_putLikely 47 = .ok (.iastore, 1) := by decide +kernel
theorem dX0_putLikely_48 : decode cX0_putLikely 48 = .ok (.iinc 4 1, 3) := by decide +kernel
theorem dX0_putLikely_51 : decode cX0_putLikely 51 = .ok (.goto (-17), 3) := by decide +kernel
theorem dX0_putLikely_54 : decode cX0_putLikely 54 = .ok (.iconst 1, 1) := by decide +kernel
theorem dX0_putLikely_55 : decode cX0_putLikely 55 = .ok (.ireturn, 1) := by decide +kernel
theorem dX0_left_0 : decode cX0_left 0 = .ok (.lconst 0, 1) := by decide +kernel
theorem dX0_left_1 : decode cX0_left 1 = .ok (.lstore_n 1, 1) := by decide +kernel
theorem dX0_left_2 : decode cX0_left 2 = .ok (.iconst 1, 1) := by decide +kernel
theorem dX0_left_3 : decode cX0_left 3 = .ok (.istore_n 3, 1) := by decide +kernel
theorem dX0_left_4 : decode cX0_left 4 = .ok (.iload_n 3, 1) := by decide +kernel
theorem dX0_left_5 : decode cX0_left 5 = .ok (.bipush 40, 2) := by decide +kernel
theorem dX0_left_7 : decode cX0_left 7 = .ok (.if_icmp .gt 24, 3) := by decide +kernel
theorem dX0_left_10 : decode cX0_left 10 = .ok (.aload_n 0, 1) := by decide +kernel
theorem dX0_left_11 : decode cX0_left 11 = .ok (.getfield 9, 3) := by decide +kernel
theorem dX0_left_14 : decode cX0_left 14 = .ok (.iload_n 3, 1) := by decide +kernel
theorem dX0_left_15 : decode cX0_left 15 = .ok (.iaload, 1) := by decide +kernel
theorem dX0_left_16 : decode cX0_left 16 = .ok (.ifCond .le 9, 3) := by decide +kernel
theorem dX0_left_19 : decode cX0_left 19 = .ok (.lload_n 1, 1) := by decide +kernel
theorem dX0_left_20 : decode cX0_left 20 = .ok (.lconst 1, 1) := by decide +kernel
theorem dX0_left_21 : decode cX0_left 21 = .ok (.iload_n 3, 1) := by decide +kernel
theorem dX0_left_22 : decode cX0_left 22 = .ok (.lshl, 1) := by decide +kernel
theorem dX0_left_23 : decode cX0_left 23 = .ok (.lor, 1) := by decide +kernel
theorem dX0_left_24 : decode cX0_left 24 = .ok (.lstore_n 1, 1) := by decide +kernel
theorem dX0_left_25 : decode cX0_left 25 = .ok (.iinc 3 1, 3) := by decide +kernel
theorem dX0_left_28 : decode cX0_left 28 = .ok (.goto (-24), 3) := by decide +kernel
theorem dX0_left_31 : decode cX0_left 31 = .ok (.lload_n 1, 1) := by decide +kernel
theorem dX0_left_32 : decode cX0_left 32 = .ok (.lreturn, 1) := by decide +kernel
set_option maxRecDepth 20000 in
theorem ggX0_weightOf_X4_holds : GoodIn wsX0_weightOf wsX4_holds := goodIn_r _ [4] (by decide +kernel) (by decide +kernel)
set_option maxRecDepth 20000 in
theorem gX0_weightOf_X4_holds_n38 : GoodIn wsX0_weightOf (wsX4_holds) := ggX0_weightOf_X4_holds
theorem dX0_weightOf_0 : decode cX0_weightOf 0 = .ok (.iconst 0, 1) := by decide +kernel
theorem dX0_weightOf_1 : decode cX0_weightOf 1 = .ok (.istore_n 3, 1) := by decide +kernel
theorem dX0_weightOf_2 : decode cX0_weightOf 2 = .ok (.iconst 1, 1) := by decide +kernel
theorem dX0_weightOf_3 : decode cX0_weightOf 3 = .ok (.istore 4, 2) := by decide +kernel
theorem dX0_weightOf_5 : decode cX0_weightOf 5 = .ok (.iload 4, 2) := by decide +kernel
theorem dX0_weightOf_7 : decode cX0_weightOf 7 = .ok (.bipush 40, 2) := by decide +kernel
theorem dX0_weightOf_9 : decode cX0_weightOf 9 = .ok (.if_icmp .gt 28, 3) := by decide +kernel
theorem dX0_weightOf_12 : decode cX0_weightOf 12 = .ok (.lload_n 1, 1) := by decide +kernel
theorem dX0_weightOf_13 : decode cX0_weightOf 13 = .ok (.iload 4, 2) := by decide +kernel
theorem dX0_weightOf_15 : decode cX0_weightOf 15 = .ok (.invokestatic 38, 3) := by decide +kernel
theorem dX0_weightOf_18 : decode cX0_weightOf 18 = .ok (.ifCond .eq 13, 3) := by decide +kernel
theorem dX0_weightOf_21 : decode cX0_weightOf 21 = .ok (.iload_n 3, 1) := by decide +kernel
theorem dX0_weightOf_22 : decode cX0_weightOf 22 = .ok (.aload_n 0, 1) := by decide +kernel
theorem dX0_weightOf_23 : decode cX0_weightOf 23 = .ok (.getfield 9, 3) := by decide +kernel
theorem dX0_weightOf_26 : decode cX0_weightOf 26 = .ok (.iload 4, 2) := by decide +kernel
theorem dX0_weightOf_28 : decode cX0_weightOf 28 = .ok (.iaload, 1) := by decide +kernel
theorem dX0_weightOf_29 : decode cX0_weightOf 29 = .ok (.iadd, 1) := by decide +kernel
theorem dX0_weightOf_30 : decode cX0_weightOf 30 = .ok (.istore_n 3, 1) := by decide +kernel
theorem dX0_weightOf_31 : decode cX0_weightOf 31 = .ok (.iinc 4 1, 3) := by decide +kernel
theorem dX0_weightOf_34 : decode cX0_weightOf 34 = .ok (.goto (-29), 3) := by decide +kernel
theorem dX0_weightOf_37 : decode cX0_weightOf 37 = .ok (.iload_n 3, 1) := by decide +kernel
theorem dX0_weightOf_38 : decode cX0_weightOf 38 = .ok (.ireturn, 1) := by decide +kernel
set_option maxRecDepth 20000 in
theorem ggX0_middle_X0_left : GoodIn wsX0_middle wsX0_left := goodIn_r _ [6, 1, 14, 15, 16, 17, 18] (by decide +kernel) (by decide +kernel)
set_option maxRecDepth 20000 in
theorem gX0_middle_X0_left : GoodIn wsX0_middle (wsV RX0 42 RX0 yX0_left wsX0_left) := goodIn_app (goodIn_of _ (by decide +kernel)) ggX0_middle_X0_left
set_option maxRecDepth 20000 in
theorem ggX0_middle_X0_weightOf : GoodIn wsX0_middle wsX0_weightOf := goodIn_r _ [10, 1, 11, 12, 13, 14, 15, 16, 17, 18] (by decide +kernel) (by decide +kernel)
set_option maxRecDepth 20000 in
theorem gX0_middle_X0_weightOf : GoodIn wsX0_middle (wsV RX0 46 RX0 yX0_weightOf wsX0_weightOf) := goodIn_app (goodIn_of _ (by decide +kernel)) ggX0_middle_X0_weightOf
theorem dX0_middle_0 : decode cX0_middle 0 = .ok (.aload_n 0, 1) := by decide +kernel
theorem dX0_middle_1 : decode cX0_middle 1 = .ok (.aload_n 0, 1) := by decide +kernel
theorem dX0_middle_2 : decode cX0_middle 2 = .ok (.invokevirtual 42, 3) := by decide +kernel
theorem dX0_middle_5 : decode cX0_middle 5 = .ok (.invokevirtual 46, 3) := by decide +kernel
theorem dX0_middle_8 : decode cX0_middle 8 = .ok (.istore_n 1, 1) := by decide +kernel
theorem dX0_middle_9 : decode cX0_middle 9 = .ok (.iconst 0, 1) := by decide +kernel
theorem dX0_middle_10 : decode cX0_middle 10 = .ok (.istore_n 2, 1) := by decide +kernel
theorem dX0_middle_11 : decode cX0_middle 11 = .ok (.iconst 1, 1) := by decide +kernel
theorem dX0_middle_12 : decode cX0_middle 12 = .ok (.istore_n 3, 1) := by decide +kernel
theorem dX0_middle_13 : decode cX0_middle 13 = .ok (.iload_n 3, 1) := by decide +kernel
theorem dX0_middle_14 : decode cX0_middle 14 = .ok (.bipush 40, 2) := by decide +kernel
theorem dX0_middle_16 : decode cX0_middle 16 = .ok (.if_icmp .gt 31, 3) := by decide +kernel
theorem dX0_middle_19 : decode cX0_middle 19 = .ok (.iload_n 1, 1) := by decide +kernel
theorem dX0_middle_20 : decode cX0_middle 20 = .ok (.ifCond .le 27, 3) := by decide +kernel
theorem dX0_middle_23 : decode cX0_middle 23 = .ok (.iload_n 2, 1) := by decide +kernel
theorem dX0_middle_24 : decode cX0_middle 24 = .ok (.aload_n 0, 1) := by decide +kernel
theorem dX0_middle_25 : decode cX0_middle 25 = .ok (.getfield 9, 3) := by decide +kernel
theorem dX0_middle_28 : decode cX0_middle 28 = .ok (.iload_n 3, 1) := by decide +kernel
theorem dX0_middle_29 : decode cX0_middle 29 = .ok (.iaload, 1) := by decide +kernel
theorem dX0_middle_30 : decode cX0_middle 30 = .ok (.iadd, 1) := by decide +kernel
theorem dX0_middle_31 : decode cX0_middle 31 = .ok (.istore_n 2, 1) := by decide +kernel
theorem dX0_middle_32 : decode cX0_middle 32 = .ok (.iconst 2, 1) := by decide +kernel
theorem dX0_middle_33 : decode cX0_middle 33 = .ok (.iload_n 2, 1) := by decide +kernel
theorem dX0_middle_34 : decode cX0_middle 34 = .ok (.imul, 1) := by decide +kernel
theorem dX0_middle_35 : decode cX0_middle 35 = .ok (.iload_n 1, 1) := by decide +kernel
theorem dX0_middle_36 : decode cX0_middle 36 = .ok (.if_icmp .lt 5, 3) := by decide +kernel
theorem dX0_middle_39 : decode cX0_middle 39 = .ok (.iload_n 3, 1) := by decide +kernel
theorem dX0_middle_40 : decode cX0_middle 40 = .ok (.ireturn, 1) := by decide +kernel
theorem dX0_middle_41 : decode cX0_middle 41 = .ok (.iinc 3 1, 3) := by decide +kernel
theorem dX0_middle_44 : decode cX0_middle 44 = .ok (.goto (-31), 3) := by decide +kernel
theorem dX0_middle_47 : decode cX0_middle 47 = .ok (.bipush (-9), 2) := by decide +kernel
theorem dX0_middle_49 : decode cX0_middle 49 = .ok (.ireturn, 1) := by decide +kernel
set_option maxRecDepth 20000 in
theorem ggX0_leftIfTold_X1_lay : GoodIn wsX0_leftIfTold wsX1_lay := goodIn_r _ [9, 10, 11, 12, 13, 14, 15, 16, 17, 18, 8, 19, 20, 21, 22, 23, 24, 25, 39, 40, 41, 42, 43, 44, 45] (by decide +kernel) (by decide +kernel)
set_option maxRecDepth 20000 in
theorem gX0_leftIfTold_X1_lay : GoodIn wsX0_leftIfTold (wsV RX0 50 RX1 yX1_lay wsX1_lay) := goodIn_app (goodIn_of _ (by decide +kernel)) ggX0_leftIfTold_X1_lay
set_option maxRecDepth 20000 in
theorem ggX0_leftIfTold_X1_tell : GoodIn wsX0_leftIfTold wsX1_tell := goodIn_r _ [29, 16, 30, 31, 13, 32, 15, 33, 34, 8, 35, 36, 37, 38, 44, 45] (by decide +kernel) (by decide +kernel)
set_option maxRecDepth 20000 in
theorem gX0_leftIfTold_X1_tell : GoodIn wsX0_leftIfTold (wsV RX0 56 RX1 yX1_tell wsX1_tell) := goodIn_app (goodIn_of _ (by decide +kernel)) ggX0_leftIfTold_X1_tell
theorem dX0_leftIfTold_0 : decode cX0_leftIfTold 0 = .ok (.lconst 0, 1) := by decide +kernel
theorem dX0_leftIfTold_1 : decode cX0_leftIfTold 1 = .ok (.lstore 4, 2) := by decide +kernel
theorem dX0_leftIfTold_3 : decode cX0_leftIfTold 3 = .ok (.aload_n 1, 1) := by decide +kernel
theorem dX0_leftIfTold_4 : decode cX0_leftIfTold 4 = .ok (.aload_n 0, 1) := by decide +kernel
theorem dX0_leftIfTold_5 : decode cX0_leftIfTold 5 = .ok (.aload_n 0, 1) := by decide +kernel
theorem dX0_leftIfTold_6 : decode cX0_leftIfTold 6 = .ok (.getfield 18, 3) := by decide +kernel
theorem dX0_leftIfTold_9 : decode cX0_leftIfTold 9 = .ok (.iload_n 2, 1) := by decide +kernel
theorem dX0_leftIfTold_10 : decode cX0_leftIfTold 10 = .ok (.invokevirtual 50, 3) := by decide +kernel
theorem dX0_leftIfTold_13 : decode cX0_leftIfTold 13 = .ok (.iconst 1, 1) := by decide +kernel
theorem dX0_leftIfTold_14 : decode cX0_leftIfTold 14 = .ok (.istore 6, 2) := by decide +kernel
theorem dX0_leftIfTold_16 : decode cX0_leftIfTold 16 = .ok (.iload 6, 2) := by decide +kernel
theorem dX0_leftIfTold_18 : decode cX0_leftIfTold 18 = .ok (.bipush 40, 2) := by decide +kernel
theorem dX0_leftIfTold_20 : decode cX0_leftIfTold 20 = .ok (.if_icmp .gt 48, 3) := by decide +kernel
theorem dX0_leftIfTold_23 : decode cX0_leftIfTold 23 = .ok (.aload_n 0, 1) := by decide +kernel
theorem dX0_leftIfTold_24 : decode cX0_leftIfTold 24 = .ok (.getfield 9, 3) := by decide +kernel
theorem dX0_leftIfTold_27 : decode cX0_leftIfTold 27 = .ok (.iload 6, 2) := by decide +kernel
theorem dX0_leftIfTold_29 : decode cX0_leftIfTold 29 = .ok (.iaload, 1) := by decide +kernel
theorem dX0_leftIfTold_30 : decode cX0_leftIfTold 30 = .ok (.ifCond .le 32, 3) := by decide +kernel
theorem dX0_leftIfTold_33 : decode cX0_leftIfTold 33 = .ok (.aload_n 1, 1) := by decide +kernel
theorem dX0_leftIfTold_34 : decode cX0_leftIfTold 34 = .ok (.aload_n 0, 1) := by decide +kernel
theorem dX0_leftIfTold_35 : decode cX0_leftIfTold 35 = .ok (.getfield 22, 3) := by decide +kernel
theorem dX0_leftIfTold_38 : decode cX0_leftIfTold 38 = .ok (.aload_n 0, 1) := by decide +kernel
theorem dX0_leftIfTold_39 : decode cX0_leftIfTold 39 = .ok (.getfield 15, 3) := by decide +kernel
theorem dX0_leftIfTold_42 : decode cX0_leftIfTold 42 = .ok (.iconst 2, 1) := by decide +kernel
theorem dX0_leftIfTold_43 : decode cX0_leftIfTold 43 = .ok (.iaload, 1) := by decide +kernel
theorem dX0_leftIfTold_44 : decode cX0_leftIfTold 44 = .ok (.iload 6, 2) := by decide +kernel
theorem dX0_leftIfTold_46 : decode cX0_leftIfTold 46 = .ok (.invokevirtual 56, 3) := by decide +kernel
theorem dX0_leftIfTold_49 : decode cX0_leftIfTold 49 = .ok (.iload_n 3, 1) := by decide +kernel
theorem dX0_leftIfTold_50 : decode cX0_leftIfTold 50 = .ok (.if_icmp .ne 12, 3) := by decide +kernel
theorem dX0_leftIfTold_53 : decode cX0_leftIfTold 53 = .ok (.lload 4, 2) := by decide +kernel
theorem dX0_leftIfTold_55 : decode cX0_leftIfTold 55 = .ok (.lconst 1, 1) := by decide +kernel
theorem dX0_leftIfTold_56 : decode cX0_leftIfTold 56 = .ok (.iload 6, 2) := by decide +kernel
theorem dX0_leftIfTold_58 : decode cX0_leftIfTold 58 = .ok (.lshl, 1) := by decide +kernel
theorem dX0_leftIfTold_59 : decode cX0_leftIfTold 59 = .ok (.lor, 1) := by decide +kernel
theorem dX0_leftIfTold_60 : decode cX0_leftIfTold 60 = .ok (.lstore 4, 2) := by decide +kernel
theorem dX0_leftIfTold_62 : decode cX0_leftIfTold 62 = .ok (.iinc 6 1, 3) := by decide +kernel
theorem dX0_leftIfTold_65 : decode cX0_leftIfTold 65 = .ok (.goto (-49), 3) := by decide +kernel
theorem dX0_leftIfTold_68 : decode cX0_leftIfTold 68 = .ok (.lload 4, 2) := by decide +kernel
theorem dX0_leftIfTold_70 : decode cX0_leftIfTold 70 = .ok (.lreturn, 1) := by decide +kernel
set_option maxRecDepth 20000 in
theorem ggX0_tryDownTo_X4_holds : GoodIn wsX0_tryDownTo wsX4_holds := goodIn_r _ [5] (by decide +kernel) (by decide +kernel)
set_option maxRecDepth 20000 in
theorem gX0_tryDownTo_X4_holds_n38 : GoodIn wsX0_tryDownTo (wsX4_holds) := ggX0_tryDownTo_X4_holds
theorem dX0_tryDownTo_0 : decode cX0_tryDownTo 0 = .ok (.iconst 1, 1) := by decide +kernel
theorem dX0_tryDownTo_1 : decode cX0_tryDownTo 1 = .ok (.istore_n 3, 1) := by decide +kernel
theorem dX0_tryDownTo_2 : decode cX0_tryDownTo 2 = .ok (.iload_n 3, 1) := by decide +kernel
theorem dX0_tryDownTo_3 : decode cX0_tryDownTo 3 = .ok (.bipush 40, 2) := by decide +kernel
theorem dX0_tryDownTo_5 : decode cX0_tryDownTo 5 = .ok (.if_icmp .gt 24, 3) := by decide +kernel
theorem dX0_tryDownTo_8 : decode cX0_tryDownTo 8 = .ok (.lload_n 1, 1) := by decide +kernel
theorem dX0_tryDownTo_9 : decode cX0_tryDownTo 9 = .ok (.iload_n 3, 1) := by decide +kernel
theorem dX0_tryDownTo_10 : decode cX0_tryDownTo 10 = .ok (.invokestatic 38, 3) := by decide +kernel
theorem dX0_tryDownTo_13 : decode cX0_tryDownTo 13 = .ok (.ifCond .ne 10, 3) := by decide +kernel
theorem dX0_tryDownTo_16 : decode cX0_tryDownTo 16 = .ok (.aload_n 0, 1) := by decide +kernel
theorem dX0_tryDownTo_17 : decode cX0_tryDownTo 17 = .ok (.getfield 9, 3) := by decide +kernel
theorem dX0_tryDownTo_20 : decode cX0_tryDownTo 20 = .ok (.iload_n 3, 1) := by decide +kernel
theorem dX0_tryDownTo_21 : decode cX0_tryDownTo 21 = .ok (.iconst 0, 1) := by decide +kernel
theorem dX0_tryDownTo_22 : decode cX0_tryDownTo 22 = .ok (.iastore, 1) := by decide +kernel
theorem dX0_tryDownTo_23 : decode cX0_tryDownTo 23 = .ok (.iinc 3 1, 3) := by decide +kernel
theorem dX0_tryDownTo_26 : decode cX0_tryDownTo 26 = .ok (.goto (-24), 3) := by decide +kernel
theorem dX0_tryDownTo_29 : decode cX0_tryDownTo 29 = .ok (.aload_n 0, 1) := by decide +kernel
theorem dX0_tryDownTo_30 : decode cX0_tryDownTo 30 = .ok (.dup, 1) := by decide +kernel
theorem dX0_tryDownTo_31 : decode cX0_tryDownTo 31 = .ok (.getfield 25, 3) := by decide +kernel
theorem dX0_tryDownTo_34 : decode cX0_tryDownTo 34 = .ok (.iconst 1, 1) := by decide +kernel
theorem dX0_tryDownTo_35 : decode cX0_tryDownTo 35 = .ok (.iadd, 1) := by decide +kernel
theorem dX0_tryDownTo_36 : decode cX0_tryDownTo 36 = .ok (.putfield 25, 3) := by decide +kernel
theorem dX0_tryDownTo_39 : decode cX0_tryDownTo 39 = .ok (.return_, 1) := by decide +kernel
set_option maxRecDepth 20000 in
theorem ggX0_faultsAt_X4_holds : GoodIn wsX0_faultsAt wsX4_holds := goodIn_r _ [9] (by decide +kernel) (by decide +kernel)
set_option maxRecDepth 20000 in
theorem gX0_faultsAt_X4_holds_n38 : GoodIn wsX0_faultsAt (wsX4_holds) := ggX0_faultsAt_X4_holds
theorem dX0_faultsAt_0 : decode cX0_faultsAt 0 = .ok (.lconst 0, 1) := by decide +kernel
theorem dX0_faultsAt_1 : decode cX0_faultsAt 1 = .ok (.lstore 4, 2) := by decide +kernel
theorem dX0_faultsAt_3 : decode cX0_faultsAt 3 = .ok (.iconst 1, 1) := by decide +kernel
theorem dX0_faultsAt_4 : decode cX0_faultsAt 4 = .ok (.istore 6, 2) := by decide +kernel
theorem dX0_faultsAt_6 : decode cX0_faultsAt 6 = .ok (.iload 6, 2) := by decide +kernel
theorem dX0_faultsAt_8 : decode cX0_faultsAt 8 = .ok (.bipush 40, 2) := by decide +kernel
theorem dX0_faultsAt_10 : decode cX0_faultsAt 10 = .ok (.if_icmp .gt 39, 3) := by decide +kernel
theorem dX0_faultsAt_13 : decode cX0_faultsAt 13 = .ok (.lload_n 2, 1) := by decide +kernel
theorem dX0_faultsAt_14 : decode cX0_faultsAt 14 = .ok (.iload 6, 2) := by decide +kernel
theorem dX0_faultsAt_16 : decode cX0_faultsAt 16 = .ok (.invokestatic 38, 3) := by decide +kernel
theorem dX0_faultsAt_19 : decode cX0_faultsAt 19 = .ok (.ifCond .eq 24, 3) := by decide +kernel
theorem dX0_faultsAt_22 : decode cX0_faultsAt 22 = .ok (.lload 4, 2) := by decide +kernel
theorem dX0_faultsAt_24 : decode cX0_faultsAt 24 = .ok (.aload_n 0, 1) := by decide +kernel
theorem dX0_faultsAt_25 : decode cX0_faultsAt 25 = .ok (.getfield 9, 3) := by decide +kernel
theorem dX0_faultsAt_28 : decode cX0_faultsAt 28 = .ok (.iload 6, 2) := by decide +kernel
theorem dX0_faultsAt_30 : decode cX0_faultsAt 30 = .ok (.iaload, 1) := by decide +kernel
theorem dX0_faultsAt_31 : decode cX0_faultsAt 31 = .ok (.iload_n 1, 1) := by decide +kernel
theorem dX0_faultsAt_32 : decode cX0_faultsAt 32 = .ok (.iload 6, 2) := by decide +kernel
theorem dX0_faultsAt_34 : decode cX0_faultsAt 34 = .ok (.isub, 1) := by decide +kernel
theorem dX0_faultsAt_35 : decode cX0_faultsAt 35 = .ok (.invokestatic 60, 3) := by decide +kernel
theorem dX0_faultsAt_38 : decode cX0_faultsAt 38 = .ok (.imul, 1) := by decide +kernel
theorem dX0_faultsAt_39 : decode cX0_faultsAt 39 = .ok (.i2l, 1) := by decide +kernel
theorem dX0_faultsAt_40 : decode cX0_faultsAt 40 = .ok (.ladd, 1) := by decide +kernel
theorem dX0_faultsAt_41 : decode cX0_faultsAt 41 = .ok (.lstore 4, 2) := by decide +kernel
theorem dX0_faultsAt_43 : decode cX0_faultsAt 43 = .ok (.iinc 6 1, 3) := by decide +kernel
theorem dX0_faultsAt_46 : decode cX0_faultsAt 46 = .ok (.goto (-40), 3) := by decide +kernel
theorem dX0_faultsAt_49 : decode cX0_faultsAt 49 = .ok (.lload 4, 2) := by decide +kernel
theorem dX0_faultsAt_51 : decode cX0_faultsAt 51 = .ok (.aload_n 0, 1) := by decide +kernel
theorem dX0_faultsAt_52 : decode cX0_faultsAt 52 = .ok (.getfield 15, 3) := by decide +kernel
theorem dX0_faultsAt_55 : decode cX0_faultsAt 55 = .ok (.iconst 4, 1) := by decide +kernel
theorem dX0_faultsAt_56 : decode cX0_faultsAt 56 = .ok (.iaload, 1) := by decide +kernel
theorem dX0_faultsAt_57 : decode cX0_faultsAt 57 = .ok (.i2l, 1) := by decide +kernel
theorem dX0_faultsAt_58 : decode cX0_faultsAt 58 = .ok (.lmul, 1) := by decide +kernel
theorem dX0_faultsAt_59 : decode cX0_faultsAt 59 = .ok (.lreturn, 1) := by decide +kernel
set_option maxRecDepth 20000 in
theorem ggX0_sheetFor_X0_faultsAt : GoodIn wsX0_sheetFor wsX0_faultsAt := goodIn_r _ [5, 6, 7, 8, 9, 10, 11, 12, 13, 14, 15, 16, 17, 18, 19] (by decide +kernel) (by decide +kernel)
set_option maxRecDepth 20000 in
theorem gX0_sheetFor_X0_faultsAt : GoodIn wsX0_sheetFor (wsV RX0 66 RX0 yX0_faultsAt wsX0_faultsAt) := goodIn_app (goodIn_of _ (by decide +kernel)) ggX0_sheetFor_X0_faultsAt
theorem dX0_sheetFor_0 : decode cX0_sheetFor 0 = .ok (.iconst 1, 1) := by decide +kernel
theorem dX0_sheetFor_1 : decode cX0_sheetFor 1 = .ok (.istore_n 3, 1) := by decide +kernel
theorem dX0_sheetFor_2 : decode cX0_sheetFor 2 = .ok (.aload_n 0, 1) := by decide +kernel
theorem dX0_sheetFor_3 : decode cX0_sheetFor 3 = .ok (.iconst 1, 1) := by decide +kernel
theorem dX0_sheetFor_4 : decode cX0_sheetFor 4 = .ok (.lload_n 1, 1) := by decide +kernel
theorem dX0_sheetFor_5 : decode cX0_sheetFor 5 = .ok (.invokevirtual 66, 3) := by decide +kernel
theorem dX0_sheetFor_8 : decode cX0_sheetFor 8 = .ok (.lstore 4, 2) := by decide +kernel
theorem dX0_sheetFor_10 : decode cX0_sheetFor 10 = .ok (.iconst 2, 1) := by decide +kernel
theorem dX0_sheetFor_11 : decode cX0_sheetFor 11 = .ok (.istore 6, 2) := by decide +kernel
theorem dX0_sheetFor_13 : decode cX0_sheetFor 13 = .ok (.iload 6, 2) := by decide +kernel
theorem dX0_sheetFor_15 : decode cX0_sheetFor 15 = .ok (.bipush 40, 2) := by decide +kernel
theorem dX0_sheetFor_17 : decode cX0_sheetFor 17 = .ok (.if_icmp .gt 33, 3) := by decide +kernel
theorem dX0_sheetFor_20 : decode cX0_sheetFor 20 = .ok (.aload_n 0, 1) := by decide +kernel
theorem dX0_sheetFor_21 : decode cX0_sheetFor 21 = .ok (.iload 6, 2) := by decide +kernel
theorem dX0_sheetFor_23 : decode cX0_sheetFor 23 = .ok (.lload_n 1, 1) := by decide +kernel
theorem dX0_sheetFor_24 : decode cX0_sheetFor 24 = .ok (.invokevirtual 66, 3) := by decide +kernel
theorem dX0_sheetFor_27 : decode cX0_sheetFor 27 = .ok (.lstore 7, 2) := by decide +kernel
theorem dX0_sheetFor_29 : decode cX0_sheetFor 29 = .ok (.lload 7, 2) := by decide +kernel
theorem dX0_sheetFor_31 : decode cX0_sheetFor 31 = .ok (.lload 4, 2) := by decide +kernel
theorem dX0_sheetFor_33 : decode cX0_sheetFor 33 = .ok (.lcmp, 1) := by decide +kernel
theorem dX0_sheetFor_34 : decode cX0_sheetFor 34 = .ok (.ifCond .ge 10, 3) := by decide +kernel
theorem dX0_sheetFor_37 : decode cX0_sheetFor 37 = .ok (.lload 7, 2) := by decide +kernel
theorem dX0_sheetFor_39 : decode cX0_sheetFor 39 = .ok (.lstore 4, 2) := by decide +kernel
theorem dX0_sheetFor_41 : decode cX0_sheetFor 41 = .ok (.iload 6, 2) := by decide +kernel
theorem dX0_sheetFor_43 : decode cX0_sheetFor 43 = .ok (.istore_n 3, 1) := by decide +kernel
theorem dX0_sheetFor_44 : decode cX0_sheetFor 44 = .ok (.iinc 6 1, 3) := by decide +kernel
theorem dX0_sheetFor_47 : decode cX0_sheetFor 47 = .ok (.goto (-34), 3) := by decide +kernel
theorem dX0_sheetFor_50 : decode cX0_sheetFor 50 = .ok (.iload_n 3, 1) := by decide +kernel
theorem dX0_sheetFor_51 : decode cX0_sheetFor 51 = .ok (.ireturn, 1) := by decide +kernel
set_option maxRecDepth 20000 in
theorem ggX0_leastFaults_X0_sheetFor : GoodIn wsX0_leastFaults wsX0_sheetFor := goodIn_r _ [5, 6, 7, 8, 4, 9, 10, 11, 12, 13, 14, 15, 16, 17, 18, 19, 20, 21, 22, 23] (by decide +kernel) (by decide +kernel)
set_option maxRecDepth 20000 in
theorem gX0_leastFaults_X0_sheetFor : GoodIn wsX0_leastFaults (wsV RX0 70 RX0 yX0_sheetFor wsX0_sheetFor) := goodIn_app (goodIn_of _ (by decide +kernel)) ggX0_leastFaults_X0_sheetFor
set_option maxRecDepth 20000 in
theorem ggX0_leastFaults_X0_faultsAt : GoodIn wsX0_leastFaults wsX0_faultsAt := goodIn_r _ [9, 10, 11, 12, 13, 14, 15, 16, 17, 18, 19, 20, 21, 22, 23] (by decide +kernel) (by decide +kernel)
set_option maxRecDepth 20000 in
theorem gX0_leastFaults_X0_faultsAt : GoodIn wsX0_leastFaults (wsV RX0 66 RX0 yX0_faultsAt wsX0_faultsAt) := goodIn_app (goodIn_of _ (by decide +kernel)) ggX0_leastFaults_X0_faultsAt
theorem dX0_leastFaults_0 : decode cX0_leastFaults 0 = .ok (.aload_n 0, 1) := by decide +kernel
theorem dX0_leastFaults_1 : decode cX0_leastFaults 1 = .ok (.aload_n 0, 1) := by decide +kernel
theorem dX0_leastFaults_2 : decode cX0_leastFaults 2 = .ok (.lload_n 1, 1) := by decide +kernel
theorem dX0_leastFaults_3 : decode cX0_leastFaults 3 = .ok (.invokevirtual 70, 3) := by decide +kernel
theorem dX0_leastFaults_6 : decode cX0_leastFaults 6 = .ok (.lload_n 1, 1) := by decide +kernel
theorem dX0_leastFaults_7 : decode cX0_leastFaults 7 = .ok (.invokevirtual 66, 3) := by decide +kernel
theorem dX0_leastFaults_10 : decode cX0_leastFaults 10 = .ok (.lreturn, 1) := by decide +kernel
theorem dX1_init_0 : decode cX1_init 0 = .ok (.aload_n 0, 1) := by decide +kernel
theorem dX1_init_1 : decode cX1_init 1 = .ok (.invokespecial 3, 3) := by decide +kernel
theorem dX1_init_4 : decode cX1_init 4 = .ok (.aload_n 0, 1) := by decide +kernel
theorem dX1_init_5 : decode cX1_init 5 = .ok (.bipush 7, 2) := by decide +kernel
theorem dX1_init_7 : decode cX1_init 7 = .ok (.newarray .int, 2) := by decide +kernel
theorem dX1_init_9 : decode cX1_init 9 = .ok (.putfield 9, 3) := by decide +kernel
theorem dX1_init_12 : decode cX1_init 12 = .ok (.aload_n 0, 1) := by decide +kernel
theorem dX1_init_13 : decode cX1_init 13 = .ok (.iconst 0, 1) := by decide +kernel
theorem dX1_init_14 : decode cX1_init 14 = .ok (.putfield 15, 3) := by decide +kernel
theorem dX1_init_17 : decode cX1_init 17 = .ok (.return_, 1) := by decide +kernel
set_option maxRecDepth 20000 in
theorem ggX1_lay_X1_secondsOf : GoodIn wsX1_lay wsX1_secondsOf := goodIn_r _ [11, 12, 13, 10, 14, 15, 16, 17] (by decide +kernel) (by decide +kernel)
set_option maxRecDepth 20000 in
theorem gX1_lay_X1_secondsOf : GoodIn wsX1_lay (va_wsS RX1 30 yX1_secondsOf wsX1_secondsOf) := goodIn_app (goodIn_of _ (by decide +kernel)) ggX1_lay_X1_secondsOf
theorem dX1_lay_0 : decode cX1_lay 0 = .ok (.aload_n 0, 1) := by decide +kernel
theorem dX1_lay_1 : decode cX1_lay 1 = .ok (.aload_n 1, 1) := by decide +kernel
theorem dX1_lay_2 : decode cX1_lay 2 = .ok (.getfield 19, 3) := by decide +kernel
theorem dX1_lay_5 : decode cX1_lay 5 = .ok (.iconst 0, 1) := by decide +kernel
theorem dX1_lay_6 : decode cX1_lay 6 = .ok (.iaload, 1) := by decide +kernel
theorem dX1_lay_7 : decode cX1_lay 7 = .ok (.bipush 7, 2) := by decide +kernel
theorem dX1_lay_9 : decode cX1_lay 9 = .ok (.invokestatic 24, 3) := by decide +kernel
theorem dX1_lay_12 : decode cX1_lay 12 = .ok (.putfield 15, 3) := by decide +kernel
theorem dX1_lay_15 : decode cX1_lay 15 = .ok (.iconst 0, 1) := by decide +kernel
theorem dX1_lay_16 : decode cX1_lay 16 = .ok (.istore 4, 2) := by decide +kernel
theorem dX1_lay_18 : decode cX1_lay 18 = .ok (.iload 4, 2) := by decide +kernel
theorem dX1_lay_20 : decode cX1_lay 20 = .ok (.aload_n 0, 1) := by decide +kernel
theorem dX1_lay_21 : decode cX1_lay 21 = .ok (.getfield 15, 3) := by decide +kernel
theorem dX1_lay_24 : decode cX1_lay 24 = .ok (.if_icmp .ge 39, 3) := by decide +kernel
theorem dX1_lay_27 : decode cX1_lay 27 = .ok (.aload_n 0, 1) := by decide +kernel
theorem dX1_lay_28 : decode cX1_lay 28 = .ok (.getfield 9, 3) := by decide +kernel
theorem dX1_lay_31 : decode cX1_lay 31 = .ok (.iload 4, 2) := by decide +kernel
theorem dX1_lay_33 : decode cX1_lay 33 = .ok (.sipush 240, 3) := by decide +kernel
theorem dX1_lay_36 : decode cX1_lay 36 = .ok (.iload_n 2, 1) := by decide +kernel
theorem dX1_lay_37 : decode cX1_lay 37 = .ok (.iload_n 3, 1) := by decide +kernel
theorem dX1_lay_38 : decode cX1_lay 38 = .ok (.iload 4, 2) := by decide +kernel
theorem dX1_lay_40 : decode cX1_lay 40 = .ok (.aload_n 0, 1) := by decide +kernel
theorem dX1_lay_41 : decode cX1_lay 41 = .ok (.getfield 15, 3) := by decide +kernel
theorem dX1_lay_44 : decode cX1_lay 44 = .ok (.aload_n 1, 1) := by decide +kernel
theorem dX1_lay_45 : decode cX1_lay 45 = .ok (.getfield 19, 3) := by decide +kernel
theorem dX1_lay_48 : decode cX1_lay 48 = .ok (.iconst 1, 1) := by decide +kernel
theorem dX1_lay_49 : decode cX1_lay 49 = .ok (.iaload, 1) := by decide +kernel
theorem dX1_lay_50 : decode cX1_lay 50 = .ok (.invokestatic 30, 3) := by decide +kernel
theorem dX1_lay_53 : decode cX1_lay 53 = .ok (.invokestatic 24, 3) := by decide +kernel
theorem dX1_lay_56 : decode cX1_lay 56 = .ok (.iastore, 1) := by decide +kernel
theorem dX1_lay_57 : decode cX1_lay 57 = .ok (.iinc 4 1, 3) := by decide +kernel
theorem dX1_lay_60 : decode cX1_lay 60 = .ok (.goto (-42), 3) := by decide +kernel
theorem dX1_lay_63 : decode cX1_lay 63 = .ok (.return_, 1) := by decide +kernel
theorem dX1_secondsAt_0 : decode cX1_secondsAt 0 = .ok (.iload_n 1, 1) := by decide +kernel
theorem dX1_secondsAt_1 : decode cX1_secondsAt 1 = .ok (.ifCond .lt 20, 3) := by decide +kernel
theorem dX1_secondsAt_4 : decode cX1_secondsAt 4 = .ok (.iload_n 1, 1) := by decide +kernel
theorem dX1_secondsAt_5 : decode cX1_secondsAt 5 = .ok (.aload_n 0, 1) := by decide +kernel
theorem dX1_secondsAt_6 : decode cX1_secondsAt 6 = .ok (.getfield 15, 3) := by decide +kernel
theorem dX1_secondsAt_9 : decode cX1_secondsAt 9 = .ok (.if_icmp .ge 12, 3) := by decide +kernel
theorem dX1_secondsAt_12 : decode cX1_secondsAt 12 = .ok (.aload_n 0, 1) := by decide +kernel
theorem dX1_secondsAt_13 : decode cX1_secondsAt 13 = .ok (.getfield 9, 3) := by decide +kernel
theorem dX1_secondsAt_16 : decode cX1_secondsAt 16 = .ok (.iload_n 1, 1) := by decide +kernel
theorem dX1_secondsAt_17 : decode cX1_secondsAt 17 = .ok (.iaload, 1) := by decide +kernel
theorem dX1_secondsAt_18 : decode cX1_secondsAt 18 = .ok (.goto 5, 3) := by decide +kernel
theorem dX1_secondsAt_21 : decode cX1_secondsAt 21 = .ok (.bipush (-9), 2) := by decide +kernel
theorem dX1_secondsAt_23 : decode cX1_secondsAt 23 = .ok (.ireturn, 1) := by decide +kernel
set_option maxRecDepth 20000 in
theorem ggX1_secondsOf_X1_doubled : GoodIn wsX1_secondsOf wsX1_doubled := goodIn_r _ [4] (by decide +kernel) (by decide +kernel)
set_option maxRecDepth 20000 in
theorem gX1_secondsOf_X1_doubled : GoodIn wsX1_secondsOf (va_wsS RX1 34 yX1_doubled wsX1_doubled) := goodIn_app (goodIn_of _ (by decide +kernel)) ggX1_secondsOf_X1_doubled
set_option maxRecDepth 20000 in
theorem ggX1_secondsOf_X1_halfway : GoodIn wsX1_secondsOf wsX1_halfway := goodIn_r _ [7] (by decide +kernel) (by decide +kernel)
set_option maxRecDepth 20000 in
theorem gX1_secondsOf_X1_halfway : GoodIn wsX1_secondsOf (va_wsS RX1 37 yX1_halfway wsX1_halfway) := goodIn_app (goodIn_of _ (by decide +kernel)) ggX1_secondsOf_X1_halfway
theorem dX1_secondsOf_0 : decode cX1_secondsOf 0 = .ok (.iload_n 2, 1) := by decide +kernel
theorem dX1_secondsOf_1 : decode cX1_secondsOf 1 = .ok (.ifCond .ne 7, 3) := by decide +kernel
theorem dX1_secondsOf_4 : decode cX1_secondsOf 4 = .ok (.iconst 0, 1) := by decide +kernel
theorem dX1_secondsOf_5 : decode cX1_secondsOf 5 = .ok (.goto 7, 3) := by decide +kernel
theorem dX1_secondsOf_8 : decode cX1_secondsOf 8 = .ok (.iload 4, 2) := by decide +kernel
theorem dX1_secondsOf_10 : decode cX1_secondsOf 10 = .ok (.iconst 1, 1) := by decide +kernel
theorem dX1_secondsOf_11 : decode cX1_secondsOf 11 = .ok (.isub, 1) := by decide +kernel
theorem dX1_secondsOf_12 : decode cX1_secondsOf 12 = .ok (.istore 5, 2) := by decide +kernel
theorem dX1_secondsOf_14 : decode cX1_secondsOf 14 = .ok (.iload_n 0, 1) := by decide +kernel
theorem dX1_secondsOf_15 : decode cX1_secondsOf 15 = .ok (.tableswitch 54 1 3 #[25, 34, 43], 25) := by decide +kernel
theorem dX1_secondsOf_40 : decode cX1_secondsOf 40 = .ok (.iload_n 1, 1) := by decide +kernel
theorem dX1_secondsOf_41 : decode cX1_secondsOf 41 = .ok (.iload_n 2, 1) := by decide +kernel
theorem dX1_secondsOf_42 : decode cX1_secondsOf 42 = .ok (.invokestatic 34, 3) := by decide +kernel
theorem dX1_secondsOf_45 : decode cX1_secondsOf 45 = .ok (.iload 5, 2) := by decide +kernel
theorem dX1_secondsOf_47 : decode cX1_secondsOf 47 = .ok (.iadd, 1) := by decide +kernel
theorem dX1_secondsOf_48 : decode cX1_secondsOf 48 = .ok (.ireturn, 1) := by decide +kernel
theorem dX1_secondsOf_49 : decode cX1_secondsOf 49 = .ok (.iload_n 1, 1) := by decide +kernel
theorem dX1_secondsOf_50 : decode cX1_secondsOf 50 = .ok (.iload_n 2, 1) := by decide +kernel
theorem dX1_secondsOf_51 : decode cX1_secondsOf 51 = .ok (.invokestatic 37, 3) := by decide +kernel
theorem dX1_secondsOf_54 : decode cX1_secondsOf 54 = .ok (.iload 5, 2) := by decide +kernel
theorem dX1_secondsOf_56 : decode cX1_secondsOf 56 = .ok (.iadd, 1) := by decide +kernel
theorem dX1_secondsOf_57 : decode cX1_secondsOf 57 = .ok (.ireturn, 1) := by decide +kernel
theorem dX1_secondsOf_58 : decode cX1_secondsOf 58 = .ok (.iload_n 1, 1) := by decide +kernel
theorem dX1_secondsOf_59 : decode cX1_secondsOf 59 = .ok (.iload_n 3, 1) := by decide +kernel
theorem dX1_secondsOf_60 : decode cX1_secondsOf 60 = .ok (.iconst 1, 1) := by decide +kernel
theorem dX1_secondsOf_61 : decode cX1_secondsOf 61 = .ok (.isub, 1) := by decide +kernel
theorem dX1_secondsOf_62 : decode cX1_secondsOf 62 = .ok (.iload_n 2, 1) := by decide +kernel
theorem dX1_secondsOf_63 : decode cX1_secondsOf 63 = .ok (.isub, 1) := by decide +kernel
theorem dX1_secondsOf_64 : decode cX1_secondsOf 64 = .ok (.iload 4, 2) := by decide +kernel
theorem dX1_secondsOf_66 : decode cX1_secondsOf 66 = .ok (.imul, 1) := by decide +kernel
theorem dX1_secondsOf_67 : decode cX1_secondsOf 67 = .ok (.iadd, 1) := by decide +kernel
theorem dX1_secondsOf_68 : decode cX1_secondsOf 68 = .ok (.ireturn, 1) := by decide +kernel
theorem dX1_secondsOf_69 : decode cX1_secondsOf 69 = .ok (.iload_n 1, 1) := by decide +kernel
theorem dX1_secondsOf_70 : decode cX1_secondsOf 70 = .ok (.iload_n 2, 1) := by decide +kernel
theorem dX1_secondsOf_71 : decode cX1_secondsOf 71 = .ok (.iload 4, 2) := by decide +kernel
theorem dX1_secondsOf_73 : decode cX1_secondsOf 73 = .ok (.imul, 1) := by decide +kernel
theorem dX1_secondsOf_74 : decode cX1_secondsOf 74 = .ok (.iadd, 1) := by decide +kernel
theorem dX1_secondsOf_75 : decode cX1_secondsOf 75 = .ok (.ireturn, 1) := by decide +kernel
theorem dX1_doubled_0 : decode cX1_doubled 0 = .ok (.iload_n 0, 1) := by decide +kernel
theorem dX1_doubled_1 : decode cX1_doubled 1 = .ok (.istore_n 2, 1) := by decide +kernel
theorem dX1_doubled_2 : decode cX1_doubled 2 = .ok (.iconst 0, 1) := by decide +kernel
theorem dX1_doubled_3 : decode cX1_doubled 3 = .ok (.istore_n 3, 1) := by decide +kernel
theorem dX1_doubled_4 : decode cX1_doubled 4 = .ok (.iload_n 3, 1) := by decide +kernel
theorem dX1_doubled_5 : decode cX1_doubled 5 = .ok (.iload_n 1, 1) := by decide +kernel
theorem dX1_doubled_6 : decode cX1_doubled 6 = .ok (.if_icmp .ge 13, 3) := by decide +kernel
theorem dX1_doubled_9 : decode cX1_doubled 9 = .ok (.iload_n 2, 1) := by decide +kernel
theorem dX1_doubled_10 : decode cX1_doubled 10 = .ok (.iconst 2, 1) := by decide +kernel
theorem dX1_doubled_11 : decode cX1_doubled 11 = .ok (.imul, 1) := by decide +kernel
theorem dX1_doubled_12 : decode cX1_doubled 12 = .ok (.istore_n 2, 1) := by decide +kernel
theorem dX1_doubled_13 : decode cX1_doubled 13 = .ok (.iinc 3 1, 3) := by decide +kernel
theorem dX1_doubled_16 : decode cX1_doubled 16 = .ok (.goto (-12), 3) := by decide +kernel
theorem dX1_doubled_19 : decode cX1_doubled 19 = .ok (.iload_n 2, 1) := by decide +kernel
theorem dX1_doubled_20 : decode cX1_doubled 20 = .ok (.ireturn, 1) := by decide +kernel
theorem dX1_halfway_0 : decode cX1_halfway 0 = .ok (.iload_n 0, 1) := by decide +kernel
theorem dX1_halfway_1 : decode cX1_halfway 1 = .ok (.istore_n 2, 1) := by decide +kernel
theorem dX1_halfway_2 : decode cX1_halfway 2 = .ok (.iconst 0, 1) := by decide +kernel
theorem dX1_halfway_3 : decode cX1_halfway 3 = .ok (.istore_n 3, 1) := by decide +kernel
theorem dX1_halfway_4 : decode cX1_halfway 4 = .ok (.iload_n 3, 1) := by decide +kernel
theorem dX1_halfway_5 : decode cX1_halfway 5 = .ok (.iload_n 1, 1) := by decide +kernel
theorem dX1_halfway_6 : decode cX1_halfway 6 = .ok (.if_icmp .ge 17, 3) := by decide +kernel
theorem dX1_halfway_9 : decode cX1_halfway 9 = .ok (.iload_n 2, 1) := by decide +kernel
theorem dX1_halfway_10 : decode cX1_halfway 10 = .ok (.iload_n 2, 1) := by decide +kernel
theorem dX1_halfway_11 : decode cX1_halfway 11 = .ok (.iconst 1, 1) := by decide +kernel
theorem dX1_halfway_12 : decode cX1_halfway 12 = .ok (.iadd, 1) := by decide +kernel
theorem dX1_halfway_13 : decode cX1_halfway 13 = .ok (.iconst 2, 1) := by decide +kernel
theorem dX1_halfway_14 : decode cX1_halfway 14 = .ok (.idiv, 1) := by decide +kernel
theorem dX1_halfway_15 : decode cX1_halfway 15 = .ok (.iadd, 1) := by decide +kernel
theorem dX1_halfway_16 : decode cX1_halfway 16 = .ok (.istore_n 2, 1) := by decide +kernel
theorem dX1_halfway_17 : decode cX1_halfway 17 = .ok (.iinc 3 1, 3) := by decide +kernel
theorem dX1_halfway_20 : decode cX1_halfway 20 = .ok (.goto (-16), 3) := by decide +kernel
theorem dX1_halfway_23 : decode cX1_halfway 23 = .ok (.iload_n 2, 1) := by decide +kernel
theorem dX1_halfway_24 : decode cX1_halfway 24 = .ok (.ireturn, 1) := by decide +kernel
set_option maxRecDepth 20000 in
theorem ggX1_tell_X1_soughtPast : GoodIn wsX1_tell wsX1_soughtPast := goodIn_r _ [10, 11, 12, 4, 13] (by decide +kernel) (by decide +kernel)
set_option maxRecDepth 20000 in
theorem gX1_tell_X1_soughtPast : GoodIn wsX1_tell (va_wsS RX1 40 yX1_soughtPast wsX1_soughtPast) := goodIn_app (goodIn_of _ (by decide +kernel)) ggX1_tell_X1_soughtPast
theorem dX1_tell_0 : decode cX1_tell 0 = .ok (.iload_n 3, 1) := by decide +kernel
theorem dX1_tell_1 : decode cX1_tell 1 = .ok (.iload_n 1, 1) := by decide +kernel
theorem dX1_tell_2 : decode cX1_tell 2 = .ok (.iload_n 2, 1) := by decide +kernel
theorem dX1_tell_3 : decode cX1_tell 3 = .ok (.invokestatic 40, 3) := by decide +kernel
theorem dX1_tell_6 : decode cX1_tell 6 = .ok (.iadd, 1) := by decide +kernel
theorem dX1_tell_7 : decode cX1_tell 7 = .ok (.istore 4, 2) := by decide +kernel
theorem dX1_tell_9 : decode cX1_tell 9 = .ok (.iload_n 1, 1) := by decide +kernel
theorem dX1_tell_10 : decode cX1_tell 10 = .ok (.iconst 3, 1) := by decide +kernel
theorem dX1_tell_11 : decode cX1_tell 11 = .ok (.if_icmp .eq 8, 3) := by decide +kernel
theorem dX1_tell_14 : decode cX1_tell 14 = .ok (.iload_n 1, 1) := by decide +kernel
theorem dX1_tell_15 : decode cX1_tell 15 = .ok (.iconst 4, 1) := by decide +kernel
theorem dX1_tell_16 : decode cX1_tell 16 = .ok (.if_icmp .ne 7, 3) := by decide +kernel
theorem dX1_tell_19 : decode cX1_tell 19 = .ok (.iconst 1, 1) := by decide +kernel
theorem dX1_tell_20 : decode cX1_tell 20 = .ok (.goto 4, 3) := by decide +kernel
theorem dX1_tell_23 : decode cX1_tell 23 = .ok (.iconst 0, 1) := by decide +kernel
theorem dX1_tell_24 : decode cX1_tell 24 = .ok (.istore 5, 2) := by decide +kernel
theorem dX1_tell_26 : decode cX1_tell 26 = .ok (.iconst 0, 1) := by decide +kernel
theorem dX1_tell_27 : decode cX1_tell 27 = .ok (.istore 6, 2) := by decide +kernel
theorem dX1_tell_29 : decode cX1_tell 29 = .ok (.aload_n 0, 1) := by decide +kernel
theorem dX1_tell_30 : decode cX1_tell 30 = .ok (.getfield 9, 3) := by decide +kernel
theorem dX1_tell_33 : decode cX1_tell 33 = .ok (.iconst 0, 1) := by decide +kernel
theorem dX1_tell_34 : decode cX1_tell 34 = .ok (.iaload, 1) := by decide +kernel
theorem dX1_tell_35 : decode cX1_tell 35 = .ok (.iload 4, 2) := by decide +kernel
theorem dX1_tell_37 : decode cX1_tell 37 = .ok (.isub, 1) := by decide +kernel
theorem dX1_tell_38 : decode cX1_tell 38 = .ok (.invokestatic 43, 3) := by decide +kernel
theorem dX1_tell_41 : decode cX1_tell 41 = .ok (.istore 7, 2) := by decide +kernel
theorem dX1_tell_43 : decode cX1_tell 43 = .ok (.iconst 1, 1) := by decide +kernel
theorem dX1_tell_44 : decode cX1_tell 44 = .ok (.istore 8, 2) := by decide +kernel
theorem dX1_tell_46 : decode cX1_tell 46 = .ok (.iload 8, 2) := by decide +kernel
theorem dX1_tell_48 : decode cX1_tell 48 = .ok (.aload_n 0, 1) := by decide +kernel
theorem dX1_tell_49 : decode cX1_tell 49 = .ok (.getfield 15, 3) := by decide +kernel
theorem dX1_tell_52 : decode cX1_tell 52 = .ok (.if_icmp .ge 105, 3) := by decide +kernel
theorem dX1_tell_55 : decode cX1_tell 55 = .ok (.aload_n 0, 1) := by decide +kernel
theorem dX1_tell_56 : decode cX1_tell 56 = .ok (.getfield 9, 3) := by decide +kernel
theorem dX1_tell_59 : decode cX1_tell 59 = .ok (.iload 8, 2) := by decide +kernel
theorem dX1_tell_61 : decode cX1_tell 61 = .ok (.iaload, 1) := by decide +kernel
theorem dX1_tell_62 : decode cX1_tell 62 = .ok (.iload 4, 2) := by decide +kernel
theorem dX1_tell_64 : decode cX1_tell 64 = .ok (.isub, 1) := by decide +kernel
theorem dX1_tell_65 : decode cX1_tell 65 = .ok (.invokestatic 43, 3) := by decide +kernel
theorem dX1_tell_68 : decode cX1_tell 68 = .ok (.istore 9, 2) := by decide +kernel
theorem dX1_tell_70 : decode cX1_tell 70 = .ok (.iload 5, 2) := by decide +kernel
theorem dX1_tell_72 : decode cX1_tell 72 = .ok (.ifCond .eq 28, 3) := by decide +kernel
theorem dX1_tell_75 : decode cX1_tell 75 = .ok (.aload_n 0, 1) := by decide +kernel
theorem dX1_tell_76 : decode cX1_tell 76 = .ok (.getfield 9, 3) := by decide +kernel
theorem dX1_tell_79 : decode cX1_tell 79 = .ok (.iload 8, 2) := by decide +kernel
theorem dX1_tell_81 : decode cX1_tell 81 = .ok (.iaload, 1) := by decide +kernel
theorem dX1_tell_82 : decode cX1_tell 82 = .ok (.aload_n 0, 1) := by decide +kernel
theorem dX1_tell_83 : decode cX1_tell 83 = .ok (.getfield 9, 3) := by decide +kernel
theorem dX1_tell_86 : decode cX1_tell 86 = .ok (.iload 6, 2) := by decide +kernel
theorem dX1_tell_88 : decode cX1_tell 88 = .ok (.iaload, 1) := by decide +kernel
theorem dX1_tell_89 : decode cX1_tell 89 = .ok (.if_icmp .lt 7, 3) := by decide +kernel
theorem dX1_tell_92 : decode cX1_tell 92 = .ok (.iconst 1, 1) := by decide +kernel
theorem dX1_tell_93 : decode cX1_tell 93 = .ok (.goto 29, 3) := by decide +kernel
theorem dX1_tell_96 : decode cX1_tell 96 = .ok (.iconst 0, 1) := by decide +kernel
theorem dX1_tell_97 : decode cX1_tell 97 = .ok (.goto 25, 3) := by decide +kernel
theorem dX1_tell_100 : decode cX1_tell 100 = .ok (.aload_n 0, 1) := by decide +kernel
theorem dX1_tell_101 : decode cX1_tell 101 = .ok (.getfield 9, 3) := by decide +kernel
theorem dX1_tell_104 : decode cX1_tell 104 = .ok (.iload 8, 2) := by decide +kernel
theorem dX1_tell_106 : decode cX1_tell 106 = .ok (.iaload, 1) := by decide +kernel
theorem dX1_tell_107 : decode cX1_tell 107 = .ok (.aload_n 0, 1) := by decide +kernel
theorem dX1_tell_108 : decode cX1_tell 108 = .ok (.getfield 9, 3) := by decide +kernel
theorem dX1_tell_111 : decode cX1_tell 111 = .ok (.iload 6, 2) := by decide +kernel
theorem dX1_tell_113 : decode cX1_tell 113 = .ok (.iaload, 1) := by decide +kernel
theorem dX1_tell_114 : decode cX1_tell 114 = .ok (.if_icmp .ge 7, 3) := by decide +kernel
theorem dX1_tell_117 : decode cX1_tell 117 = .ok (.iconst 1, 1) := by decide +kernel
theorem dX1_tell_118 : decode cX1_tell 118 = .ok (.goto 4, 3) := by decide +kernel
theorem dX1_tell_121 : decode cX1_tell 121 = .ok (.iconst 0, 1) := by decide +kernel
theorem dX1_tell_122 : decode cX1_tell 122 = .ok (.istore 10, 2) := by decide +kernel
theorem dX1_tell_124 : decode cX1_tell 124 = .ok (.iload 9, 2) := by decide +kernel
theorem dX1_tell_126 : decode cX1_tell 126 = .ok (.iload 7, 2) := by decide +kernel
theorem dX1_tell_128 : decode cX1_tell 128 = .ok (.if_icmp .lt 15, 3) := by decide +kernel
theorem dX1_tell_131 : decode cX1_tell 131 = .ok (.iload 9, 2) := by decide +kernel
theorem dX1_tell_133 : decode cX1_tell 133 = .ok (.iload 7, 2) := by decide +kernel
theorem dX1_tell_135 : decode cX1_tell 135 = .ok (.if_icmp .ne 16, 3) := by decide +kernel
theorem dX1_tell_138 : decode cX1_tell 138 = .ok (.iload 10, 2) := by decide +kernel
theorem dX1_tell_140 : decode cX1_tell 140 = .ok (.ifCond .eq 11, 3) := by decide +kernel
theorem dX1_tell_143 : decode cX1_tell 143 = .ok (.iload 8, 2) := by decide +kernel
theorem dX1_tell_145 : decode cX1_tell 145 = .ok (.istore 6, 2) := by decide +kernel
theorem dX1_tell_147 : decode cX1_tell 147 = .ok (.iload 9, 2) := by decide +kernel
theorem dX1_tell_149 : decode cX1_tell 149 = .ok (.istore 7, 2) := by decide +kernel
theorem dX1_tell_151 : decode cX1_tell 151 = .ok (.iinc 8 1, 3) := by decide +kernel
theorem dX1_tell_154 : decode cX1_tell 154 = .ok (.goto (-108), 3) := by decide +kernel
theorem dX1_tell_157 : decode cX1_tell 157 = .ok (.iload_n 1, 1) := by decide +kernel
theorem dX1_tell_158 : decode cX1_tell 158 = .ok (.iconst 4, 1) := by decide +kernel
theorem dX1_tell_159 : decode cX1_tell 159 = .ok (.if_icmp .ne 14, 3) := by decide +kernel
theorem dX1_tell_162 : decode cX1_tell 162 = .ok (.iload 7, 2) := by decide +kernel
theorem dX1_tell_164 : decode cX1_tell 164 = .ok (.iload_n 2, 1) := by decide +kernel
theorem dX1_tell_165 : decode cX1_tell 165 = .ok (.if_icmp .le 8, 3) := by decide +kernel
theorem dX1_tell_168 : decode cX1_tell 168 = .ok (.bipush 8, 2) := by decide +kernel
theorem dX1_tell_170 : decode cX1_tell 170 = .ok (.goto 5, 3) := by decide +kernel
theorem dX1_tell_173 : decode cX1_tell 173 = .ok (.iload 6, 2) := by decide +kernel
theorem dX1_tell_175 : decode cX1_tell 175 = .ok (.ireturn, 1) := by decide +kernel
theorem dX1_soughtPast_0 : decode cX1_soughtPast 0 = .ok (.iload_n 0, 1) := by decide +kernel
theorem dX1_soughtPast_1 : decode cX1_soughtPast 1 = .ok (.iconst 1, 1) := by decide +kernel
theorem dX1_soughtPast_2 : decode cX1_soughtPast 2 = .ok (.if_icmp .ne 5, 3) := by decide +kernel
theorem dX1_soughtPast_5 : decode cX1_soughtPast 5 = .ok (.iload_n 1, 1) := by decide +kernel
theorem dX1_soughtPast_6 : decode cX1_soughtPast 6 = .ok (.ireturn, 1) := by decide +kernel
theorem dX1_soughtPast_7 : decode cX1_soughtPast 7 = .ok (.iload_n 0, 1) := by decide +kernel
theorem dX1_soughtPast_8 : decode cX1_soughtPast 8 = .ok (.iconst 2, 1) := by decide +kernel
theorem dX1_soughtPast_9 : decode cX1_soughtPast 9 = .ok (.if_icmp .ne 13, 3) := by decide +kernel
theorem dX1_soughtPast_12 : decode cX1_soughtPast 12 = .ok (.iconst 0, 1) := by decide +kernel
theorem dX1_soughtPast_13 : decode cX1_soughtPast 13 = .ok (.iload_n 1, 1) := by decide +kernel
theorem dX1_soughtPast_14 : decode cX1_soughtPast 14 = .ok (.iconst 1, 1) := by decide +kernel
theorem dX1_soughtPast_15 : decode cX1_soughtPast 15 = .ok (.isub, 1) := by decide +kernel
theorem dX1_soughtPast_16 : decode cX1_soughtPast 16 = .ok (.invokestatic 47, 3) := by decide +kernel
theorem dX1_soughtPast_19 : decode cX1_soughtPast 19 = .ok (.goto 4, 3) := by decide +kernel
theorem dX1_soughtPast_22 : decode cX1_soughtPast 22 = .ok (.iconst 0, 1) := by decide +kernel
theorem dX1_soughtPast_23 : decode cX1_soughtPast 23 = .ok (.ireturn, 1) := by decide +kernel
set_option maxRecDepth 20000 in
theorem ggX2_init_X1_init : GoodIn wsX2_init wsX1_init := goodIn_r _ [15, 16, 2, 3, 6, 17, 18, 24, 25] (by decide +kernel) (by decide +kernel)
set_option maxRecDepth 20000 in
theorem gX2_init_X1_init_n21 : GoodIn wsX2_init (wsX1_init) := ggX2_init_X1_init
theorem dX2_init_0 : decode cX2_init 0 = .ok (.aload_n 0, 1) := by decide +kernel
theorem dX2_init_1 : decode cX2_init 1 = .ok (.invokespecial 3, 3) := by decide +kernel
theorem dX2_init_4 : decode cX2_init 4 = .ok (.aload_n 0, 1) := by decide +kernel
theorem dX2_init_5 : decode cX2_init 5 = .ok (.sipush 1476, 3) := by decide +kernel
theorem dX2_init_8 : decode cX2_init 8 = .ok (.newarray .long, 2) := by decide +kernel
theorem dX2_init_10 : decode cX2_init 10 = .ok (.putfield 11, 3) := by decide +kernel
theorem dX2_init_13 : decode cX2_init 13 = .ok (.aload_n 0, 1) := by decide +kernel
theorem dX2_init_14 : decode cX2_init 14 = .ok (.iconst 4, 1) := by decide +kernel
theorem dX2_init_15 : decode cX2_init 15 = .ok (.newarray .int, 2) := by decide +kernel
theorem dX2_init_17 : decode cX2_init 17 = .ok (.putfield 15, 3) := by decide +kernel
theorem dX2_init_20 : decode cX2_init 20 = .ok (.aload_n 0, 1) := by decide +kernel
theorem dX2_init_21 : decode cX2_init 21 = .ok (.new 19, 3) := by decide +kernel
theorem dX2_init_24 : decode cX2_init 24 = .ok (.dup, 1) := by decide +kernel
theorem dX2_init_25 : decode cX2_init 25 = .ok (.invokespecial 21, 3) := by decide +kernel
theorem dX2_init_28 : decode cX2_init 28 = .ok (.putfield 22, 3) := by decide +kernel
theorem dX2_init_31 : decode cX2_init 31 = .ok (.aload_n 0, 1) := by decide +kernel
theorem dX2_init_32 : decode cX2_init 32 = .ok (.iconst 0, 1) := by decide +kernel
theorem dX2_init_33 : decode cX2_init 33 = .ok (.putfield 26, 3) := by decide +kernel
theorem dX2_init_36 : decode cX2_init 36 = .ok (.aload_n 0, 1) := by decide +kernel
theorem dX2_init_37 : decode cX2_init 37 = .ok (.bipush 41, 2) := by decide +kernel
theorem dX2_init_39 : decode cX2_init 39 = .ok (.newarray .int, 2) := by decide +kernel
theorem dX2_init_41 : decode cX2_init 41 = .ok (.putfield 30, 3) := by decide +kernel
theorem dX2_init_44 : decode cX2_init 44 = .ok (.return_, 1) := by decide +kernel
set_option maxRecDepth 20000 in
theorem ggX2_take_X4_isStripKind : GoodIn wsX2_take wsX4_isStripKind := goodIn_r _ [7] (by decide +kernel) (by decide +kernel)
set_option maxRecDepth 20000 in
theorem gX2_take_X4_isStripKind_n33 : GoodIn wsX2_take (wsX4_isStripKind) := ggX2_take_X4_isStripKind
set_option maxRecDepth 20000 in
theorem ggX2_take_X2_layFrom : GoodIn wsX2_take wsX2_layFrom := goodIn_r _ [12, 1, 13, 14, 2, 3, 15, 16, 17, 18, 19, 20, 21, 22, 23, 24, 25, 26, 27, 28, 29, 30, 31, 32, 33, 34, 35, 36, 37, 38, 39, 40, 41, 42, 43, 44, 45, 46, 47, 48, 49, 50, 51, 52, 53, 54, 55, 56, 57, 58, 59, 60] (by decide +kernel) (by decide +kernel)
set_option maxRecDepth 20000 in
theorem gX2_take_X2_layFrom : GoodIn wsX2_take (wsV RX2 45 RX2 yX2_layFrom wsX2_layFrom) := goodIn_app (goodIn_of _ (by decide +kernel)) ggX2_take_X2_layFrom
theorem dX2_take_0 : decode cX2_take 0 = .ok (.iload_n 2, 1) := by decide +kernel
theorem dX2_take_1 : decode cX2_take 1 = .ok (.invokestatic 33, 3) := by decide +kernel
theorem dX2_take_4 : decode cX2_take 4 = .ok (.ifCond .ne 4, 3) := by decide +kernel
theorem dX2_take_7 : decode cX2_take 7 = .ok (.return_, 1) := by decide +kernel
theorem dX2_take_8 : decode cX2_take 8 = .ok (.aload_n 0, 1) := by decide +kernel
theorem dX2_take_9 : decode cX2_take 9 = .ok (.iload_n 2, 1) := by decide +kernel
theorem dX2_take_10 : decode cX2_take 10 = .ok (.sipush 369, 3) := by decide +kernel
theorem dX2_take_13 : decode cX2_take 13 = .ok (.imul, 1) := by decide +kernel
theorem dX2_take_14 : decode cX2_take 14 = .ok (.putfield 26, 3) := by decide +kernel
theorem dX2_take_17 : decode cX2_take 17 = .ok (.aload_n 1, 1) := by decide +kernel
theorem dX2_take_18 : decode cX2_take 18 = .ok (.getfield 37, 3) := by decide +kernel
theorem dX2_take_21 : decode cX2_take 21 = .ok (.istore_n 3, 1) := by decide +kernel
theorem dX2_take_22 : decode cX2_take 22 = .ok (.iload_n 3, 1) := by decide +kernel
theorem dX2_take_23 : decode cX2_take 23 = .ok (.bipush 10, 2) := by decide +kernel
theorem dX2_take_25 : decode cX2_take 25 = .ok (.imul, 1) := by decide +kernel
theorem dX2_take_26 : decode cX2_take 26 = .ok (.aload_n 1, 1) := by decide +kernel
theorem dX2_take_27 : decode cX2_take 27 = .ok (.getfield 42, 3) := by decide +kernel
theorem dX2_take_30 : decode cX2_take 30 = .ok (.iconst 2, 1) := by decide +kernel
theorem dX2_take_31 : decode cX2_take 31 = .ok (.iaload, 1) := by decide +kernel
theorem dX2_take_32 : decode cX2_take 32 = .ok (.iadd, 1) := by decide +kernel
theorem dX2_take_33 : decode cX2_take 33 = .ok (.istore_n 3, 1) := by decide +kernel
theorem dX2_take_34 : decode cX2_take 34 = .ok (.iload_n 3, 1) := by decide +kernel
theorem dX2_take_35 : decode cX2_take 35 = .ok (.bipush 10, 2) := by decide +kernel
theorem dX2_take_37 : decode cX2_take 37 = .ok (.imul, 1) := by decide +kernel
theorem dX2_take_38 : decode cX2_take 38 = .ok (.aload_n 1, 1) := by decide +kernel
theorem dX2_take_39 : decode cX2_take 39 = .ok (.getfield 42, 3) := by decide +kernel
theorem dX2_take_42 : decode cX2_take 42 = .ok (.iconst 1, 1) := by decide +kernel
theorem dX2_take_43 : decode cX2_take 43 = .ok (.iaload, 1) := by decide +kernel
theorem dX2_take_44 : decode cX2_take 44 = .ok (.iadd, 1) := by decide +kernel
theorem dX2_take_45 : decode cX2_take 45 = .ok (.istore_n 3, 1) := by decide +kernel
theorem dX2_take_46 : decode cX2_take 46 = .ok (.iload_n 3, 1) := by decide +kernel
theorem dX2_take_47 : decode cX2_take 47 = .ok (.bipush 10, 2) := by decide +kernel
theorem dX2_take_49 : decode cX2_take 49 = .ok (.imul, 1) := by decide +kernel
theorem dX2_take_50 : decode cX2_take 50 = .ok (.aload_n 1, 1) := by decide +kernel
theorem dX2_take_51 : decode cX2_take 51 = .ok (.getfield 42, 3) := by decide +kernel
theorem dX2_take_54 : decode cX2_take 54 = .ok (.iconst 0, 1) := by decide +kernel
theorem dX2_take_55 : decode cX2_take 55 = .ok (.iaload, 1) := by decide +kernel
theorem dX2_take_56 : decode cX2_take 56 = .ok (.iadd, 1) := by decide +kernel
theorem dX2_take_57 : decode cX2_take 57 = .ok (.istore_n 3, 1) := by decide +kernel
theorem dX2_take_58 : decode cX2_take 58 = .ok (.aload_n 0, 1) := by decide +kernel
theorem dX2_take_59 : decode cX2_take 59 = .ok (.getfield 15, 3) := by decide +kernel
theorem dX2_take_62 : decode cX2_take 62 = .ok (.iload_n 2, 1) := by decide +kernel
theorem dX2_take_63 : decode cX2_take 63 = .ok (.iaload, 1) := by decide +kernel
theorem dX2_take_64 : decode cX2_take 64 = .ok (.iload_n 3, 1) := by decide +kernel
theorem dX2_take_65 : decode cX2_take 65 = .ok (.if_icmp .ne 4, 3) := by decide +kernel
theorem dX2_take_68 : decode cX2_take 68 = .ok (.return_, 1) := by decide +kernel
theorem dX2_take_69 : decode cX2_take 69 = .ok (.aload_n 0, 1) := by decide +kernel
theorem dX2_take_70 : decode cX2_take 70 = .ok (.getfield 15, 3) := by decide +kernel
theorem dX2_take_73 : decode cX2_take 73 = .ok (.iload_n 2, 1) := by decide +kernel
theorem dX2_take_74 : decode cX2_take 74 = .ok (.iload_n 3, 1) := by decide +kernel
theorem dX2_take_75 : decode cX2_take 75 = .ok (.iastore, 1) := by decide +kernel
theorem dX2_take_76 : decode cX2_take 76 = .ok (.iconst 1, 1) := by decide +kernel
theorem dX2_take_77 : decode cX2_take 77 = .ok (.istore 4, 2) := by decide +kernel
theorem dX2_take_79 : decode cX2_take 79 = .ok (.iload 4, 2) := by decide +kernel
theorem dX2_take_81 : decode cX2_take 81 = .ok (.bipush 40, 2) := by decide +kernel
theorem dX2_take_83 : decode cX2_take 83 = .ok (.if_icmp .gt 17, 3) := by decide +kernel
theorem dX2_take_86 : decode cX2_take 86 = .ok (.aload_n 0, 1) := by decide +kernel
theorem dX2_take_87 : decode cX2_take 87 = .ok (.aload_n 1, 1) := by decide +kernel
theorem dX2_take_88 : decode cX2_take 88 = .ok (.iload_n 2, 1) := by decide +kernel
theorem dX2_take_89 : decode cX2_take 89 = .ok (.iload 4, 2) := by decide +kernel
theorem dX2_take_91 : decode cX2_take 91 = .ok (.invokevirtual 45, 3) := by decide +kernel
theorem dX2_take_94 : decode cX2_take 94 = .ok (.iinc 4 1, 3) := by decide +kernel
theorem dX2_take_97 : decode cX2_take 97 = .ok (.goto (-18), 3) := by decide +kernel
theorem dX2_take_100 : decode cX2_take 100 = .ok (.return_, 1) := by decide +kernel
set_option maxRecDepth 20000 in
theorem ggX2_layFrom_X1_lay : GoodIn wsX2_layFrom wsX1_lay := goodIn_r _ [10, 11, 12, 13, 14, 15, 16, 17, 18, 19, 9, 20, 21, 22, 23, 24, 25, 26, 45, 46, 47, 48, 49, 50, 51] (by decide +kernel) (by decide +kernel)
set_option maxRecDepth 20000 in
theorem gX2_layFrom_X1_lay : GoodIn wsX2_layFrom (wsV RX2 49 RX1 yX1_lay wsX1_lay) := goodIn_app (goodIn_of _ (by decide +kernel)) ggX2_layFrom_X1_lay
set_option maxRecDepth 20000 in
theorem ggX2_layFrom_X1_tell : GoodIn wsX2_layFrom wsX1_tell := goodIn_r _ [30, 17, 31, 32, 14, 33, 16, 34, 35, 9, 36, 37, 38, 39, 50, 51] (by decide +kernel) (by decide +kernel)
set_option maxRecDepth 20000 in
theorem gX2_layFrom_X1_tell : GoodIn wsX2_layFrom (wsV RX2 52 RX1 yX1_tell wsX1_tell) := goodIn_app (goodIn_of _ (by decide +kernel)) ggX2_layFrom_X1_tell
theorem dX2_layFrom_0 : decode cX2_layFrom 0 = .ok (.aload_n 0, 1) := by decide +kernel
theorem dX2_layFrom_1 : decode cX2_layFrom 1 = .ok (.getfield 26, 3) := by decide +kernel
theorem dX2_layFrom_4 : decode cX2_layFrom 4 = .ok (.iload_n 3, 1) := by decide +kernel
theorem dX2_layFrom_5 : decode cX2_layFrom 5 = .ok (.bipush 9, 2) := by decide +kernel
theorem dX2_layFrom_7 : decode cX2_layFrom 7 = .ok (.imul, 1) := by decide +kernel
theorem dX2_layFrom_8 : decode cX2_layFrom 8 = .ok (.iadd, 1) := by decide +kernel
theorem dX2_layFrom_9 : decode cX2_layFrom 9 = .ok (.istore 4, 2) := by decide +kernel
theorem dX2_layFrom_11 : decode cX2_layFrom 11 = .ok (.iconst 0, 1) := by decide +kernel
theorem dX2_layFrom_12 : decode cX2_layFrom 12 = .ok (.istore 5, 2) := by decide +kernel
theorem dX2_layFrom_14 : decode cX2_layFrom 14 = .ok (.iload 5, 2) := by decide +kernel
theorem dX2_layFrom_16 : decode cX2_layFrom 16 = .ok (.bipush 9, 2) := by decide +kernel
theorem dX2_layFrom_18 : decode cX2_layFrom 18 = .ok (.if_icmp .ge 20, 3) := by decide +kernel
theorem dX2_layFrom_21 : decode cX2_layFrom 21 = .ok (.aload_n 0, 1) := by decide +kernel
theorem dX2_layFrom_22 : decode cX2_layFrom 22 = .ok (.getfield 11, 3) := by decide +kernel
theorem dX2_layFrom_25 : decode cX2_layFrom 25 = .ok (.iload 4, 2) := by decide +kernel
theorem dX2_layFrom_27 : decode cX2_layFrom 27 = .ok (.iload 5, 2) := by decide +kernel
theorem dX2_layFrom_29 : decode cX2_layFrom 29 = .ok (.iadd, 1) := by decide +kernel
theorem dX2_layFrom_30 : decode cX2_layFrom 30 = .ok (.lconst 0, 1) := by decide +kernel
theorem dX2_layFrom_31 : decode cX2_layFrom 31 = .ok (.lastore, 1) := by decide +kernel
theorem dX2_layFrom_32 : decode cX2_layFrom 32 = .ok (.iinc 5 1, 3) := by decide +kernel
theorem dX2_layFrom_35 : decode cX2_layFrom 35 = .ok (.goto (-21), 3) := by decide +kernel
theorem dX2_layFrom_38 : decode cX2_layFrom 38 = .ok (.aload_n 0, 1) := by decide +kernel
theorem dX2_layFrom_39 : decode cX2_layFrom 39 = .ok (.getfield 22, 3) := by decide +kernel
theorem dX2_layFrom_42 : decode cX2_layFrom 42 = .ok (.aload_n 1, 1) := by decide +kernel
theorem dX2_layFrom_43 : decode cX2_layFrom 43 = .ok (.iload_n 2, 1) := by decide +kernel
theorem dX2_layFrom_44 : decode cX2_layFrom 44 = .ok (.iload_n 3, 1) := by decide +kernel
theorem dX2_layFrom_45 : decode cX2_layFrom 45 = .ok (.invokevirtual 49, 3) := by decide +kernel
theorem dX2_layFrom_48 : decode cX2_layFrom 48 = .ok (.iconst 1, 1) := by decide +kernel
theorem dX2_layFrom_49 : decode cX2_layFrom 49 = .ok (.istore 5, 2) := by decide +kernel
theorem dX2_layFrom_51 : decode cX2_layFrom 51 = .ok (.iload 5, 2) := by decide +kernel
theorem dX2_layFrom_53 : decode cX2_layFrom 53 = .ok (.bipush 40, 2) := by decide +kernel
theorem dX2_layFrom_55 : decode cX2_layFrom 55 = .ok (.if_icmp .gt 59, 3) := by decide +kernel
theorem dX2_layFrom_58 : decode cX2_layFrom 58 = .ok (.aload_n 0, 1) := by decide +kernel
theorem dX2_layFrom_59 : decode cX2_layFrom 59 = .ok (.getfield 22, 3) := by decide +kernel
theorem dX2_layFrom_62 : decode cX2_layFrom 62 = .ok (.aload_n 1, 1) := by decide +kernel
theorem dX2_layFrom_63 : decode cX2_layFrom 63 = .ok (.getfield 37, 3) := by decide +kernel
theorem dX2_layFrom_66 : decode cX2_layFrom 66 = .ok (.aload_n 1, 1) := by decide +kernel
theorem dX2_layFrom_67 : decode cX2_layFrom 67 = .ok (.getfield 42, 3) := by decide +kernel
theorem dX2_layFrom_70 : decode cX2_layFrom 70 = .ok (.iconst 2, 1) := by decide +kernel
theorem dX2_layFrom_71 : decode cX2_layFrom 71 = .ok (.iaload, 1) := by decide +kernel
theorem dX2_layFrom_72 : decode cX2_layFrom 72 = .ok (.iload 5, 2) := by decide +kernel
theorem dX2_layFrom_74 : decode cX2_layFrom 74 = .ok (.invokevirtual 52, 3) := by decide +kernel
theorem dX2_layFrom_77 : decode cX2_layFrom 77 = .ok (.istore 6, 2) := by decide +kernel
theorem dX2_layFrom_79 : decode cX2_layFrom 79 = .ok (.iload 6, 2) := by decide +kernel
theorem dX2_layFrom_81 : decode cX2_layFrom 81 = .ok (.ifCond .lt 27, 3) := by decide +kernel
theorem dX2_layFrom_84 : decode cX2_layFrom 84 = .ok (.iload 6, 2) := by decide +kernel
theorem dX2_layFrom_86 : decode cX2_layFrom 86 = .ok (.bipush 9, 2) := by decide +kernel
theorem dX2_layFrom_88 : decode cX2_layFrom 88 = .ok (.if_icmp .ge 20, 3) := by decide +kernel
theorem dX2_layFrom_91 : decode cX2_layFrom 91 = .ok (.aload_n 0, 1) := by decide +kernel
theorem dX2_layFrom_92 : decode cX2_layFrom 92 = .ok (.getfield 11, 3) := by decide +kernel
theorem dX2_layFrom_95 : decode cX2_layFrom 95 = .ok (.iload 4, 2) := by decide +kernel
theorem dX2_layFrom_97 : decode cX2_layFrom 97 = .ok (.iload 6, 2) := by decide +kernel
theorem dX2_layFrom_99 : decode cX2_layFrom 99 = .ok (.iadd, 1) := by decide +kernel
theorem dX2_layFrom_100 : decode cX2_layFrom 100 = .ok (.dup2, 1) := by decide +kernel
theorem dX2_layFrom_101 : decode cX2_layFrom 101 = .ok (.laload, 1) := by decide +kernel
theorem dX2_layFrom_102 : decode cX2_layFrom 102 = .ok (.lconst 1, 1) := by decide +kernel
theorem dX2_layFrom_103 : decode cX2_layFrom 103 = .ok (.iload 5, 2) := by decide +kernel
theorem dX2_layFrom_105 : decode cX2_layFrom 105 = .ok (.lshl, 1) := by decide +kernel
theorem dX2_layFrom_106 : decode cX2_layFrom 106 = .ok (.lor, 1) := by decide +kernel
theorem dX2_layFrom_107 : decode cX2_layFrom 107 = .ok (.lastore, 1) := by decide +kernel
theorem dX2_layFrom_108 : decode cX2_layFrom 108 = .ok (.iinc 5 1, 3) := by decide +kernel
theorem dX2_layFrom_111 : decode cX2_layFrom 111 = .ok (.goto (-60), 3) := by decide +kernel
theorem dX2_layFrom_114 : decode cX2_layFrom 114 = .ok (.return_, 1) := by decide +kernel
set_option maxRecDepth 20000 in
theorem ggX2_toldOf_X4_isSecond : GoodIn wsX2_toldOf wsX4_isSecond := goodIn_r _ [5] (by decide +kernel) (by decide +kernel)
set_option maxRecDepth 20000 in
theorem gX2_toldOf_X4_isSecond_n56 : GoodIn wsX2_toldOf (wsX4_isSecond) := ggX2_toldOf_X4_isSecond
theorem dX2_toldOf_0 : decode cX2_toldOf 0 = .ok (.iload_n 1, 1) := by decide +kernel
theorem dX2_toldOf_1 : decode cX2_toldOf 1 = .ok (.invokestatic 56, 3) := by decide +kernel
theorem dX2_toldOf_4 : decode cX2_toldOf 4 = .ok (.ifCond .eq 32, 3) := by decide +kernel
theorem dX2_toldOf_7 : decode cX2_toldOf 7 = .ok (.iload_n 2, 1) := by decide +kernel
theorem dX2_toldOf_8 : decode cX2_toldOf 8 = .ok (.ifCond .lt 28, 3) := by decide +kernel
theorem dX2_toldOf_11 : decode cX2_toldOf 11 = .ok (.iload_n 2, 1) := by decide +kernel
theorem dX2_toldOf_12 : decode cX2_toldOf 12 = .ok (.bipush 9, 2) := by decide +kernel
theorem dX2_toldOf_14 : decode cX2_toldOf 14 = .ok (.if_icmp .ge 22, 3) := by decide +kernel
theorem dX2_toldOf_17 : decode cX2_toldOf 17 = .ok (.aload_n 0, 1) := by decide +kernel
theorem dX2_toldOf_18 : decode cX2_toldOf 18 = .ok (.getfield 11, 3) := by decide +kernel
theorem dX2_toldOf_21 : decode cX2_toldOf 21 = .ok (.aload_n 0, 1) := by decide +kernel
theorem dX2_toldOf_22 : decode cX2_toldOf 22 = .ok (.getfield 26, 3) := by decide +kernel
theorem dX2_toldOf_25 : decode cX2_toldOf 25 = .ok (.iload_n 1, 1) := by decide +kernel
theorem dX2_toldOf_26 : decode cX2_toldOf 26 = .ok (.bipush 9, 2) := by decide +kernel
theorem dX2_toldOf_28 : decode cX2_toldOf 28 = .ok (.imul, 1) := by decide +kernel
theorem dX2_toldOf_29 : decode cX2_toldOf 29 = .ok (.iadd, 1) := by decide +kernel
theorem dX2_toldOf_30 : decode cX2_toldOf 30 = .ok (.iload_n 2, 1) := by decide +kernel
theorem dX2_toldOf_31 : decode cX2_toldOf 31 = .ok (.iadd, 1) := by decide +kernel
theorem dX2_toldOf_32 : decode cX2_toldOf 32 = .ok (.laload, 1) := by decide +kernel
theorem dX2_toldOf_33 : decode cX2_toldOf 33 = .ok (.goto 4, 3) := by decide +kernel
theorem dX2_toldOf_36 : decode cX2_toldOf 36 = .ok (.lconst 0, 1) := by decide +kernel
theorem dX2_toldOf_37 : decode cX2_toldOf 37 = .ok (.lreturn, 1) := by decide +kernel
set_option maxRecDepth 20000 in
theorem ggX2_partsOf_X2_toldOf : GoodIn wsX2_partsOf wsX2_toldOf := goodIn_r _ [5, 6, 7, 8, 9, 10, 11, 12, 13, 14, 15] (by decide +kernel) (by decide +kernel)
set_option maxRecDepth 20000 in
theorem gX2_partsOf_X2_toldOf : GoodIn wsX2_partsOf (wsV RX2 59 RX2 yX2_toldOf wsX2_toldOf) := goodIn_app (goodIn_of _ (by decide +kernel)) ggX2_partsOf_X2_toldOf
theorem dX2_partsOf_0 : decode cX2_partsOf 0 = .ok (.iconst 0, 1) := by decide +kernel
theorem dX2_partsOf_1 : decode cX2_partsOf 1 = .ok (.istore 4, 2) := by decide +kernel
theorem dX2_partsOf_3 : decode cX2_partsOf 3 = .ok (.iconst 0, 1) := by decide +kernel
theorem dX2_partsOf_4 : decode cX2_partsOf 4 = .ok (.istore 5, 2) := by decide +kernel
theorem dX2_partsOf_6 : decode cX2_partsOf 6 = .ok (.iload 5, 2) := by decide +kernel
theorem dX2_partsOf_8 : decode cX2_partsOf 8 = .ok (.bipush 9, 2) := by decide +kernel
theorem dX2_partsOf_10 : decode cX2_partsOf 10 = .ok (.if_icmp .ge 26, 3) := by decide +kernel
theorem dX2_partsOf_13 : decode cX2_partsOf 13 = .ok (.aload_n 0, 1) := by decide +kernel
theorem dX2_partsOf_14 : decode cX2_partsOf 14 = .ok (.iload_n 1, 1) := by decide +kernel
theorem dX2_partsOf_15 : decode cX2_partsOf 15 = .ok (.iload 5, 2) := by decide +kernel
theorem dX2_partsOf_17 : decode cX2_partsOf 17 = .ok (.invokevirtual 59, 3) := by decide +kernel
theorem dX2_partsOf_20 : decode cX2_partsOf 20 = .ok (.lload_n 2, 1) := by decide +kernel
theorem dX2_partsOf_21 : decode cX2_partsOf 21 = .ok (.land, 1) := by decide +kernel
theorem dX2_partsOf_22 : decode cX2_partsOf 22 = .ok (.lconst 0, 1) := by decide +kernel
theorem dX2_partsOf_23 : decode cX2_partsOf 23 = .ok (.lcmp, 1) := by decide +kernel
theorem dX2_partsOf_24 : decode cX2_partsOf 24 = .ok (.ifCond .eq 6, 3) := by decide +kernel
theorem dX2_partsOf_27 : decode cX2_partsOf 27 = .ok (.iinc 4 1, 3) := by decide +kernel
theorem dX2_partsOf_30 : decode cX2_partsOf 30 = .ok (.iinc 5 1, 3) := by decide +kernel
theorem dX2_partsOf_33 : decode cX2_partsOf 33 = .ok (.goto (-27), 3) := by decide +kernel
theorem dX2_partsOf_36 : decode cX2_partsOf 36 = .ok (.iload 4, 2) := by decide +kernel
theorem dX2_partsOf_38 : decode cX2_partsOf 38 = .ok (.ireturn, 1) := by decide +kernel
set_option maxRecDepth 20000 in
theorem ggX2_worstOf_X2_toldOf : GoodIn wsX2_worstOf wsX2_toldOf := goodIn_r _ [9, 10, 11, 12, 13, 14, 24, 25, 26, 27, 28] (by decide +kernel) (by decide +kernel)
set_option maxRecDepth 20000 in
theorem gX2_worstOf_X2_toldOf : GoodIn wsX2_worstOf (wsV RX2 59 RX2 yX2_toldOf wsX2_toldOf) := goodIn_app (goodIn_of _ (by decide +kernel)) ggX2_worstOf_X2_toldOf
set_option maxRecDepth 20000 in
theorem ggX2_worstOf_X4_size : GoodIn wsX2_worstOf wsX4_size := goodIn_r _ [16, 17, 18, 19, 20, 21, 22, 23] (by decide +kernel) (by decide +kernel)
set_option maxRecDepth 20000 in
theorem gX2_worstOf_X4_size_n63 : GoodIn wsX2_worstOf (wsX4_size) := ggX2_worstOf_X4_size
theorem dX2_worstOf_0 : decode cX2_worstOf 0 = .ok (.iconst 0, 1) := by decide +kernel
theorem dX2_worstOf_1 : decode cX2_worstOf 1 = .ok (.istore 4, 2) := by decide +kernel
theorem dX2_worstOf_3 : decode cX2_worstOf 3 = .ok (.iconst 0, 1) := by decide +kernel
theorem dX2_worstOf_4 : decode cX2_worstOf 4 = .ok (.istore 5, 2) := by decide +kernel
theorem dX2_worstOf_6 : decode cX2_worstOf 6 = .ok (.iload 5, 2) := by decide +kernel
theorem dX2_worstOf_8 : decode cX2_worstOf 8 = .ok (.bipush 9, 2) := by decide +kernel
theorem dX2_worstOf_10 : decode cX2_worstOf 10 = .ok (.if_icmp .ge 39, 3) := by decide +kernel
theorem dX2_worstOf_13 : decode cX2_worstOf 13 = .ok (.aload_n 0, 1) := by decide +kernel
theorem dX2_worstOf_14 : decode cX2_worstOf 14 = .ok (.iload_n 1, 1) := by decide +kernel
theorem dX2_worstOf_15 : decode cX2_worstOf 15 = .ok (.iload 5, 2) := by decide +kernel
theorem dX2_worstOf_17 : decode cX2_worstOf 17 = .ok (.invokevirtual 59, 3) := by decide +kernel
theorem dX2_worstOf_20 : decode cX2_worstOf 20 = .ok (.lload_n 2, 1) := by decide +kernel
theorem dX2_worstOf_21 : decode cX2_worstOf 21 = .ok (.land, 1) := by decide +kernel
theorem dX2_worstOf_22 : decode cX2_worstOf 22 = .ok (.lstore 6, 2) := by decide +kernel
theorem dX2_worstOf_24 : decode cX2_worstOf 24 = .ok (.lload 6, 2) := by decide +kernel
theorem dX2_worstOf_26 : decode cX2_worstOf 26 = .ok (.lconst 0, 1) := by decide +kernel
theorem dX2_worstOf_27 : decode cX2_worstOf 27 = .ok (.lcmp, 1) := by decide +kernel
theorem dX2_worstOf_28 : decode cX2_worstOf 28 = .ok (.ifCond .eq 15, 3) := by decide +kernel
theorem dX2_worstOf_31 : decode cX2_worstOf 31 = .ok (.iload 4, 2) := by decide +kernel
theorem dX2_worstOf_33 : decode cX2_worstOf 33 = .ok (.lload 6, 2) := by decide +kernel
theorem dX2_worstOf_35 : decode cX2_worstOf 35 = .ok (.invokestatic 63, 3) := by decide +kernel
theorem dX2_worstOf_38 : decode cX2_worstOf 38 = .ok (.invokestatic 67, 3) := by decide +kernel
theorem dX2_worstOf_41 : decode cX2_worstOf 41 = .ok (.istore 4, 2) := by decide +kernel
theorem dX2_worstOf_43 : decode cX2_worstOf 43 = .ok (.iinc 5 1, 3) := by decide +kernel
theorem dX2_worstOf_46 : decode cX2_worstOf 46 = .ok (.goto (-40), 3) := by decide +kernel
theorem dX2_worstOf_49 : decode cX2_worstOf 49 = .ok (.iload 4, 2) := by decide +kernel
theorem dX2_worstOf_51 : decode cX2_worstOf 51 = .ok (.ireturn, 1) := by decide +kernel
set_option maxRecDepth 20000 in
theorem ggX2_meanOf_X2_toldOf : GoodIn wsX2_meanOf wsX2_toldOf := goodIn_r _ [5, 6, 7, 8, 9, 10, 28, 29, 30, 31, 32] (by decide +kernel) (by decide +kernel)
set_option maxRecDepth 20000 in
theorem gX2_meanOf_X2_toldOf : GoodIn wsX2_meanOf (wsV RX2 59 RX2 yX2_toldOf wsX2_toldOf) := goodIn_app (goodIn_of _ (by decide +kernel)) ggX2_meanOf_X2_toldOf
set_option maxRecDepth 20000 in
theorem ggX2_meanOf_X0_weightOf : GoodIn wsX2_meanOf wsX0_weightOf := goodIn_r _ [15, 16, 17, 9, 18, 33, 34, 35, 36, 37] (by decide +kernel) (by decide +kernel)
set_option maxRecDepth 20000 in
theorem gX2_meanOf_X0_weightOf : GoodIn wsX2_meanOf (wsV RX2 73 RX0 yX0_weightOf wsX0_weightOf) := goodIn_app (goodIn_of _ (by decide +kernel)) ggX2_meanOf_X0_weightOf
set_option maxRecDepth 20000 in
theorem ggX2_meanOf_X4_size : GoodIn wsX2_meanOf wsX4_size := goodIn_r _ [20, 21, 22, 23, 24, 25, 26, 27] (by decide +kernel) (by decide +kernel)
set_option maxRecDepth 20000 in
theorem gX2_meanOf_X4_size_n63 : GoodIn wsX2_meanOf (wsX4_size) := ggX2_meanOf_X4_size
theorem dX2_meanOf_0 : decode cX2_meanOf 0 = .ok (.lconst 0, 1) := by decide +kernel
theorem dX2_meanOf_1 : decode cX2_meanOf 1 = .ok (.lstore 5, 2) := by decide +kernel
theorem dX2_meanOf_3 : decode cX2_meanOf 3 = .ok (.iconst 0, 1) := by decide +kernel
theorem dX2_meanOf_4 : decode cX2_meanOf 4 = .ok (.istore 7, 2) := by decide +kernel
theorem dX2_meanOf_6 : decode cX2_meanOf 6 = .ok (.iload 7, 2) := by decide +kernel
theorem dX2_meanOf_8 : decode cX2_meanOf 8 = .ok (.bipush 9, 2) := by decide +kernel
theorem dX2_meanOf_10 : decode cX2_meanOf 10 = .ok (.if_icmp .ge 46, 3) := by decide +kernel
theorem dX2_meanOf_13 : decode cX2_meanOf 13 = .ok (.aload_n 0, 1) := by decide +kernel
theorem dX2_meanOf_14 : decode cX2_meanOf 14 = .ok (.iload_n 1, 1) := by decide +kernel
theorem dX2_meanOf_15 : decode cX2_meanOf 15 = .ok (.iload 7, 2) := by decide +kernel
theorem dX2_meanOf_17 : decode cX2_meanOf 17 = .ok (.invokevirtual 59, 3) := by decide +kernel
theorem dX2_meanOf_20 : decode cX2_meanOf 20 = .ok (.lload_n 3, 1) := by decide +kernel
theorem dX2_meanOf_21 : decode cX2_meanOf 21 = .ok (.land, 1) := by decide +kernel
theorem dX2_meanOf_22 : decode cX2_meanOf 22 = .ok (.lstore 8, 2) := by decide +kernel
theorem dX2_meanOf_24 : decode cX2_meanOf 24 = .ok (.lload 8, 2) := by decide +kernel
theorem dX2_meanOf_26 : decode cX2_meanOf 26 = .ok (.lconst 0, 1) := by decide +kernel
theorem dX2_meanOf_27 : decode cX2_meanOf 27 = .ok (.lcmp, 1) := by decide +kernel
theorem dX2_meanOf_28 : decode cX2_meanOf 28 = .ok (.ifCond .eq 22, 3) := by decide +kernel
theorem dX2_meanOf_31 : decode cX2_meanOf 31 = .ok (.lload 5, 2) := by decide +kernel
theorem dX2_meanOf_33 : decode cX2_meanOf 33 = .ok (.aload_n 2, 1) := by decide +kernel
theorem dX2_meanOf_34 : decode cX2_meanOf 34 = .ok (.lload 8, 2) := by decide +kernel
theorem dX2_meanOf_36 : decode cX2_meanOf 36 = .ok (.invokevirtual 73, 3) := by decide +kernel
theorem dX2_meanOf_39 : decode cX2_meanOf 39 = .ok (.i2l, 1) := by decide +kernel
theorem dX2_meanOf_40 : decode cX2_meanOf 40 = .ok (.lload 8, 2) := by decide +kernel
theorem dX2_meanOf_42 : decode cX2_meanOf 42 = .ok (.invokestatic 63, 3) := by decide +kernel
theorem dX2_meanOf_45 : decode cX2_meanOf 45 = .ok (.i2l, 1) := by decide +kernel
theorem dX2_meanOf_46 : decode cX2_meanOf 46 = .ok (.lmul, 1) := by decide +kernel
theorem dX2_meanOf_47 : decode cX2_meanOf 47 = .ok (.ladd, 1) := by decide +kernel
theorem dX2_meanOf_48 : decode cX2_meanOf 48 = .ok (.lstore 5, 2) := by decide +kernel
theorem dX2_meanOf_50 : decode cX2_meanOf 50 = .ok (.iinc 7 1, 3) := by decide +kernel
theorem dX2_meanOf_53 : decode cX2_meanOf 53 = .ok (.goto (-47), 3) := by decide +kernel
theorem dX2_meanOf_56 : decode cX2_meanOf 56 = .ok (.lload 5, 2) := by decide +kernel
theorem dX2_meanOf_58 : decode cX2_meanOf 58 = .ok (.lreturn, 1) := by decide +kernel
set_option maxRecDepth 20000 in
theorem ggX2_bestBy_X2_measured : GoodIn wsX2_bestBy wsX2_measured := goodIn_r _ [5, 6, 7, 8, 4, 9, 10, 11, 12, 13, 14, 15, 16, 17, 18, 19, 20, 21, 22, 23, 24, 25, 26, 27, 28, 29, 30, 31, 32, 33, 34, 35, 36, 37, 38, 39, 40, 41, 42, 43, 44, 45, 46, 47, 48, 49, 50, 51, 52, 53, 54, 55, 56, 57] (by decide +kernel) (by decide +kernel)
set_option maxRecDepth 20000 in
theorem gX2_bestBy_X2_measured : GoodIn wsX2_bestBy (wsV RX2 76 RX2 yX2_measured wsX2_measured) := goodIn_app (goodIn_of _ (by decide +kernel)) ggX2_bestBy_X2_measured
theorem dX2_bestBy_0 : decode cX2_bestBy 0 = .ok (.iconst 1, 1) := by decide +kernel
theorem dX2_bestBy_1 : decode cX2_bestBy 1 = .ok (.istore 5, 2) := by decide +kernel
theorem dX2_bestBy_3 : decode cX2_bestBy 3 = .ok (.aload_n 0, 1) := by decide +kernel
theorem dX2_bestBy_4 : decode cX2_bestBy 4 = .ok (.iload_n 1, 1) := by decide +kernel
theorem dX2_bestBy_5 : decode cX2_bestBy 5 = .ok (.iconst 1, 1) := by decide +kernel
theorem dX2_bestBy_6 : decode cX2_bestBy 6 = .ok (.aload_n 2, 1) := by decide +kernel
theorem dX2_bestBy_7 : decode cX2_bestBy 7 = .ok (.lload_n 3, 1) := by decide +kernel
theorem dX2_bestBy_8 : decode cX2_bestBy 8 = .ok (.invokevirtual 76, 3) := by decide +kernel
theorem dX2_bestBy_11 : decode cX2_bestBy 11 = .ok (.lstore 6, 2) := by decide +kernel
theorem dX2_bestBy_13 : decode cX2_bestBy 13 = .ok (.iconst 2, 1) := by decide +kernel
theorem dX2_bestBy_14 : decode cX2_bestBy 14 = .ok (.istore 8, 2) := by decide +kernel
theorem dX2_bestBy_16 : decode cX2_bestBy 16 = .ok (.iload 8, 2) := by decide +kernel
theorem dX2_bestBy_18 : decode cX2_bestBy 18 = .ok (.bipush 40, 2) := by decide +kernel
theorem dX2_bestBy_20 : decode cX2_bestBy 20 = .ok (.if_icmp .gt 36, 3) := by decide +kernel
theorem dX2_bestBy_23 : decode cX2_bestBy 23 = .ok (.aload_n 0, 1) := by decide +kernel
theorem dX2_bestBy_24 : decode cX2_bestBy 24 = .ok (.iload_n 1, 1) := by decide +kernel
theorem dX2_bestBy_25 : decode cX2_bestBy 25 = .ok (.iload 8, 2) := by decide +kernel
theorem dX2_bestBy_27 : decode cX2_bestBy 27 = .ok (.aload_n 2, 1) := by decide +kernel
theorem dX2_bestBy_28 : decode cX2_bestBy 28 = .ok (.lload_n 3, 1) := by decide +kernel
theorem dX2_bestBy_29 : decode cX2_bestBy 29 = .ok (.invokevirtual 76, 3) := by decide +kernel
theorem dX2_bestBy_32 : decode cX2_bestBy 32 = .ok (.lstore 9, 2) := by decide +kernel
theorem dX2_bestBy_34 : decode cX2_bestBy 34 = .ok (.lload 9, 2) := by decide +kernel
theorem dX2_bestBy_36 : decode cX2_bestBy 36 = .ok (.lload 6, 2) := by decide +kernel
theorem dX2_bestBy_38 : decode cX2_bestBy 38 = .ok (.lcmp, 1) := by decide +kernel
theorem dX2_bestBy_39 : decode cX2_bestBy 39 = .ok (.ifCond .ge 11, 3) := by decide +kernel
theorem dX2_bestBy_42 : decode cX2_bestBy 42 = .ok (.lload 9, 2) := by decide +kernel
theorem dX2_bestBy_44 : decode cX2_bestBy 44 = .ok (.lstore 6, 2) := by decide +kernel
theorem dX2_bestBy_46 : decode cX2_bestBy 46 = .ok (.iload 8, 2) := by decide +kernel
theorem dX2_bestBy_48 : decode cX2_bestBy 48 = .ok (.istore 5, 2) := by decide +kernel
theorem dX2_bestBy_50 : decode cX2_bestBy 50 = .ok (.iinc 8 1, 3) := by decide +kernel
theorem dX2_bestBy_53 : decode cX2_bestBy 53 = .ok (.goto (-37), 3) := by decide +kernel
theorem dX2_bestBy_56 : decode cX2_bestBy 56 = .ok (.iload 5, 2) := by decide +kernel
theorem dX2_bestBy_58 : decode cX2_bestBy 58 = .ok (.ireturn, 1) := by decide +kernel
set_option maxRecDepth 20000 in
theorem ggX2_measured_X2_meanOf : GoodIn wsX2_measured wsX2_meanOf := goodIn_r _ [5, 6, 7, 8, 4, 9, 10, 11, 12, 13, 14, 15, 16, 17, 18, 19, 20, 21, 22, 23, 24, 25, 26, 27, 28, 29, 30, 31, 44, 45, 46, 47, 48, 49, 50, 51, 52, 53] (by decide +kernel) (by decide +kernel)
set_option maxRecDepth 20000 in
theorem gX2_measured_X2_meanOf : GoodIn wsX2_measured (wsV RX2 80 RX2 yX2_meanOf wsX2_meanOf) := goodIn_app (goodIn_of _ (by decide +kernel)) ggX2_measured_X2_meanOf
set_option maxRecDepth 20000 in
theorem ggX2_measured_X2_partsOf : GoodIn wsX2_measured wsX2_partsOf := goodIn_r _ [35, 6, 7, 8, 4, 9, 10, 11, 12, 13, 14, 44, 45, 46, 47, 48] (by decide +kernel) (by decide +kernel)
set_option maxRecDepth 20000 in
theorem gX2_measured_X2_partsOf : GoodIn wsX2_measured (wsV RX2 84 RX2 yX2_partsOf wsX2_partsOf) := goodIn_app (goodIn_of _ (by decide +kernel)) ggX2_measured_X2_partsOf
set_option maxRecDepth 20000 in
theorem ggX2_measured_X2_worstOf : GoodIn wsX2_measured wsX2_worstOf := goodIn_r _ [39, 40, 41, 42, 43, 6, 7, 8, 4, 9, 10, 11, 12, 13, 14, 23, 24, 25, 26, 27, 28, 29, 30, 31, 44, 45, 46, 47, 48] (by decide +kernel) (by decide +kernel)
set_option maxRecDepth 20000 in
theorem gX2_measured_X2_worstOf : GoodIn wsX2_measured (wsV RX2 88 RX2 yX2_worstOf wsX2_worstOf) := goodIn_app (goodIn_of _ (by decide +kernel)) ggX2_measured_X2_worstOf
theorem dX2_measured_0 : decode cX2_measured 0 = .ok (.iload_n 1, 1) := by decide +kernel
theorem dX2_measured_1 : decode cX2_measured 1 = .ok (.lookupswitch 46 #[(1, 27), (2, 36)], 27) := by decide +kernel
theorem dX2_measured_28 : decode cX2_measured 28 = .ok (.aload_n 0, 1) := by decide +kernel
theorem dX2_measured_29 : decode cX2_measured 29 = .ok (.iload_n 2, 1) := by decide +kernel
theorem dX2_measured_30 : decode cX2_measured 30 = .ok (.aload_n 3, 1) := by decide +kernel
theorem dX2_measured_31 : decode cX2_measured 31 = .ok (.lload 4, 2) := by decide +kernel
theorem dX2_measured_33 : decode cX2_measured 33 = .ok (.invokevirtual 80, 3) := by decide +kernel
theorem dX2_measured_36 : decode cX2_measured 36 = .ok (.lreturn, 1) := by decide +kernel
theorem dX2_measured_37 : decode cX2_measured 37 = .ok (.aload_n 0, 1) := by decide +kernel
theorem dX2_measured_38 : decode cX2_measured 38 = .ok (.iload_n 2, 1) := by decide +kernel
theorem dX2_measured_39 : decode cX2_measured 39 = .ok (.lload 4, 2) := by decide +kernel
theorem dX2_measured_41 : decode cX2_measured 41 = .ok (.invokevirtual 84, 3) := by decide +kernel
theorem dX2_measured_44 : decode cX2_measured 44 = .ok (.ineg, 1) := by decide +kernel
theorem dX2_measured_45 : decode cX2_measured 45 = .ok (.i2l, 1) := by decide +kernel
theorem dX2_measured_46 : decode cX2_measured 46 = .ok (.lreturn, 1) := by decide +kernel
theorem dX2_measured_47 : decode cX2_measured 47 = .ok (.aload_n 0, 1) := by decide +kernel
theorem dX2_measured_48 : decode cX2_measured 48 = .ok (.iload_n 2, 1) := by decide +kernel
theorem dX2_measured_49 : decode cX2_measured 49 = .ok (.lload 4, 2) := by decide +kernel
theorem dX2_measured_51 : decode cX2_measured 51 = .ok (.invokevirtual 88, 3) := by decide +kernel
theorem dX2_measured_54 : decode cX2_measured 54 = .ok (.i2l, 1) := by decide +kernel
theorem dX2_measured_55 : decode cX2_measured 55 = .ok (.lreturn, 1) := by decide +kernel
set_option maxRecDepth 20000 in
theorem ggX2_faultsBehind_X2_toldOf : GoodIn wsX2_faultsBehind wsX2_toldOf := goodIn_r _ [5, 6, 7, 8, 9, 10, 32, 33, 34, 35, 36] (by decide +kernel) (by decide +kernel)
set_option maxRecDepth 20000 in
theorem gX2_faultsBehind_X2_toldOf : GoodIn wsX2_faultsBehind (wsV RX2 59 RX2 yX2_toldOf wsX2_toldOf) := goodIn_app (goodIn_of _ (by decide +kernel)) ggX2_faultsBehind_X2_toldOf
set_option maxRecDepth 20000 in
theorem ggX2_faultsBehind_X0_leastFaults : GoodIn wsX2_faultsBehind wsX0_leastFaults := goodIn_r _ [15, 16, 17, 18, 14, 19, 20, 21, 22, 23, 24, 25, 26, 27, 28, 29, 30, 9, 31, 37, 38, 39, 40, 41] (by decide +kernel) (by decide +kernel)
set_option maxRecDepth 20000 in
theorem gX2_faultsBehind_X0_leastFaults : GoodIn wsX2_faultsBehind (wsV RX2 91 RX0 yX0_leastFaults wsX0_leastFaults) := goodIn_app (goodIn_of _ (by decide +kernel)) ggX2_faultsBehind_X0_leastFaults
theorem dX2_faultsBehind_0 : decode cX2_faultsBehind 0 = .ok (.lconst 0, 1) := by decide +kernel
theorem dX2_faultsBehind_1 : decode cX2_faultsBehind 1 = .ok (.lstore 5, 2) := by decide +kernel
theorem dX2_faultsBehind_3 : decode cX2_faultsBehind 3 = .ok (.iconst 0, 1) := by decide +kernel
theorem dX2_faultsBehind_4 : decode cX2_faultsBehind 4 = .ok (.istore 7, 2) := by decide +kernel
theorem dX2_faultsBehind_6 : decode cX2_faultsBehind 6 = .ok (.iload 7, 2) := by decide +kernel
theorem dX2_faultsBehind_8 : decode cX2_faultsBehind 8 = .ok (.bipush 9, 2) := by decide +kernel
theorem dX2_faultsBehind_10 : decode cX2_faultsBehind 10 = .ok (.if_icmp .ge 38, 3) := by decide +kernel
theorem dX2_faultsBehind_13 : decode cX2_faultsBehind 13 = .ok (.aload_n 0, 1) := by decide +kernel
theorem dX2_faultsBehind_14 : decode cX2_faultsBehind 14 = .ok (.iload_n 1, 1) := by decide +kernel
theorem dX2_faultsBehind_15 : decode cX2_faultsBehind 15 = .ok (.iload 7, 2) := by decide +kernel
theorem dX2_faultsBehind_17 : decode cX2_faultsBehind 17 = .ok (.invokevirtual 59, 3) := by decide +kernel
theorem dX2_faultsBehind_20 : decode cX2_faultsBehind 20 = .ok (.lload_n 3, 1) := by decide +kernel
theorem dX2_faultsBehind_21 : decode cX2_faultsBehind 21 = .ok (.land, 1) := by decide +kernel
theorem dX2_faultsBehind_22 : decode cX2_faultsBehind 22 = .ok (.lstore 8, 2) := by decide +kernel
theorem dX2_faultsBehind_24 : decode cX2_faultsBehind 24 = .ok (.lload 8, 2) := by decide +kernel
theorem dX2_faultsBehind_26 : decode cX2_faultsBehind 26 = .ok (.lconst 0, 1) := by decide +kernel
theorem dX2_faultsBehind_27 : decode cX2_faultsBehind 27 = .ok (.lcmp, 1) := by decide +kernel
theorem dX2_faultsBehind_28 : decode cX2_faultsBehind 28 = .ok (.ifCond .eq 14, 3) := by decide +kernel
theorem dX2_faultsBehind_31 : decode cX2_faultsBehind 31 = .ok (.lload 5, 2) := by decide +kernel
theorem dX2_faultsBehind_33 : decode cX2_faultsBehind 33 = .ok (.aload_n 2, 1) := by decide +kernel
theorem dX2_faultsBehind_34 : decode cX2_faultsBehind 34 = .ok (.lload 8, 2) := by decide +kernel
theorem dX2_faultsBehind_36 : decode cX2_faultsBehind 36 = .ok (.invokevirtual 91, 3) := by decide +kernel
theorem dX2_faultsBehind_39 : decode cX2_faultsBehind 39 = .ok (.ladd, 1) := by decide +kernel
theorem dX2_faultsBehind_40 : decode cX2_faultsBehind 40 = .ok (.lstore 5, 2) := by decide +kernel
theorem dX2_faultsBehind_42 : decode cX2_faultsBehind 42 = .ok (.iinc 7 1, 3) := by decide +kernel
theorem dX2_faultsBehind_45 : decode cX2_faultsBehind 45 = .ok (.goto (-39), 3) := by decide +kernel
theorem dX2_faultsBehind_48 : decode cX2_faultsBehind 48 = .ok (.lload 5, 2) := by decide +kernel
theorem dX2_faultsBehind_50 : decode cX2_faultsBehind 50 = .ok (.lreturn, 1) := by decide +kernel
set_option maxRecDepth 20000 in
theorem ggX2_plan_X4_size : GoodIn wsX2_plan wsX4_size := goodIn_r _ [3, 4, 5, 6, 7, 8, 9, 10] (by decide +kernel) (by decide +kernel)
set_option maxRecDepth 20000 in
theorem gX2_plan_X4_size_n63 : GoodIn wsX2_plan (wsX4_size) := ggX2_plan_X4_size
set_option maxRecDepth 20000 in
theorem ggX2_plan_X2_noteEnough : GoodIn wsX2_plan wsX2_noteEnough := goodIn_r _ [15, 16, 17, 2, 18, 60, 61, 62, 63, 64] (by decide +kernel) (by decide +kernel)
set_option maxRecDepth 20000 in
theorem gX2_plan_X2_noteEnough : GoodIn wsX2_plan (wsV RX2 95 RX2 yX2_noteEnough wsX2_noteEnough) := goodIn_app (goodIn_of _ (by decide +kernel)) ggX2_plan_X2_noteEnough
set_option maxRecDepth 20000 in
theorem ggX2_plan_X2_bestBy : GoodIn wsX2_plan wsX2_bestBy := goodIn_r _ [22, 23, 24, 25, 14, 26, 27, 28, 29, 30, 31, 32, 33, 34, 35, 36, 37, 2, 38, 39, 40, 41, 42, 43, 44, 17, 18, 1, 3, 4, 5, 6, 7, 8, 9, 10, 45, 46, 47, 48, 49, 50, 51, 52, 53, 54, 55, 56, 60, 61, 62, 63, 64, 65, 66, 67, 68, 69] (by decide +kernel) (by decide +kernel)
set_option maxRecDepth 20000 in
theorem gX2_plan_X2_bestBy : GoodIn wsX2_plan (wsV RX2 99 RX2 yX2_bestBy wsX2_bestBy) := goodIn_app (goodIn_of _ (by decide +kernel)) ggX2_plan_X2_bestBy
set_option maxRecDepth 20000 in
theorem ggX2_plan_X2_worstOf : GoodIn wsX2_plan wsX2_worstOf := goodIn_r _ [52, 53, 54, 55, 56, 31, 32, 33, 14, 34, 35, 36, 37, 2, 38, 1, 3, 4, 5, 6, 7, 8, 9, 10, 60, 61, 62, 63, 64] (by decide +kernel) (by decide +kernel)
set_option maxRecDepth 20000 in
theorem gX2_plan_X2_worstOf : GoodIn wsX2_plan (wsV RX2 88 RX2 yX2_worstOf wsX2_worstOf) := goodIn_app (goodIn_of _ (by decide +kernel)) ggX2_plan_X2_worstOf
set_option maxRecDepth 20000 in
theorem ggX2_plan_X2_toldOf : GoodIn wsX2_plan wsX2_toldOf := goodIn_r _ [34, 35, 36, 37, 2, 38, 60, 61, 62, 63, 64] (by decide +kernel) (by decide +kernel)
set_option maxRecDepth 20000 in
theorem gX2_plan_X2_toldOf : GoodIn wsX2_plan (wsV RX2 59 RX2 yX2_toldOf wsX2_toldOf) := goodIn_app (goodIn_of _ (by decide +kernel)) ggX2_plan_X2_toldOf
set_option maxRecDepth 20000 in
theorem ggX2_plan_X2_plan : GoodIn wsX2_plan wsX2_plan := goodIn_r _ [0, 1, 2, 3, 4, 5, 6, 7, 8, 9, 10, 11, 12, 13, 14, 15, 16, 17, 18, 19, 20, 21, 22, 23, 24, 25, 26, 27, 28, 29, 30, 31, 32, 33, 34, 35, 36, 37, 38, 39, 40, 41, 42, 43, 44, 45, 46, 47, 48, 49, 50, 51, 52, 53, 54, 55, 56, 57, 58, 59, 60, 61, 62, 63, 64, 65, 66, 67, 68, 69] (by decide +kernel) (by decide +kernel)
set_option maxRecDepth 20000 in
theorem gX2_plan_X2_plan : GoodIn wsX2_plan (wsV RX2 103 RX2 yX2_plan wsX2_plan) := goodIn_app (goodIn_of _ (by decide +kernel)) ggX2_plan_X2_plan
theorem dX2_plan_0 : decode cX2_plan 0 = .ok (.lload_n 2, 1) := by decide +kernel
theorem dX2_plan_1 : decode cX2_plan 1 = .ok (.invokestatic 63, 3) := by decide +kernel
theorem dX2_plan_4 : decode cX2_plan 4 = .ok (.istore 5, 2) := by decide +kernel
theorem dX2_plan_6 : decode cX2_plan 6 = .ok (.iload 5, 2) := by decide +kernel
theorem dX2_plan_8 : decode cX2_plan 8 = .ok (.iconst 1, 1) := by decide +kernel
theorem dX2_plan_9 : decode cX2_plan 9 = .ok (.if_icmp .le 10, 3) := by decide +kernel
theorem dX2_plan_12 : decode cX2_plan 12 = .ok (.iload 4, 2) := by decide +kernel
theorem dX2_plan_14 : decode cX2_plan 14 = .ok (.bipush 12, 2) := by decide +kernel
theorem dX2_plan_16 : decode cX2_plan 16 = .ok (.if_icmp .lt 22, 3) := by decide +kernel
theorem dX2_plan_19 : decode cX2_plan 19 = .ok (.aload_n 0, 1) := by decide +kernel
theorem dX2_plan_20 : decode cX2_plan 20 = .ok (.lload_n 2, 1) := by decide +kernel
theorem dX2_plan_21 : decode cX2_plan 21 = .ok (.iload 5, 2) := by decide +kernel
theorem dX2_plan_23 : decode cX2_plan 23 = .ok (.iconst 1, 1) := by decide +kernel
theorem dX2_plan_24 : decode cX2_plan 24 = .ok (.if_icmp .ne 8, 3) := by decide +kernel
theorem dX2_plan_27 : decode cX2_plan 27 = .ok (.iload 4, 2) := by decide +kernel
theorem dX2_plan_29 : decode cX2_plan 29 = .ok (.goto 5, 3) := by decide +kernel
theorem dX2_plan_32 : decode cX2_plan 32 = .ok (.bipush (-9), 2) := by decide +kernel
theorem dX2_plan_34 : decode cX2_plan 34 = .ok (.invokevirtual 95, 3) := by decide +kernel
theorem dX2_plan_37 : decode cX2_plan 37 = .ok (.return_, 1) := by decide +kernel
theorem dX2_plan_38 : decode cX2_plan 38 = .ok (.aload_n 0, 1) := by decide +kernel
theorem dX2_plan_39 : decode cX2_plan 39 = .ok (.iconst 0, 1) := by decide +kernel
theorem dX2_plan_40 : decode cX2_plan 40 = .ok (.aload_n 1, 1) := by decide +kernel
theorem dX2_plan_41 : decode cX2_plan 41 = .ok (.lload_n 2, 1) := by decide +kernel
theorem dX2_plan_42 : decode cX2_plan 42 = .ok (.invokevirtual 99, 3) := by decide +kernel
theorem dX2_plan_45 : decode cX2_plan 45 = .ok (.istore 6, 2) := by decide +kernel
theorem dX2_plan_47 : decode cX2_plan 47 = .ok (.aload_n 0, 1) := by decide +kernel
theorem dX2_plan_48 : decode cX2_plan 48 = .ok (.iload 6, 2) := by decide +kernel
theorem dX2_plan_50 : decode cX2_plan 50 = .ok (.lload_n 2, 1) := by decide +kernel
theorem dX2_plan_51 : decode cX2_plan 51 = .ok (.invokevirtual 88, 3) := by decide +kernel
theorem dX2_plan_54 : decode cX2_plan 54 = .ok (.iload 5, 2) := by decide +kernel
theorem dX2_plan_56 : decode cX2_plan 56 = .ok (.if_icmp .lt 11, 3) := by decide +kernel
theorem dX2_plan_59 : decode cX2_plan 59 = .ok (.aload_n 0, 1) := by decide +kernel
theorem dX2_plan_60 : decode cX2_plan 60 = .ok (.lload_n 2, 1) := by decide +kernel
theorem dX2_plan_61 : decode cX2_plan 61 = .ok (.bipush (-9), 2) := by decide +kernel
theorem dX2_plan_63 : decode cX2_plan 63 = .ok (.invokevirtual 95, 3) := by decide +kernel
theorem dX2_plan_66 : decode cX2_plan 66 = .ok (.return_, 1) := by decide +kernel
theorem dX2_plan_67 : decode cX2_plan 67 = .ok (.iconst 0, 1) := by decide +kernel
theorem dX2_plan_68 : decode cX2_plan 68 = .ok (.istore 7, 2) := by decide +kernel
theorem dX2_plan_70 : decode cX2_plan 70 = .ok (.iload 7, 2) := by decide +kernel
theorem dX2_plan_72 : decode cX2_plan 72 = .ok (.bipush 9, 2) := by decide +kernel
theorem dX2_plan_74 : decode cX2_plan 74 = .ok (.if_icmp .ge 39, 3) := by decide +kernel
theorem dX2_plan_77 : decode cX2_plan 77 = .ok (.aload_n 0, 1) := by decide +kernel
theorem dX2_plan_78 : decode cX2_plan 78 = .ok (.iload 6, 2) := by decide +kernel
theorem dX2_plan_80 : decode cX2_plan 80 = .ok (.iload 7, 2) := by decide +kernel
theorem dX2_plan_82 : decode cX2_plan 82 = .ok (.invokevirtual 59, 3) := by decide +kernel
theorem dX2_plan_85 : decode cX2_plan 85 = .ok (.lload_n 2, 1) := by decide +kernel
theorem dX2_plan_86 : decode cX2_plan 86 = .ok (.land, 1) := by decide +kernel
theorem dX2_plan_87 : decode cX2_plan 87 = .ok (.lstore 8, 2) := by decide +kernel
theorem dX2_plan_89 : decode cX2_plan 89 = .ok (.lload 8, 2) := by decide +kernel
theorem dX2_plan_91 : decode cX2_plan 91 = .ok (.lconst 0, 1) := by decide +kernel
theorem dX2_plan_92 : decode cX2_plan 92 = .ok (.lcmp, 1) := by decide +kernel
theorem dX2_plan_93 : decode cX2_plan 93 = .ok (.ifCond .eq 14, 3) := by decide +kernel
theorem dX2_plan_96 : decode cX2_plan 96 = .ok (.aload_n 0, 1) := by decide +kernel
theorem dX2_plan_97 : decode cX2_plan 97 = .ok (.aload_n 1, 1) := by decide +kernel
theorem dX2_plan_98 : decode cX2_plan 98 = .ok (.lload 8, 2) := by decide +kernel
theorem dX2_plan_100 : decode cX2_plan 100 = .ok (.iload 4, 2) := by decide +kernel
theorem dX2_plan_102 : decode cX2_plan 102 = .ok (.iconst 1, 1) := by decide +kernel
theorem dX2_plan_103 : decode cX2_plan 103 = .ok (.iadd, 1) := by decide +kernel
theorem dX2_plan_104 : decode cX2_plan 104 = .ok (.invokevirtual 103, 3) := by decide +kernel
theorem dX2_plan_107 : decode cX2_plan 107 = .ok (.iinc 7 1, 3) := by decide +kernel
theorem dX2_plan_110 : decode cX2_plan 110 = .ok (.goto (-40), 3) := by decide +kernel
theorem dX2_plan_113 : decode cX2_plan 113 = .ok (.return_, 1) := by decide +kernel
set_option maxRecDepth 20000 in
theorem ggX2_noteEnough_X4_holds : GoodIn wsX2_noteEnough wsX4_holds := goodIn_r _ [4] (by decide +kernel) (by decide +kernel)
set_option maxRecDepth 20000 in
theorem gX2_noteEnough_X4_holds_n107 : GoodIn wsX2_noteEnough (wsX4_holds) := ggX2_noteEnough_X4_holds
theorem dX2_noteEnough_0 : decode cX2_noteEnough 0 = .ok (.iconst 1, 1) := by decide +kernel
theorem dX2_noteEnough_1 : decode cX2_noteEnough 1 = .ok (.istore 4, 2) := by decide +kernel
theorem dX2_noteEnough_3 : decode cX2_noteEnough 3 = .ok (.iload 4, 2) := by decide +kernel
theorem dX2_noteEnough_5 : decode cX2_noteEnough 5 = .ok (.bipush 40, 2) := by decide +kernel
theorem dX2_noteEnough_7 : decode cX2_noteEnough 7 = .ok (.if_icmp .gt 26, 3) := by decide +kernel
theorem dX2_noteEnough_10 : decode cX2_noteEnough 10 = .ok (.lload_n 1, 1) := by decide +kernel
theorem dX2_noteEnough_11 : decode cX2_noteEnough 11 = .ok (.iload 4, 2) := by decide +kernel
theorem dX2_noteEnough_13 : decode cX2_noteEnough 13 = .ok (.invokestatic 107, 3) := by decide +kernel
theorem dX2_noteEnough_16 : decode cX2_noteEnough 16 = .ok (.ifCond .eq 11, 3) := by decide +kernel
theorem dX2_noteEnough_19 : decode cX2_noteEnough 19 = .ok (.aload_n 0, 1) := by decide +kernel
theorem dX2_noteEnough_20 : decode cX2_noteEnough 20 = .ok (.getfield 30, 3) := by decide +kernel
theorem dX2_noteEnough_23 : decode cX2_noteEnough 23 = .ok (.iload 4, 2) := by decide +kernel
theorem dX2_noteEnough_25 : decode cX2_noteEnough 25 = .ok (.iload_n 3, 1) := by decide +kernel
theorem dX2_noteEnough_26 : decode cX2_noteEnough 26 = .ok (.iastore, 1) := by decide +kernel
theorem dX2_noteEnough_27 : decode cX2_noteEnough 27 = .ok (.iinc 4 1, 3) := by decide +kernel
theorem dX2_noteEnough_30 : decode cX2_noteEnough 30 = .ok (.goto (-27), 3) := by decide +kernel
theorem dX2_noteEnough_33 : decode cX2_noteEnough 33 = .ok (.return_, 1) := by decide +kernel
theorem dX3_init_0 : decode cX3_init 0 = .ok (.aload_n 0, 1) := by decide +kernel
theorem dX3_init_1 : decode cX3_init 1 = .ok (.invokespecial 3, 3) := by decide +kernel
theorem dX3_init_4 : decode cX3_init 4 = .ok (.aload_n 0, 1) := by decide +kernel
theorem dX3_init_5 : decode cX3_init 5 = .ok (.bipush 96, 2) := by decide +kernel
theorem dX3_init_7 : decode cX3_init 7 = .ok (.newarray .int, 2) := by decide +kernel
theorem dX3_init_9 : decode cX3_init 9 = .ok (.putfield 9, 3) := by decide +kernel
theorem dX3_init_12 : decode cX3_init 12 = .ok (.aload_n 0, 1) := by decide +kernel
theorem dX3_init_13 : decode cX3_init 13 = .ok (.iconst 0, 1) := by decide +kernel
theorem dX3_init_14 : decode cX3_init 14 = .ok (.putfield 15, 3) := by decide +kernel
theorem dX3_init_17 : decode cX3_init 17 = .ok (.return_, 1) := by decide +kernel
theorem dX3_isFull_0 : decode cX3_isFull 0 = .ok (.aload_n 0, 1) := by decide +kernel
theorem dX3_isFull_1 : decode cX3_isFull 1 = .ok (.getfield 15, 3) := by decide +kernel
theorem dX3_isFull_4 : decode cX3_isFull 4 = .ok (.bipush 96, 2) := by decide +kernel
theorem dX3_isFull_6 : decode cX3_isFull 6 = .ok (.if_icmp .lt 7, 3) := by decide +kernel
theorem dX3_isFull_9 : decode cX3_isFull 9 = .ok (.iconst 1, 1) := by decide +kernel
theorem dX3_isFull_10 : decode cX3_isFull 10 = .ok (.goto 4, 3) := by decide +kernel
theorem dX3_isFull_13 : decode cX3_isFull 13 = .ok (.iconst 0, 1) := by decide +kernel
theorem dX3_isFull_14 : decode cX3_isFull 14 = .ok (.ireturn, 1) := by decide +kernel
set_option maxRecDepth 20000 in
theorem ggX3_add_X3_isFull : GoodIn wsX3_add wsX3_isFull := goodIn_r _ [7, 2, 8, 9] (by decide +kernel) (by decide +kernel)
set_option maxRecDepth 20000 in
theorem gX3_add_X3_isFull : GoodIn wsX3_add (wsV RX3 19 RX3 yX3_isFull wsX3_isFull) := goodIn_app (goodIn_of _ (by decide +kernel)) ggX3_add_X3_isFull
theorem dX3_add_0 : decode cX3_add 0 = .ok (.aload_n 0, 1) := by decide +kernel
theorem dX3_add_1 : decode cX3_add 1 = .ok (.invokevirtual 19, 3) := by decide +kernel
theorem dX3_add_4 : decode cX3_add 4 = .ok (.ifCond .ne 23, 3) := by decide +kernel
theorem dX3_add_7 : decode cX3_add 7 = .ok (.aload_n 0, 1) := by decide +kernel
theorem dX3_add_8 : decode cX3_add 8 = .ok (.getfield 9, 3) := by decide +kernel
theorem dX3_add_11 : decode cX3_add 11 = .ok (.aload_n 0, 1) := by decide +kernel
theorem dX3_add_12 : decode cX3_add 12 = .ok (.getfield 15, 3) := by decide +kernel
theorem dX3_add_15 : decode cX3_add 15 = .ok (.iload_n 1, 1) := by decide +kernel
theorem dX3_add_16 : decode cX3_add 16 = .ok (.iastore, 1) := by decide +kernel
theorem dX3_add_17 : decode cX3_add 17 = .ok (.aload_n 0, 1) := by decide +kernel
theorem dX3_add_18 : decode cX3_add 18 = .ok (.dup, 1) := by decide +kernel
theorem dX3_add_19 : decode cX3_add 19 = .ok (.getfield 15, 3) := by decide +kernel
theorem dX3_add_22 : decode cX3_add 22 = .ok (.iconst 1, 1) := by decide +kernel
theorem dX3_add_23 : decode cX3_add 23 = .ok (.iadd, 1) := by decide +kernel
theorem dX3_add_24 : decode cX3_add 24 = .ok (.putfield 15, 3) := by decide +kernel
theorem dX3_add_27 : decode cX3_add 27 = .ok (.aload_n 0, 1) := by decide +kernel
theorem dX3_add_28 : decode cX3_add 28 = .ok (.getfield 15, 3) := by decide +kernel
theorem dX3_add_31 : decode cX3_add 31 = .ok (.ireturn, 1) := by decide +kernel
theorem dX3_clear_0 : decode cX3_clear 0 = .ok (.aload_n 0, 1) := by decide +kernel
theorem dX3_clear_1 : decode cX3_clear 1 = .ok (.iconst 0, 1) := by decide +kernel
theorem dX3_clear_2 : decode cX3_clear 2 = .ok (.putfield 15, 3) := by decide +kernel
theorem dX3_clear_5 : decode cX3_clear 5 = .ok (.return_, 1) := by decide +kernel
set_option maxRecDepth 20000 in
theorem ggX3_readInto_X3_firstMisfit : GoodIn wsX3_readInto wsX3_firstMisfit := goodIn_r _ [6, 1, 7, 8, 9, 5, 10, 11, 12, 13, 14, 15, 16, 17, 18, 19, 20, 21, 22, 23, 24, 25, 26, 27, 28, 29, 30, 31, 32, 33, 34, 35, 36, 37, 38, 39, 40, 41, 42, 43, 44, 45, 46, 47, 48, 49, 50, 51, 52, 53, 54, 55, 56, 57, 58, 59, 60, 61, 62, 63, 64, 65, 66, 67, 68, 69, 70, 71, 72, 73, 74, 75, 76, 77, 78, 79, 80, 81, 82, 83, 84, 85, 86, 87, 88, 89, 90, 91, 92, 93, 94, 95, 96, 97, 98, 99, 100, 101, 102, 103, 104, 105, 106, 107, 108, 109, 110, 111, 112, 113, 114, 115, 116, 117, 118, 119, 120, 121, 122, 123, 124, 125, 126, 127, 128, 129, 130, 131, 132, 133, 134, 219, 220] (by decide +kernel) (by decide +kernel)
set_option maxRecDepth 20000 in
theorem gX3_readInto_X3_firstMisfit : GoodIn wsX3_readInto (wsV RX3 23 RX3 yX3_firstMisfit wsX3_firstMisfit) := goodIn_app (goodIn_of _ (by decide +kernel)) ggX3_readInto_X3_firstMisfit
set_option maxRecDepth 20000 in
theorem ggX3_readInto_X3_comes : GoodIn wsX3_readInto wsX3_comes := goodIn_r _ [138, 7, 8, 9, 5, 10, 1, 11, 139, 140, 141, 142, 143, 144, 145, 146, 147, 148, 149, 150, 151, 152, 153, 154, 155, 156, 157, 158, 159, 160, 71, 72, 73, 74, 75, 76, 18, 77, 78, 79, 80, 81, 20, 35, 36, 37, 38, 29, 30, 82, 22, 23, 24, 25, 26, 27, 28, 83, 84, 41, 85, 86, 87, 88, 89, 90, 91, 92, 93, 94, 95, 96, 97, 98, 99, 100, 53, 101, 102, 103, 104, 105, 106, 107, 108, 109, 110, 58, 59, 60, 111, 112, 113, 46, 114, 115, 49, 116, 117, 118, 119, 62, 63, 64, 65, 66, 67, 120, 121, 122, 123, 124, 125, 126, 127, 128, 129, 130, 131, 132, 133, 134, 161, 162, 163, 164, 165, 166, 167, 168, 169, 170, 171, 172, 173, 174, 175, 176, 177, 178, 179, 180, 181, 182, 183, 184, 185, 186, 187, 188, 189, 190, 191, 192, 193, 194, 195, 196, 197, 198, 199, 200, 201, 202, 203, 204, 205, 206, 207, 208, 209, 210, 211, 212, 213, 214, 215, 216, 217, 218, 219, 220, 221, 222, 223, 224, 225, 226, 227] (by decide +kernel) (by decide +kernel)
set_option maxRecDepth 20000 in
theorem gX3_readInto_X3_comes : GoodIn wsX3_readInto (wsV RX3 27 RX3 yX3_comes wsX3_comes) := goodIn_app (goodIn_of _ (by decide +kernel)) ggX3_readInto_X3_comes
set_option maxRecDepth 20000 in
theorem ggX3_readInto_X3_letterAt : GoodIn wsX3_readInto wsX3_letterAt := goodIn_r _ [10, 1, 11, 219, 220] (by decide +kernel) (by decide +kernel)
set_option maxRecDepth 20000 in
theorem gX3_readInto_X3_letterAt : GoodIn wsX3_readInto (wsV RX3 31 RX3 yX3_letterAt wsX3_letterAt) := goodIn_app (goodIn_of _ (by decide +kernel)) ggX3_readInto_X3_letterAt
set_option maxRecDepth 20000 in
theorem ggX3_readInto_X3_formOf : GoodIn wsX3_readInto wsX3_formOf := goodIn_r _ [14] (by decide +kernel) (by decide +kernel)
set_option maxRecDepth 20000 in
theorem gX3_readInto_X3_formOf : GoodIn wsX3_readInto (va_wsS RX3 35 yX3_formOf wsX3_formOf) := goodIn_app (goodIn_of _ (by decide +kernel)) ggX3_readInto_X3_formOf
set_option maxRecDepth 20000 in
theorem ggX3_readInto_J0_length_8abf5 : GoodIn wsX3_readInto wsJ0_length_8abf5 := goodIn_r _ [24, 20, 25, 26, 27, 18, 28, 29, 30] (by decide +kernel) (by decide +kernel)
set_option maxRecDepth 20000 in
theorem gX3_readInto_J0_length_8abf5 : GoodIn wsX3_readInto (wsV RX3 39 RJ0 yJ0_length_8abf5 wsJ0_length_8abf5) := goodIn_app (goodIn_of _ (by decide +kernel)) ggX3_readInto_J0_length_8abf5
theorem dX3_readInto_0 : decode cX3_readInto 0 = .ok (.aload_n 0, 1) := by decide +kernel
theorem dX3_readInto_1 : decode cX3_readInto 1 = .ok (.invokevirtual 23, 3) := by decide +kernel
theorem dX3_readInto_4 : decode cX3_readInto 4 = .ok (.istore_n 3, 1) := by decide +kernel
theorem dX3_readInto_5 : decode cX3_readInto 5 = .ok (.iload_n 3, 1) := by decide +kernel
theorem dX3_readInto_6 : decode cX3_readInto 6 = .ok (.ifCond .lt 9, 3) := by decide +kernel
theorem dX3_readInto_9 : decode cX3_readInto 9 = .ok (.sipush (-1000), 3) := by decide +kernel
theorem dX3_readInto_12 : decode cX3_readInto 12 = .ok (.iload_n 3, 1) := by decide +kernel
theorem dX3_readInto_13 : decode cX3_readInto 13 = .ok (.isub, 1) := by decide +kernel
theorem dX3_readInto_14 : decode cX3_readInto 14 = .ok (.ireturn, 1) := by decide +kernel
theorem dX3_readInto_15 : decode cX3_readInto 15 = .ok (.iconst 0, 1) := by decide +kernel
theorem dX3_readInto_16 : decode cX3_readInto 16 = .ok (.istore 4, 2) := by decide +kernel
theorem dX3_readInto_18 : decode cX3_readInto 18 = .ok (.iconst 0, 1) := by decide +kernel
theorem dX3_readInto_19 : decode cX3_readInto 19 = .ok (.istore 5, 2) := by decide +kernel
theorem dX3_readInto_21 : decode cX3_readInto 21 = .ok (.iload 5, 2) := by decide +kernel
theorem dX3_readInto_23 : decode cX3_readInto 23 = .ok (.aload_n 0, 1) := by decide +kernel
theorem dX3_readInto_24 : decode cX3_readInto 24 = .ok (.getfield 15, 3) := by decide +kernel
theorem dX3_readInto_27 : decode cX3_readInto 27 = .ok (.if_icmp .ge 46, 3) := by decide +kernel
theorem dX3_readInto_30 : decode cX3_readInto 30 = .ok (.aload_n 0, 1) := by decide +kernel
theorem dX3_readInto_31 : decode cX3_readInto 31 = .ok (.iload 5, 2) := by decide +kernel
theorem dX3_readInto_33 : decode cX3_readInto 33 = .ok (.aload_n 1, 1) := by decide +kernel
theorem dX3_readInto_34 : decode cX3_readInto 34 = .ok (.aload_n 2, 1) := by decide +kernel
theorem dX3_readInto_35 : decode cX3_readInto 35 = .ok (.invokevirtual 27, 3) := by decide +kernel
theorem dX3_readInto_38 : decode cX3_readInto 38 = .ok (.ifCond .ne 10, 3) := by decide +kernel
theorem dX3_readInto_41 : decode cX3_readInto 41 = .ok (.sipush (-2000), 3) := by decide +kernel
theorem dX3_readInto_44 : decode cX3_readInto 44 = .ok (.iload 5, 2) := by decide +kernel
theorem dX3_readInto_46 : decode cX3_readInto 46 = .ok (.isub, 1) := by decide +kernel
theorem dX3_readInto_47 : decode cX3_readInto 47 = .ok (.ireturn, 1) := by decide +kernel
theorem dX3_readInto_48 : decode cX3_readInto 48 = .ok (.iinc 4 1, 3) := by decide +kernel
theorem dX3_readInto_51 : decode cX3_readInto 51 = .ok (.iload 5, 2) := by decide +kernel
theorem dX3_readInto_53 : decode cX3_readInto 53 = .ok (.iconst 1, 1) := by decide +kernel
theorem dX3_readInto_54 : decode cX3_readInto 54 = .ok (.aload_n 0, 1) := by decide +kernel
theorem dX3_readInto_55 : decode cX3_readInto 55 = .ok (.iload 5, 2) := by decide +kernel
theorem dX3_readInto_57 : decode cX3_readInto 57 = .ok (.invokevirtual 31, 3) := by decide +kernel
theorem dX3_readInto_60 : decode cX3_readInto 60 = .ok (.invokestatic 35, 3) := by decide +kernel
theorem dX3_readInto_63 : decode cX3_readInto 63 = .ok (.invokevirtual 39, 3) := by decide +kernel
theorem dX3_readInto_66 : decode cX3_readInto 66 = .ok (.iadd, 1) := by decide +kernel
theorem dX3_readInto_67 : decode cX3_readInto 67 = .ok (.iadd, 1) := by decide +kernel
theorem dX3_readInto_68 : decode cX3_readInto 68 = .ok (.istore 5, 2) := by decide +kernel
theorem dX3_readInto_70 : decode cX3_readInto 70 = .ok (.goto (-49), 3) := by decide +kernel
theorem dX3_readInto_73 : decode cX3_readInto 73 = .ok (.iload 4, 2) := by decide +kernel
theorem dX3_readInto_75 : decode cX3_readInto 75 = .ok (.ireturn, 1) := by decide +kernel
set_option maxRecDepth 20000 in
theorem ggX3_firstMisfit_X3_letterAt : GoodIn wsX3_firstMisfit wsX3_letterAt := goodIn_r _ [6, 1, 7, 131, 132] (by decide +kernel) (by decide +kernel)
set_option maxRecDepth 20000 in
theorem gX3_firstMisfit_X3_letterAt : GoodIn wsX3_firstMisfit (wsV RX3 31 RX3 yX3_letterAt wsX3_letterAt) := goodIn_app (goodIn_of _ (by decide +kernel)) ggX3_firstMisfit_X3_letterAt
set_option maxRecDepth 20000 in
theorem ggX3_firstMisfit_X3_formOf : GoodIn wsX3_firstMisfit wsX3_formOf := goodIn_r _ [10] (by decide +kernel) (by decide +kernel)
set_option maxRecDepth 20000 in
theorem gX3_firstMisfit_X3_formOf : GoodIn wsX3_firstMisfit (va_wsS RX3 35 yX3_formOf wsX3_formOf) := goodIn_app (goodIn_of _ (by decide +kernel)) ggX3_firstMisfit_X3_formOf
set_option maxRecDepth 20000 in
theorem ggX3_firstMisfit_J0_isEmpty_aae02 : GoodIn wsX3_firstMisfit wsJ0_isEmpty_aae02 := goodIn_r _ [15, 16] (by decide +kernel) (by decide +kernel)
set_option maxRecDepth 20000 in
theorem gX3_firstMisfit_J0_isEmpty_aae02 : GoodIn wsX3_firstMisfit (wsV RX3 44 RJ0 yJ0_isEmpty_aae02 wsJ0_isEmpty_aae02) := goodIn_app (goodIn_of _ (by decide +kernel)) ggX3_firstMisfit_J0_isEmpty_aae02

theorem dX4_refuse_0 : decode cX4_refuse 0 = .ok (.iload_n 1, 1) := by decide +kernel
theorem dX4_refuse_1 : decode cX4_refuse 1 = .ok (.ineg, 1) := by decide +kernel
theorem dX4_refuse_2 : decode cX4_refuse 2 = .ok (.istore_n 2, 1) := by decide +kernel
theorem dX4_refuse_3 : decode cX4_refuse 3 = .ok (.iload_n 2, 1) := by decide +kernel
theorem dX4_refuse_4 : decode cX4_refuse 4 = .ok (.ifCond .le 19, 3) := by decide +kernel
theorem dX4_refuse_7 : decode cX4_refuse 7 = .ok (.iload_n 2, 1) := by decide +kernel
theorem dX4_refuse_8 : decode cX4_refuse 8 = .ok (.bipush 7, 2) := by decide +kernel
theorem dX4_refuse_10 : decode cX4_refuse 10 = .ok (.if_icmp .ge 13, 3) := by decide +kernel
theorem dX4_refuse_13 : decode cX4_refuse 13 = .ok (.aload_n 0, 1) := by decide +kernel
theorem dX4_refuse_14 : decode cX4_refuse 14 = .ok (.getfield 55, 3) := by decide +kernel
theorem dX4_refuse_17 : decode cX4_refuse 17 = .ok (.iload_n 2, 1) := by decide +kernel
theorem dX4_refuse_18 : decode cX4_refuse 18 = .ok (.dup2, 1) := by decide +kernel
theorem dX4_refuse_19 : decode cX4_refuse 19 = .ok (.iaload, 1) := by decide +kernel
theorem dX4_refuse_20 : decode cX4_refuse 20 = .ok (.iconst 1, 1) := by decide +kernel
theorem dX4_refuse_21 : decode cX4_refuse 21 = .ok (.iadd, 1) := by decide +kernel
theorem dX4_refuse_22 : decode cX4_refuse 22 = .ok (.iastore, 1) := by decide +kernel
theorem dX4_refuse_23 : decode cX4_refuse 23 = .ok (.iload_n 1, 1) := by decide +kernel
theorem dX4_refuse_24 : decode cX4_refuse 24 = .ok (.ireturn, 1) := by decide +kernel
set_option maxRecDepth 20000 in
theorem ggX4_refuseLong_X4_refuse : GoodIn wsX4_refuseLong wsX4_refuse := goodIn_r _ [6, 7, 8, 9, 10, 11, 12, 13, 14, 15, 16, 17] (by decide +kernel) (by decide +kernel)
set_option maxRecDepth 20000 in
theorem gX4_refuseLong_X4_refuse : GoodIn wsX4_refuseLong (wsV RX4 58 RX4 yX4_refuse wsX4_refuse) := goodIn_app (goodIn_of _ (by decide +kernel)) ggX4_refuseLong_X4_refuse
theorem dX4_refuseLong_0 : decode cX4_refuseLong 0 = .ok (.ldc2_w 240, 3) := by decide +kernel
theorem dX4_refuseLong_3 : decode cX4_refuseLong 3 = .ok (.aload_n 0, 1) := by decide +kernel
theorem dX4_refuseLong_4 : decode cX4_refuseLong 4 = .ok (.iload_n 1, 1) := by decide +kernel
theorem dX4_refuseLong_5 : decode cX4_refuseLong 5 = .ok (.invokevirtual 58, 3) := by decide +kernel
theorem dX4_refuseLong_8 : decode cX4_refuseLong 8 = .ok (.i2l, 1) := by decide +kernel
theorem dX4_refuseLong_9 : decode cX4_refuseLong 9 = .ok (.lsub, 1) := by decide +kernel
theorem dX4_refuseLong_10 : decode cX4_refuseLong 10 = .ok (.lreturn, 1) := by decide +kernel
theorem dX4_isBand_0 : decode cX4_isBand 0 = .ok (.iload_n 1, 1) := by decide +kernel
theorem dX4_isBand_1 : decode cX4_isBand 1 = .ok (.ifCond .lt 20, 3) := by decide +kernel
theorem dX4_isBand_4 : decode cX4_isBand 4 = .ok (.iload_n 1, 1) := by decide +kernel
theorem dX4_isBand_5 : decode cX4_isBand 5 = .ok (.aload_n 0, 1) := by decide +kernel
theorem dX4_isBand_6 : decode cX4_isBand 6 = .ok (.getfield 10, 3) := by decide +kernel
theorem dX4_isBand_9 : decode cX4_isBand 9 = .ok (.getfield 93, 3) := by decide +kernel
theorem dX4_isBand_12 : decode cX4_isBand 12 = .ok (.iconst 0, 1) := by decide +kernel
theorem dX4_isBand_13 : decode cX4_isBand 13 = .ok (.iaload, 1) := by decide +kernel
theorem dX4_isBand_14 : decode cX4_isBand 14 = .ok (.if_icmp .ge 7, 3) := by decide +kernel
theorem dX4_isBand_17 : decode cX4_isBand 17 = .ok (.iconst 1, 1) := by decide +kernel
theorem dX4_isBand_18 : decode cX4_isBand 18 = .ok (.goto 4, 3) := by decide +kernel
theorem dX4_isBand_21 : decode cX4_isBand 21 = .ok (.iconst 0, 1) := by decide +kernel
theorem dX4_isBand_22 : decode cX4_isBand 22 = .ok (.ireturn, 1) := by decide +kernel
set_option maxRecDepth 20000 in
theorem ggX4_canBeTold_X4_isBand : GoodIn wsX4_canBeTold wsX4_isBand := goodIn_r _ [5, 6, 7, 8, 9, 10, 11, 12, 13, 14, 15, 16, 17, 18, 19, 20, 21, 22] (by decide +kernel) (by decide +kernel)
set_option maxRecDepth 20000 in
theorem gX4_canBeTold_X4_isBand : GoodIn wsX4_canBeTold (wsV RX4 108 RX4 yX4_isBand wsX4_isBand) := goodIn_app (goodIn_of _ (by decide +kernel)) ggX4_canBeTold_X4_isBand
theorem dX4_canBeTold_0 : decode cX4_canBeTold 0 = .ok (.aload_n 0, 1) := by decide +kernel
theorem dX4_canBeTold_1 : decode cX4_canBeTold 1 = .ok (.iload_n 1, 1) := by decide +kernel
theorem dX4_canBeTold_2 : decode cX4_canBeTold 2 = .ok (.invokevirtual 108, 3) := by decide +kernel
theorem dX4_canBeTold_5 : decode cX4_canBeTold 5 = .ok (.ifCond .ne 9, 3) := by decide +kernel
theorem dX4_canBeTold_8 : decode cX4_canBeTold 8 = .ok (.iload_n 1, 1) := by decide +kernel
theorem dX4_canBeTold_9 : decode cX4_canBeTold 9 = .ok (.bipush 8, 2) := by decide +kernel
theorem dX4_canBeTold_11 : decode cX4_canBeTold 11 = .ok (.if_icmp .ne 7, 3) := by decide +kernel
theorem dX4_canBeTold_14 : decode cX4_canBeTold 14 = .ok (.iconst 1, 1) := by decide +kernel
theorem dX4_canBeTold_15 : decode cX4_canBeTold 15 = .ok (.goto 4, 3) := by decide +kernel
theorem dX4_canBeTold_18 : decode cX4_canBeTold 18 = .ok (.iconst 0, 1) := by decide +kernel
theorem dX4_canBeTold_19 : decode cX4_canBeTold 19 = .ok (.ireturn, 1) := by decide +kernel
set_option maxRecDepth 20000 in
theorem ggX4_faultsBehindStrip_X2_take : GoodIn wsX4_faultsBehindStrip wsX2_take := goodIn_r _ [8, 9, 10, 11, 12, 13, 14, 15, 16, 17, 18, 7, 19, 20, 21, 22, 23, 24, 25, 26, 27, 28, 29, 30, 31, 32, 33, 34, 35, 36, 37, 38, 39, 40, 41, 42, 43, 44, 45, 46, 47, 48, 49, 50, 51, 52, 53, 54, 55, 133, 134, 135, 136, 137, 128, 129, 130, 131, 132, 138, 139] (by decide +kernel) (by decide +kernel)
set_option maxRecDepth 20000 in
theorem gX4_faultsBehindStrip_X2_take : GoodIn wsX4_faultsBehindStrip (wsV RX4 140 RX2 yX2_take wsX2_take) := goodIn_app (goodIn_of _ (by decide +kernel)) ggX4_faultsBehindStrip_X2_take
set_option maxRecDepth 20000 in
theorem ggX4_faultsBehindStrip_X2_bestBy : GoodIn wsX4_faultsBehindStrip wsX2_bestBy := goodIn_r _ [59, 60, 61, 62, 7, 63, 64, 65, 66, 67, 68, 69, 70, 71, 20, 9, 72, 14, 73, 74, 75, 76, 77, 78, 79, 80, 81, 82, 83, 84, 85, 86, 87, 88, 89, 90, 91, 92, 93, 94, 95, 96, 97, 98, 99, 54, 30, 55, 133, 134, 135, 136, 137, 128, 129, 130, 131, 132] (by decide +kernel) (by decide +kernel)
set_option maxRecDepth 20000 in
theorem gX4_faultsBehindStrip_X2_bestBy : GoodIn wsX4_faultsBehindStrip (wsV RX4 176 RX2 yX2_bestBy wsX2_bestBy) := goodIn_app (goodIn_of _ (by decide +kernel)) ggX4_faultsBehindStrip_X2_bestBy
set_option maxRecDepth 20000 in
theorem ggX4_faultsBehindStrip_X2_faultsBehind : GoodIn wsX4_faultsBehindStrip wsX2_faultsBehind := goodIn_r _ [103, 68, 69, 70, 7, 71, 20, 9, 72, 14, 73, 104, 105, 106, 77, 107, 108, 109, 110, 111, 112, 113, 114, 115, 79, 116, 48, 30, 49, 117, 80, 81, 133, 134, 135, 136, 137, 128, 129, 130, 131, 132] (by decide +kernel) (by decide +kernel)
set_option maxRecDepth 20000 in
theorem gX4_faultsBehindStrip_X2_faultsBehind : GoodIn wsX4_faultsBehindStrip (wsV RX4 242 RX2 yX2_faultsBehind wsX2_faultsBehind) := goodIn_app (goodIn_of _ (by decide +kernel)) ggX4_faultsBehindStrip_X2_faultsBehind
theorem dX4_faultsBehindStrip_0 : decode cX4_faultsBehindStrip 0 = .ok (.aload_n 0, 1) := by decide +kernel
theorem dX4_faultsBehindStrip_1 : decode cX4_faultsBehindStrip 1 = .ok (.getfield 36, 3) := by decide +kernel
theorem dX4_faultsBehindStrip_4 : decode cX4_faultsBehindStrip 4 = .ok (.aload_n 0, 1) := by decide +kernel
theorem dX4_faultsBehindStrip_5 : decode cX4_faultsBehindStrip 5 = .ok (.getfield 10, 3) := by decide +kernel
theorem dX4_faultsBehindStrip_8 : decode cX4_faultsBehindStrip 8 = .ok (.aload_n 0, 1) := by decide +kernel
theorem dX4_faultsBehindStrip_9 : decode cX4_faultsBehindStrip 9 = .ok (.getfield 10, 3) := by decide +kernel
theorem dX4_faultsBehindStrip_12 : decode cX4_faultsBehindStrip 12 = .ok (.getfield 99, 3) := by decide +kernel
theorem dX4_faultsBehindStrip_15 : decode cX4_faultsBehindStrip 15 = .ok (.invokevirtual 140, 3) := by decide +kernel
theorem dX4_faultsBehindStrip_18 : decode cX4_faultsBehindStrip 18 = .ok (.aload_n 0, 1) := by decide +kernel
theorem dX4_faultsBehindStrip_19 : decode cX4_faultsBehindStrip 19 = .ok (.getfield 36, 3) := by decide +kernel
theorem dX4_faultsBehindStrip_22 : decode cX4_faultsBehindStrip 22 = .ok (.aload_n 0, 1) := by decide +kernel
theorem dX4_faultsBehindStrip_23 : decode cX4_faultsBehindStrip 23 = .ok (.getfield 36, 3) := by decide +kernel
theorem dX4_faultsBehindStrip_26 : decode cX4_faultsBehindStrip 26 = .ok (.iconst 0, 1) := by decide +kernel
theorem dX4_faultsBehindStrip_27 : decode cX4_faultsBehindStrip 27 = .ok (.aload_n 0, 1) := by decide +kernel
theorem dX4_faultsBehindStrip_28 : decode cX4_faultsBehindStrip 28 = .ok (.getfield 10, 3) := by decide +kernel
theorem dX4_faultsBehindStrip_31 : decode cX4_faultsBehindStrip 31 = .ok (.lload_n 1, 1) := by decide +kernel
theorem dX4_faultsBehindStrip_32 : decode cX4_faultsBehindStrip 32 = .ok (.invokevirtual 176, 3) := by decide +kernel
theorem dX4_faultsBehindStrip_35 : decode cX4_faultsBehindStrip 35 = .ok (.aload_n 0, 1) := by decide +kernel
theorem dX4_faultsBehindStrip_36 : decode cX4_faultsBehindStrip 36 = .ok (.getfield 10, 3) := by decide +kernel
theorem dX4_faultsBehindStrip_39 : decode cX4_faultsBehindStrip 39 = .ok (.lload_n 1, 1) := by decide +kernel
theorem dX4_faultsBehindStrip_40 : decode cX4_faultsBehindStrip 40 = .ok (.invokevirtual 242, 3) := by decide +kernel
theorem dX4_faultsBehindStrip_43 : decode cX4_faultsBehindStrip 43 = .ok (.lreturn, 1) := by decide +kernel
set_option maxRecDepth 20000 in
theorem ggX4_toldUnlike_X1_lay : GoodIn wsX4_toldUnlike wsX1_lay := goodIn_r _ [9, 10, 11, 12, 13, 14, 15, 16, 17, 18, 8, 19, 20, 21, 22, 23, 24, 25, 49, 50, 51, 52, 53, 54, 55] (by decide +kernel) (by decide +kernel)
set_option maxRecDepth 20000 in
theorem gX4_toldUnlike_X1_lay : GoodIn wsX4_toldUnlike (wsV RX4 111 RX1 yX1_lay wsX1_lay) := goodIn_app (goodIn_of _ (by decide +kernel)) ggX4_toldUnlike_X1_lay
set_option maxRecDepth 20000 in
theorem ggX4_toldUnlike_X1_tell : GoodIn wsX4_toldUnlike wsX1_tell := goodIn_r _ [29, 16, 30, 31, 13, 32, 15, 33, 34, 8, 35, 36, 37, 38, 54, 55] (by decide +kernel) (by decide +kernel)
set_option maxRecDepth 20000 in
theorem gX4_toldUnlike_X1_tell : GoodIn wsX4_toldUnlike (wsV RX4 118 RX1 yX1_tell wsX1_tell) := goodIn_app (goodIn_of _ (by decide +kernel)) ggX4_toldUnlike_X1_tell
theorem dX4_toldUnlike_0 : decode cX4_toldUnlike 0 = .ok (.lconst 0, 1) := by decide +kernel
theorem dX4_toldUnlike_1 : decode cX4_toldUnlike 1 = .ok (.lstore 4, 2) := by decide +kernel
theorem dX4_toldUnlike_3 : decode cX4_toldUnlike 3 = .ok (.aload_n 0, 1) := by decide +kernel
theorem dX4_toldUnlike_4 : decode cX4_toldUnlike 4 = .ok (.getfield 10, 3) := by decide +kernel
theorem dX4_toldUnlike_7 : decode cX4_toldUnlike 7 = .ok (.getfield 93, 3) := by decide +kernel
theorem dX4_toldUnlike_10 : decode cX4_toldUnlike 10 = .ok (.iconst 2, 1) := by decide +kernel
theorem dX4_toldUnlike_11 : decode cX4_toldUnlike 11 = .ok (.iaload, 1) := by decide +kernel
theorem dX4_toldUnlike_12 : decode cX4_toldUnlike 12 = .ok (.istore 6, 2) := by decide +kernel
theorem dX4_toldUnlike_14 : decode cX4_toldUnlike 14 = .ok (.aload_n 0, 1) := by decide +kernel
theorem dX4_toldUnlike_15 : decode cX4_toldUnlike 15 = .ok (.getfield 29, 3) := by decide +kernel
theorem dX4_toldUnlike_18 : decode cX4_toldUnlike 18 = .ok (.aload_n 0, 1) := by decide +kernel
theorem dX4_toldUnlike_19 : decode cX4_toldUnlike 19 = .ok (.getfield 10, 3) := by decide +kernel
theorem dX4_toldUnlike_22 : decode cX4_toldUnlike 22 = .ok (.aload_n 0, 1) := by decide +kernel
theorem dX4_toldUnlike_23 : decode cX4_toldUnlike 23 = .ok (.getfield 10, 3) := by decide +kernel
theorem dX4_toldUnlike_26 : decode cX4_toldUnlike 26 = .ok (.getfield 99, 3) := by decide +kernel
theorem dX4_toldUnlike_29 : decode cX4_toldUnlike 29 = .ok (.iload_n 1, 1) := by decide +kernel
theorem dX4_toldUnlike_30 : decode cX4_toldUnlike 30 = .ok (.invokevirtual 111, 3) := by decide +kernel
theorem dX4_toldUnlike_33 : decode cX4_toldUnlike 33 = .ok (.iconst 1, 1) := by decide +kernel
theorem dX4_toldUnlike_34 : decode cX4_toldUnlike 34 = .ok (.istore 7, 2) := by decide +kernel
theorem dX4_toldUnlike_36 : decode cX4_toldUnlike 36 = .ok (.iload 7, 2) := by decide +kernel
theorem dX4_toldUnlike_38 : decode cX4_toldUnlike 38 = .ok (.bipush 40, 2) := by decide +kernel
theorem dX4_toldUnlike_40 : decode cX4_toldUnlike 40 = .ok (.if_icmp .gt 45, 3) := by decide +kernel
theorem dX4_toldUnlike_43 : decode cX4_toldUnlike 43 = .ok (.aload_n 0, 1) := by decide +kernel
theorem dX4_toldUnlike_44 : decode cX4_toldUnlike 44 = .ok (.getfield 29, 3) := by decide +kernel
theorem dX4_toldUnlike_47 : decode cX4_toldUnlike 47 = .ok (.iload_n 2, 1) := by decide +kernel
theorem dX4_toldUnlike_48 : decode cX4_toldUnlike 48 = .ok (.iload 6, 2) := by decide +kernel
theorem dX4_toldUnlike_50 : decode cX4_toldUnlike 50 = .ok (.iload 7, 2) := by decide +kernel
theorem dX4_toldUnlike_52 : decode cX4_toldUnlike 52 = .ok (.invokevirtual 118, 3) := by decide +kernel
theorem dX4_toldUnlike_55 : decode cX4_toldUnlike 55 = .ok (.aload_n 0, 1) := by decide +kernel
theorem dX4_toldUnlike_56 : decode cX4_toldUnlike 56 = .ok (.getfield 29, 3) := by decide +kernel
theorem dX4_toldUnlike_59 : decode cX4_toldUnlike 59 = .ok (.iload_n 3, 1) := by decide +kernel
theorem dX4_toldUnlike_60 : decode cX4_toldUnlike 60 = .ok (.iload 6, 2) := by decide +kernel
theorem dX4_toldUnlike_62 : decode cX4_toldUnlike 62 = .ok (.iload 7, 2) := by decide +kernel
theorem dX4_toldUnlike_64 : decode cX4_toldUnlike 64 = .ok (.invokevirtual 118, 3) := by decide +kernel
theorem dX4_toldUnlike_67 : decode cX4_toldUnlike 67 = .ok (.if_icmp .eq 12, 3) := by decide +kernel
theorem dX4_toldUnlike_70 : decode cX4_toldUnlike 70 = .ok (.lload 4, 2) := by decide +kernel
theorem dX4_toldUnlike_72 : decode cX4_toldUnlike 72 = .ok (.lconst 1, 1) := by decide +kernel
theorem dX4_toldUnlike_73 : decode cX4_toldUnlike 73 = .ok (.iload 7, 2) := by decide +kernel
theorem dX4_toldUnlike_75 : decode cX4_toldUnlike 75 = .ok (.lshl, 1) := by decide +kernel
theorem dX4_toldUnlike_76 : decode cX4_toldUnlike 76 = .ok (.lor, 1) := by decide +kernel
theorem dX4_toldUnlike_77 : decode cX4_toldUnlike 77 = .ok (.lstore 4, 2) := by decide +kernel
theorem dX4_toldUnlike_79 : decode cX4_toldUnlike 79 = .ok (.iinc 7 1, 3) := by decide +kernel
theorem dX4_toldUnlike_82 : decode cX4_toldUnlike 82 = .ok (.goto (-46), 3) := by decide +kernel
theorem dX4_toldUnlike_85 : decode cX4_toldUnlike 85 = .ok (.lload 4, 2) := by decide +kernel
theorem dX4_toldUnlike_87 : decode cX4_toldUnlike 87 = .ok (.lreturn, 1) := by decide +kernel
set_option maxRecDepth 20000 in
theorem ggX4_isRowOfThrees_X4_isSecond : GoodIn wsX4_isRowOfThrees wsX4_isSecond := goodIn_r _ [6] (by decide +kernel) (by decide +kernel)
set_option maxRecDepth 20000 in
theorem gX4_isRowOfThrees_X4_isSecond : GoodIn wsX4_isRowOfThrees (va_wsS RX4 80 yX4_isSecond wsX4_isSecond) := goodIn_app (goodIn_of _ (by decide +kernel)) ggX4_isRowOfThrees_X4_isSecond
theorem dX4_isRowOfThrees_0 : decode cX4_isRowOfThrees 0 = .ok (.aload_n 0, 1) := by decide +kernel
theorem dX4_isRowOfThrees_1 : decode cX4_isRowOfThrees 1 = .ok (.getfield 51, 3) := by decide +kernel
theorem dX4_isRowOfThrees_4 : decode cX4_isRowOfThrees 4 = .ok (.iconst 3, 1) := by decide +kernel
theorem dX4_isRowOfThrees_5 : decode cX4_isRowOfThrees 5 = .ok (.irem, 1) := by decide +kernel
theorem dX4_isRowOfThrees_6 : decode cX4_isRowOfThrees 6 = .ok (.ifCond .eq 5, 3) := by decide +kernel
theorem dX4_isRowOfThrees_9 : decode cX4_isRowOfThrees 9 = .ok (.iconst 0, 1) := by decide +kernel
theorem dX4_isRowOfThrees_10 : decode cX4_isRowOfThrees 10 = .ok (.ireturn, 1) := by decide +kernel
theorem dX4_isRowOfThrees_11 : decode cX4_isRowOfThrees 11 = .ok (.iconst 0, 1) := by decide +kernel
theorem dX4_isRowOfThrees_12 : decode cX4_isRowOfThrees 12 = .ok (.istore_n 1, 1) := by decide +kernel
theorem dX4_isRowOfThrees_13 : decode cX4_isRowOfThrees 13 = .ok (.iload_n 1, 1) := by decide +kernel
theorem dX4_isRowOfThrees_14 : decode cX4_isRowOfThrees 14 = .ok (.iconst 2, 1) := by decide +kernel
theorem dX4_isRowOfThrees_15 : decode cX4_isRowOfThrees 15 = .ok (.iadd, 1) := by decide +kernel
theorem dX4_isRowOfThrees_16 : decode cX4_isRowOfThrees 16 = .ok (.aload_n 0, 1) := by decide +kernel
theorem dX4_isRowOfThrees_17 : decode cX4_isRowOfThrees 17 = .ok (.getfield 51, 3) := by decide +kernel
theorem dX4_isRowOfThrees_20 : decode cX4_isRowOfThrees 20 = .ok (.if_icmp .ge 50, 3) := by decide +kernel
theorem dX4_isRowOfThrees_23 : decode cX4_isRowOfThrees 23 = .ok (.aload_n 0, 1) := by decide +kernel
theorem dX4_isRowOfThrees_24 : decode cX4_isRowOfThrees 24 = .ok (.getfield 47, 3) := by decide +kernel
theorem dX4_isRowOfThrees_27 : decode cX4_isRowOfThrees 27 = .ok (.iload_n 1, 1) := by decide +kernel
theorem dX4_isRowOfThrees_28 : decode cX4_isRowOfThrees 28 = .ok (.iaload, 1) := by decide +kernel
theorem dX4_isRowOfThrees_29 : decode cX4_isRowOfThrees 29 = .ok (.invokestatic 80, 3) := by decide +kernel
theorem dX4_isRowOfThrees_32 : decode cX4_isRowOfThrees 32 = .ok (.ifCond .eq 30, 3) := by decide +kernel
theorem dX4_isRowOfThrees_35 : decode cX4_isRowOfThrees 35 = .ok (.aload_n 0, 1) := by decide +kernel
theorem dX4_isRowOfThrees_36 : decode cX4_isRowOfThrees 36 = .ok (.getfield 47, 3) := by decide +kernel
theorem dX4_isRowOfThrees_39 : decode cX4_isRowOfThrees 39 = .ok (.iload_n 1, 1) := by decide +kernel
theorem dX4_isRowOfThrees_40 : decode cX4_isRowOfThrees 40 = .ok (.iconst 1, 1) := by decide +kernel
theorem dX4_isRowOfThrees_41 : decode cX4_isRowOfThrees 41 = .ok (.iadd, 1) := by decide +kernel
theorem dX4_isRowOfThrees_42 : decode cX4_isRowOfThrees 42 = .ok (.iaload, 1) := by decide +kernel
theorem dX4_isRowOfThrees_43 : decode cX4_isRowOfThrees 43 = .ok (.invokestatic 80, 3) := by decide +kernel
theorem dX4_isRowOfThrees_46 : decode cX4_isRowOfThrees 46 = .ok (.ifCond .eq 16, 3) := by decide +kernel
theorem dX4_isRowOfThrees_49 : decode cX4_isRowOfThrees 49 = .ok (.aload_n 0, 1) := by decide +kernel
theorem dX4_isRowOfThrees_50 : decode cX4_isRowOfThrees 50 = .ok (.getfield 47, 3) := by decide +kernel
theorem dX4_isRowOfThrees_53 : decode cX4_isRowOfThrees 53 = .ok (.iload_n 1, 1) := by decide +kernel
theorem dX4_isRowOfThrees_54 : decode cX4_isRowOfThrees 54 = .ok (.iconst 2, 1) := by decide +kernel
theorem dX4_isRowOfThrees_55 : decode cX4_isRowOfThrees 55 = .ok (.iadd, 1) := by decide +kernel
theorem dX4_isRowOfThrees_56 : decode cX4_isRowOfThrees 56 = .ok (.iaload, 1) := by decide +kernel
theorem dX4_isRowOfThrees_57 : decode cX4_isRowOfThrees 57 = .ok (.bipush 8, 2) := by decide +kernel
theorem dX4_isRowOfThrees_59 : decode cX4_isRowOfThrees 59 = .ok (.if_icmp .le 5, 3) := by decide +kernel
theorem dX4_isRowOfThrees_62 : decode cX4_isRowOfThrees 62 = .ok (.iconst 0, 1) := by decide +kernel
theorem dX4_isRowOfThrees_63 : decode cX4_isRowOfThrees 63 = .ok (.ireturn, 1) := by decide +kernel
theorem dX4_isRowOfThrees_64 : decode cX4_isRowOfThrees 64 = .ok (.iinc 1 3, 3) := by decide +kernel
theorem dX4_isRowOfThrees_67 : decode cX4_isRowOfThrees 67 = .ok (.goto (-54), 3) := by decide +kernel
theorem dX4_isRowOfThrees_70 : decode cX4_isRowOfThrees 70 = .ok (.iconst 1, 1) := by decide +kernel
theorem dX4_isRowOfThrees_71 : decode cX4_isRowOfThrees 71 = .ok (.ireturn, 1) := by decide +kernel
set_option maxRecDepth 20000 in
theorem ggX4_rowIsToldBy_X1_lay : GoodIn wsX4_rowIsToldBy wsX1_lay := goodIn_r _ [10, 11, 12, 13, 14, 15, 16, 17, 18, 19, 9, 20, 21, 22, 23, 24, 25, 26, 50, 51, 52, 53, 54, 55, 56] (by decide +kernel) (by decide +kernel)
set_option maxRecDepth 20000 in
theorem gX4_rowIsToldBy_X1_lay : GoodIn wsX4_rowIsToldBy (wsV RX4 111 RX1 yX1_lay wsX1_lay) := goodIn_app (goodIn_of _ (by decide +kernel)) ggX4_rowIsToldBy_X1_lay
set_option maxRecDepth 20000 in
theorem ggX4_rowIsToldBy_X1_tell : GoodIn wsX4_rowIsToldBy wsX1_tell := goodIn_r _ [30, 17, 31, 32, 14, 33, 16, 34, 35, 9, 36, 37, 38, 39, 55, 56] (by decide +kernel) (by decide +kernel)
set_option maxRecDepth 20000 in
theorem gX4_rowIsToldBy_X1_tell : GoodIn wsX4_rowIsToldBy (wsV RX4 118 RX1 yX1_tell wsX1_tell) := goodIn_app (goodIn_of _ (by decide +kernel)) ggX4_rowIsToldBy_X1_tell
theorem dX4_rowIsToldBy_0 : decode cX4_rowIsToldBy 0 = .ok (.iconst 0, 1) := by decide +kernel
theorem dX4_rowIsToldBy_1 : decode cX4_rowIsToldBy 1 = .ok (.istore_n 3, 1) := by decide +kernel
theorem dX4_rowIsToldBy_2 : decode cX4_rowIsToldBy 2 = .ok (.iload_n 3, 1) := by decide +kernel
theorem dX4_rowIsToldBy_3 : decode cX4_rowIsToldBy 3 = .ok (.iconst 2, 1) := by decide +kernel
theorem dX4_rowIsToldBy_4 : decode cX4_rowIsToldBy 4 = .ok (.iadd, 1) := by decide +kernel
theorem dX4_rowIsToldBy_5 : decode cX4_rowIsToldBy 5 = .ok (.aload_n 0, 1) := by decide +kernel
theorem dX4_rowIsToldBy_6 : decode cX4_rowIsToldBy 6 = .ok (.getfield 51, 3) := by decide +kernel
theorem dX4_rowIsToldBy_9 : decode cX4_rowIsToldBy 9 = .ok (.if_icmp .ge 63, 3) := by decide +kernel
theorem dX4_rowIsToldBy_12 : decode cX4_rowIsToldBy 12 = .ok (.aload_n 0, 1) := by decide +kernel
theorem dX4_rowIsToldBy_13 : decode cX4_rowIsToldBy 13 = .ok (.getfield 29, 3) := by decide +kernel
theorem dX4_rowIsToldBy_16 : decode cX4_rowIsToldBy 16 = .ok (.aload_n 0, 1) := by decide +kernel
theorem dX4_rowIsToldBy_17 : decode cX4_rowIsToldBy 17 = .ok (.getfield 10, 3) := by decide +kernel
theorem dX4_rowIsToldBy_20 : decode cX4_rowIsToldBy 20 = .ok (.aload_n 0, 1) := by decide +kernel
theorem dX4_rowIsToldBy_21 : decode cX4_rowIsToldBy 21 = .ok (.getfield 10, 3) := by decide +kernel
theorem dX4_rowIsToldBy_24 : decode cX4_rowIsToldBy 24 = .ok (.getfield 99, 3) := by decide +kernel
theorem dX4_rowIsToldBy_27 : decode cX4_rowIsToldBy 27 = .ok (.aload_n 0, 1) := by decide +kernel
theorem dX4_rowIsToldBy_28 : decode cX4_rowIsToldBy 28 = .ok (.getfield 47, 3) := by decide +kernel
theorem dX4_rowIsToldBy_31 : decode cX4_rowIsToldBy 31 = .ok (.iload_n 3, 1) := by decide +kernel
theorem dX4_rowIsToldBy_32 : decode cX4_rowIsToldBy 32 = .ok (.iaload, 1) := by decide +kernel
theorem dX4_rowIsToldBy_33 : decode cX4_rowIsToldBy 33 = .ok (.invokevirtual 111, 3) := by decide +kernel
theorem dX4_rowIsToldBy_36 : decode cX4_rowIsToldBy 36 = .ok (.aload_n 0, 1) := by decide +kernel
theorem dX4_rowIsToldBy_37 : decode cX4_rowIsToldBy 37 = .ok (.getfield 29, 3) := by decide +kernel
theorem dX4_rowIsToldBy_40 : decode cX4_rowIsToldBy 40 = .ok (.iload_n 1, 1) := by decide +kernel
theorem dX4_rowIsToldBy_41 : decode cX4_rowIsToldBy 41 = .ok (.iload_n 2, 1) := by decide +kernel
theorem dX4_rowIsToldBy_42 : decode cX4_rowIsToldBy 42 = .ok (.aload_n 0, 1) := by decide +kernel
theorem dX4_rowIsToldBy_43 : decode cX4_rowIsToldBy 43 = .ok (.getfield 47, 3) := by decide +kernel
theorem dX4_rowIsToldBy_46 : decode cX4_rowIsToldBy 46 = .ok (.iload_n 3, 1) := by decide +kernel
theorem dX4_rowIsToldBy_47 : decode cX4_rowIsToldBy 47 = .ok (.iconst 1, 1) := by decide +kernel
theorem dX4_rowIsToldBy_48 : decode cX4_rowIsToldBy 48 = .ok (.iadd, 1) := by decide +kernel
theorem dX4_rowIsToldBy_49 : decode cX4_rowIsToldBy 49 = .ok (.iaload, 1) := by decide +kernel
theorem dX4_rowIsToldBy_50 : decode cX4_rowIsToldBy 50 = .ok (.invokevirtual 118, 3) := by decide +kernel
theorem dX4_rowIsToldBy_53 : decode cX4_rowIsToldBy 53 = .ok (.aload_n 0, 1) := by decide +kernel
theorem dX4_rowIsToldBy_54 : decode cX4_rowIsToldBy 54 = .ok (.getfield 47, 3) := by decide +kernel
theorem dX4_rowIsToldBy_57 : decode cX4_rowIsToldBy 57 = .ok (.iload_n 3, 1) := by decide +kernel
theorem dX4_rowIsToldBy_58 : decode cX4_rowIsToldBy 58 = .ok (.iconst 2, 1) := by decide +kernel
theorem dX4_rowIsToldBy_59 : decode cX4_rowIsToldBy 59 = .ok (.iadd, 1) := by decide +kernel
theorem dX4_rowIsToldBy_60 : decode cX4_rowIsToldBy 60 = .ok (.iaload, 1) := by decide +kernel
theorem dX4_rowIsToldBy_61 : decode cX4_rowIsToldBy 61 = .ok (.if_icmp .eq 5, 3) := by decide +kernel
theorem dX4_rowIsToldBy_64 : decode cX4_rowIsToldBy 64 = .ok (.iconst 0, 1) := by decide +kernel
theorem dX4_rowIsToldBy_65 : decode cX4_rowIsToldBy 65 = .ok (.ireturn, 1) := by decide +kernel
theorem dX4_rowIsToldBy_66 : decode cX4_rowIsToldBy 66 = .ok (.iinc 3 3, 3) := by decide +kernel
theorem dX4_rowIsToldBy_69 : decode cX4_rowIsToldBy 69 = .ok (.goto (-67), 3) := by decide +kernel
theorem dX4_rowIsToldBy_72 : decode cX4_rowIsToldBy 72 = .ok (.iconst 1, 1) := by decide +kernel
theorem dX4_rowIsToldBy_73 : decode cX4_rowIsToldBy 73 = .ok (.ireturn, 1) := by decide +kernel
set_option maxRecDepth 20000 in
theorem ggX4_leftBehindTwo_X4_isSecond : GoodIn wsX4_leftBehindTwo wsX4_isSecond := goodIn_r _ [8] (by decide +kernel) (by decide +kernel)
set_option maxRecDepth 20000 in
theorem gX4_leftBehindTwo_X4_isSecond : GoodIn wsX4_leftBehindTwo (va_wsS RX4 80 yX4_isSecond wsX4_isSecond) := goodIn_app (goodIn_of _ (by decide +kernel)) ggX4_leftBehindTwo_X4_isSecond
set_option maxRecDepth 20000 in
theorem ggX4_leftBehindTwo_X0_leftIfTold : GoodIn wsX4_leftBehindTwo wsX0_leftIfTold := goodIn_r _ [13, 14, 15, 16, 17, 18, 19, 20, 21, 22, 23, 24, 25, 26, 27, 28, 29, 30, 31, 32, 33, 34, 35, 36, 37, 38, 39, 40, 41, 42, 43, 44, 45, 46, 47, 48, 49, 50, 51, 62, 63, 64, 65, 66, 67, 68] (by decide +kernel) (by decide +kernel)
set_option maxRecDepth 20000 in
theorem gX4_leftBehindTwo_X0_leftIfTold : GoodIn wsX4_leftBehindTwo (wsV RX4 125 RX0 yX0_leftIfTold wsX0_leftIfTold) := goodIn_app (goodIn_of _ (by decide +kernel)) ggX4_leftBehindTwo_X0_leftIfTold
theorem dX4_leftBehindTwo_0 : decode cX4_leftBehindTwo 0 = .ok (.iload_n 1, 1) := by decide +kernel
theorem dX4_leftBehindTwo_1 : decode cX4_leftBehindTwo 1 = .ok (.ifCond .lt 25, 3) := by decide +kernel
theorem dX4_leftBehindTwo_4 : decode cX4_leftBehindTwo 4 = .ok (.iload_n 1, 1) := by decide +kernel
theorem dX4_leftBehindTwo_5 : decode cX4_leftBehindTwo 5 = .ok (.iconst 1, 1) := by decide +kernel
theorem dX4_leftBehindTwo_6 : decode cX4_leftBehindTwo 6 = .ok (.iadd, 1) := by decide +kernel
theorem dX4_leftBehindTwo_7 : decode cX4_leftBehindTwo 7 = .ok (.aload_n 0, 1) := by decide +kernel
theorem dX4_leftBehindTwo_8 : decode cX4_leftBehindTwo 8 = .ok (.getfield 51, 3) := by decide +kernel
theorem dX4_leftBehindTwo_11 : decode cX4_leftBehindTwo 11 = .ok (.if_icmp .ge 15, 3) := by decide +kernel
theorem dX4_leftBehindTwo_14 : decode cX4_leftBehindTwo 14 = .ok (.aload_n 0, 1) := by decide +kernel
theorem dX4_leftBehindTwo_15 : decode cX4_leftBehindTwo 15 = .ok (.getfield 47, 3) := by decide +kernel
theorem dX4_leftBehindTwo_18 : decode cX4_leftBehindTwo 18 = .ok (.iload_n 1, 1) := by decide +kernel
theorem dX4_leftBehindTwo_19 : decode cX4_leftBehindTwo 19 = .ok (.iaload, 1) := by decide +kernel
theorem dX4_leftBehindTwo_20 : decode cX4_leftBehindTwo 20 = .ok (.invokestatic 80, 3) := by decide +kernel
theorem dX4_leftBehindTwo_23 : decode cX4_leftBehindTwo 23 = .ok (.ifCond .ne 5, 3) := by decide +kernel
theorem dX4_leftBehindTwo_26 : decode cX4_leftBehindTwo 26 = .ok (.lconst 0, 1) := by decide +kernel
theorem dX4_leftBehindTwo_27 : decode cX4_leftBehindTwo 27 = .ok (.lreturn, 1) := by decide +kernel
theorem dX4_leftBehindTwo_28 : decode cX4_leftBehindTwo 28 = .ok (.lload_n 2, 1) := by decide +kernel
theorem dX4_leftBehindTwo_29 : decode cX4_leftBehindTwo 29 = .ok (.aload_n 0, 1) := by decide +kernel
theorem dX4_leftBehindTwo_30 : decode cX4_leftBehindTwo 30 = .ok (.getfield 10, 3) := by decide +kernel
theorem dX4_leftBehindTwo_33 : decode cX4_leftBehindTwo 33 = .ok (.aload_n 0, 1) := by decide +kernel
theorem dX4_leftBehindTwo_34 : decode cX4_leftBehindTwo 34 = .ok (.getfield 29, 3) := by decide +kernel
theorem dX4_leftBehindTwo_37 : decode cX4_leftBehindTwo 37 = .ok (.aload_n 0, 1) := by decide +kernel
theorem dX4_leftBehindTwo_38 : decode cX4_leftBehindTwo 38 = .ok (.getfield 47, 3) := by decide +kernel
theorem dX4_leftBehindTwo_41 : decode cX4_leftBehindTwo 41 = .ok (.iload_n 1, 1) := by decide +kernel
theorem dX4_leftBehindTwo_42 : decode cX4_leftBehindTwo 42 = .ok (.iaload, 1) := by decide +kernel
theorem dX4_leftBehindTwo_43 : decode cX4_leftBehindTwo 43 = .ok (.aload_n 0, 1) := by decide +kernel
theorem dX4_leftBehindTwo_44 : decode cX4_leftBehindTwo 44 = .ok (.getfield 47, 3) := by decide +kernel
theorem dX4_leftBehindTwo_47 : decode cX4_leftBehindTwo 47 = .ok (.iload_n 1, 1) := by decide +kernel
theorem dX4_leftBehindTwo_48 : decode cX4_leftBehindTwo 48 = .ok (.iconst 1, 1) := by decide +kernel
theorem dX4_leftBehindTwo_49 : decode cX4_leftBehindTwo 49 = .ok (.iadd, 1) := by decide +kernel
theorem dX4_leftBehindTwo_50 : decode cX4_leftBehindTwo 50 = .ok (.iaload, 1) := by decide +kernel
theorem dX4_leftBehindTwo_51 : decode cX4_leftBehindTwo 51 = .ok (.invokevirtual 125, 3) := by decide +kernel
theorem dX4_leftBehindTwo_54 : decode cX4_leftBehindTwo 54 = .ok (.land, 1) := by decide +kernel
theorem dX4_leftBehindTwo_55 : decode cX4_leftBehindTwo 55 = .ok (.lreturn, 1) := by decide +kernel
theorem dX4_isSecond_0 : decode cX4_isSecond 0 = .ok (.iload_n 0, 1) := by decide +kernel
theorem dX4_isSecond_1 : decode cX4_isSecond 1 = .ok (.iconst 1, 1) := by decide +kernel
theorem dX4_isSecond_2 : decode cX4_isSecond 2 = .ok (.if_icmp .lt 13, 3) := by decide +kernel
theorem dX4_isSecond_5 : decode cX4_isSecond 5 = .ok (.iload_n 0, 1) := by decide +kernel
theorem dX4_isSecond_6 : decode cX4_isSecond 6 = .ok (.bipush 40, 2) := by decide +kernel
theorem dX4_isSecond_8 : decode cX4_isSecond 8 = .ok (.if_icmp .gt 7, 3) := by decide +kernel
theorem dX4_isSecond_11 : decode cX4_isSecond 11 = .ok (.iconst 1, 1) := by decide +kernel
theorem dX4_isSecond_12 : decode cX4_isSecond 12 = .ok (.goto 4, 3) := by decide +kernel
theorem dX4_isSecond_15 : decode cX4_isSecond 15 = .ok (.iconst 0, 1) := by decide +kernel
theorem dX4_isSecond_16 : decode cX4_isSecond 16 = .ok (.ireturn, 1) := by decide +kernel
theorem dX4_isStripKind_0 : decode cX4_isStripKind 0 = .ok (.iload_n 0, 1) := by decide +kernel
theorem dX4_isStripKind_1 : decode cX4_isStripKind 1 = .ok (.ifCond .lt 12, 3) := by decide +kernel
theorem dX4_isStripKind_4 : decode cX4_isStripKind 4 = .ok (.iload_n 0, 1) := by decide +kernel
theorem dX4_isStripKind_5 : decode cX4_isStripKind 5 = .ok (.iconst 4, 1) := by decide +kernel
theorem dX4_isStripKind_6 : decode cX4_isStripKind 6 = .ok (.if_icmp .ge 7, 3) := by decide +kernel
theorem dX4_isStripKind_9 : decode cX4_isStripKind 9 = .ok (.iconst 1, 1) := by decide +kernel
theorem dX4_isStripKind_10 : decode cX4_isStripKind 10 = .ok (.goto 4, 3) := by decide +kernel
theorem dX4_isStripKind_13 : decode cX4_isStripKind 13 = .ok (.iconst 0, 1) := by decide +kernel
theorem dX4_isStripKind_14 : decode cX4_isStripKind 14 = .ok (.ireturn, 1) := by decide +kernel
theorem dX4_isEyeKind_0 : decode cX4_isEyeKind 0 = .ok (.iload_n 0, 1) := by decide +kernel
theorem dX4_isEyeKind_1 : decode cX4_isEyeKind 1 = .ok (.ifCond .lt 12, 3) := by decide +kernel
theorem dX4_isEyeKind_4 : decode cX4_isEyeKind 4 = .ok (.iload_n 0, 1) := by decide +kernel
theorem dX4_isEyeKind_5 : decode cX4_isEyeKind 5 = .ok (.iconst 5, 1) := by decide +kernel
theorem dX4_isEyeKind_6 : decode cX4_isEyeKind 6 = .ok (.if_icmp .ge 7, 3) := by decide +kernel
theorem dX4_isEyeKind_9 : decode cX4_isEyeKind 9 = .ok (.iconst 1, 1) := by decide +kernel
theorem dX4_isEyeKind_10 : decode cX4_isEyeKind 10 = .ok (.goto 4, 3) := by decide +kernel
theorem dX4_isEyeKind_13 : decode cX4_isEyeKind 13 = .ok (.iconst 0, 1) := by decide +kernel
theorem dX4_isEyeKind_14 : decode cX4_isEyeKind 14 = .ok (.ireturn, 1) := by decide +kernel
theorem dX4_isPart_0 : decode cX4_isPart 0 = .ok (.iload_n 0, 1) := by decide +kernel
theorem dX4_isPart_1 : decode cX4_isPart 1 = .ok (.ifCond .eq 8, 3) := by decide +kernel
theorem dX4_isPart_4 : decode cX4_isPart 4 = .ok (.iload_n 0, 1) := by decide +kernel
theorem dX4_isPart_5 : decode cX4_isPart 5 = .ok (.iconst 1, 1) := by decide +kernel
theorem dX4_isPart_6 : decode cX4_isPart 6 = .ok (.if_icmp .ne 7, 3) := by decide +kernel
theorem dX4_isPart_9 : decode cX4_isPart 9 = .ok (.iconst 1, 1) := by decide +kernel
theorem dX4_isPart_10 : decode cX4_isPart 10 = .ok (.goto 4, 3) := by decide +kernel
theorem dX4_isPart_13 : decode cX4_isPart 13 = .ok (.iconst 0, 1) := by decide +kernel
theorem dX4_isPart_14 : decode cX4_isPart 14 = .ok (.ireturn, 1) := by decide +kernel
theorem dX4_isMeasure_0 : decode cX4_isMeasure 0 = .ok (.iload_n 0, 1) := by decide +kernel
theorem dX4_isMeasure_1 : decode cX4_isMeasure 1 = .ok (.ifCond .lt 12, 3) := by decide +kernel
theorem dX4_isMeasure_4 : decode cX4_isMeasure 4 = .ok (.iload_n 0, 1) := by decide +kernel
theorem dX4_isMeasure_5 : decode cX4_isMeasure 5 = .ok (.iconst 2, 1) := by decide +kernel
theorem dX4_isMeasure_6 : decode cX4_isMeasure 6 = .ok (.if_icmp .gt 7, 3) := by decide +kernel
theorem dX4_isMeasure_9 : decode cX4_isMeasure 9 = .ok (.iconst 1, 1) := by decide +kernel
theorem dX4_isMeasure_10 : decode cX4_isMeasure 10 = .ok (.goto 4, 3) := by decide +kernel
theorem dX4_isMeasure_13 : decode cX4_isMeasure 13 = .ok (.iconst 0, 1) := by decide +kernel
theorem dX4_isMeasure_14 : decode cX4_isMeasure 14 = .ok (.ireturn, 1) := by decide +kernel
theorem dX4_holds_0 : decode cX4_holds 0 = .ok (.lload_n 0, 1) := by decide +kernel
theorem dX4_holds_1 : decode cX4_holds 1 = .ok (.iload_n 2, 1) := by decide +kernel
theorem dX4_holds_2 : decode cX4_holds 2 = .ok (.lshr, 1) := by decide +kernel
theorem dX4_holds_3 : decode cX4_holds 3 = .ok (.lconst 1, 1) := by decide +kernel
theorem dX4_holds_4 : decode cX4_holds 4 = .ok (.land, 1) := by decide +kernel
theorem dX4_holds_5 : decode cX4_holds 5 = .ok (.lconst 0, 1) := by decide +kernel
theorem dX4_holds_6 : decode cX4_holds 6 = .ok (.lcmp, 1) := by decide +kernel
theorem dX4_holds_7 : decode cX4_holds 7 = .ok (.ifCond .eq 7, 3) := by decide +kernel
theorem dX4_holds_10 : decode cX4_holds 10 = .ok (.iconst 1, 1) := by decide +kernel
theorem dX4_holds_11 : decode cX4_holds 11 = .ok (.goto 4, 3) := by decide +kernel
theorem dX4_holds_14 : decode cX4_holds 14 = .ok (.iconst 0, 1) := by decide +kernel
theorem dX4_holds_15 : decode cX4_holds 15 = .ok (.ireturn, 1) := by decide +kernel
set_option maxRecDepth 20000 in
theorem ggX4_size_J13_bitCount_95d88 : GoodIn wsX4_size wsJ13_bitCount_95d88 := goodIn_r _ [4, 5, 6, 7] (by decide +kernel) (by decide +kernel)
set_option maxRecDepth 20000 in
theorem gX4_size_J13_bitCount_95d88 : GoodIn wsX4_size (va_wsS RX4 245 yJ13_bitCount_95d88 wsJ13_bitCount_95d88) := goodIn_app (goodIn_of _ (by decide +kernel)) ggX4_size_J13_bitCount_95d88
theorem dX4_size_0 : decode cX4_size 0 = .ok (.lload_n 0, 1) := by decide +kernel
theorem dX4_size_1 : decode cX4_size 1 = .ok (.invokestatic 245, 3) := by decide +kernel
theorem dX4_size_4 : decode cX4_size 4 = .ok (.ireturn, 1) := by decide +kernel
set_option maxRecDepth 20000 in
theorem ggX4_shortestOf_X4_holds : GoodIn wsX4_shortestOf wsX4_holds := goodIn_r _ [4] (by decide +kernel) (by decide +kernel)
set_option maxRecDepth 20000 in
theorem gX4_shortestOf_X4_holds : GoodIn wsX4_shortestOf (va_wsS RX4 190 yX4_holds wsX4_holds) := goodIn_app (goodIn_of _ (by decide +kernel)) ggX4_shortestOf_X4_holds
theorem dX4_shortestOf_0 : decode cX4_shortestOf 0 = .ok (.iconst 1, 1) := by decide +kernel
theorem dX4_shortestOf_1 : decode cX4_shortestOf 1 = .ok (.istore_n 2, 1) := by decide +kernel
theorem dX4_shortestOf_2 : decode cX4_shortestOf 2 = .ok (.iload_n 2, 1) := by decide +kernel
theorem dX4_shortestOf_3 : decode cX4_shortestOf 3 = .ok (.bipush 40, 2) := by decide +kernel
theorem dX4_shortestOf_5 : decode cX4_shortestOf 5 = .ok (.if_icmp .gt 19, 3) := by decide +kernel
theorem dX4_shortestOf_8 : decode cX4_shortestOf 8 = .ok (.lload_n 0, 1) := by decide +kernel
theorem dX4_shortestOf_9 : decode cX4_shortestOf 9 = .ok (.iload_n 2, 1) := by decide +kernel
theorem dX4_shortestOf_10 : decode cX4_shortestOf 10 = .ok (.invokestatic 190, 3) := by decide +kernel
theorem dX4_shortestOf_13 : decode cX4_shortestOf 13 = .ok (.ifCond .eq 5, 3) := by decide +kernel
theorem dX4_shortestOf_16 : decode cX4_shortestOf 16 = .ok (.iload_n 2, 1) := by decide +kernel
theorem dX4_shortestOf_17 : decode cX4_shortestOf 17 = .ok (.ireturn, 1) := by decide +kernel
theorem dX4_shortestOf_18 : decode cX4_shortestOf 18 = .ok (.iinc 2 1, 3) := by decide +kernel
theorem dX4_shortestOf_21 : decode cX4_shortestOf 21 = .ok (.goto (-19), 3) := by decide +kernel
theorem dX4_shortestOf_24 : decode cX4_shortestOf 24 = .ok (.bipush (-9), 2) := by decide +kernel
theorem dX4_shortestOf_26 : decode cX4_shortestOf 26 = .ok (.ireturn, 1) := by decide +kernel
set_option maxRecDepth 20000 in
theorem ggX4_longestOf_X4_holds : GoodIn wsX4_longestOf wsX4_holds := goodIn_r _ [4] (by decide +kernel) (by decide +kernel)
set_option maxRecDepth 20000 in
theorem gX4_longestOf_X4_holds : GoodIn wsX4_longestOf (va_wsS RX4 190 yX4_holds wsX4_holds) := goodIn_app (goodIn_of _ (by decide +kernel)) ggX4_longestOf_X4_holds
theorem dX4_longestOf_0 : decode cX4_longestOf 0 = .ok (.bipush 40, 2) := by decide +kernel
theorem dX4_longestOf_2 : decode cX4_longestOf 2 = .ok (.istore_n 2, 1) := by decide +kernel
theorem dX4_longestOf_3 : decode cX4_longestOf 3 = .ok (.iload_n 2, 1) := by decide +kernel
theorem dX4_longestOf_4 : decode cX4_longestOf 4 = .ok (.iconst 1, 1) := by decide +kernel
theorem dX4_longestOf_5 : decode cX4_longestOf 5 = .ok (.if_icmp .lt 19, 3) := by decide +kernel
theorem dX4_longestOf_8 : decode cX4_longestOf 8 = .ok (.lload_n 0, 1) := by decide +kernel
theorem dX4_longestOf_9 : decode cX4_longestOf 9 = .ok (.iload_n 2, 1) := by decide +kernel
theorem dX4_longestOf_10 : decode cX4_longestOf 10 = .ok (.invokestatic 190, 3) := by decide +kernel
theorem dX4_longestOf_13 : decode cX4_longestOf 13 = .ok (.ifCond .eq 5, 3) := by decide +kernel
theorem dX4_longestOf_16 : decode cX4_longestOf 16 = .ok (.iload_n 2, 1) := by decide +kernel
theorem dX4_longestOf_17 : decode cX4_longestOf 17 = .ok (.ireturn, 1) := by decide +kernel
theorem dX4_longestOf_18 : decode cX4_longestOf 18 = .ok (.iinc 2 (-1), 3) := by decide +kernel
theorem dX4_longestOf_21 : decode cX4_longestOf 21 = .ok (.goto (-18), 3) := by decide +kernel
theorem dX4_longestOf_24 : decode cX4_longestOf 24 = .ok (.bipush (-9), 2) := by decide +kernel
theorem dX4_longestOf_26 : decode cX4_longestOf 26 = .ok (.ireturn, 1) := by decide +kernel
set_option maxRecDepth 20000 in
theorem ggX4_fraction_X4_commonDivisor : GoodIn wsX4_fraction wsX4_commonDivisor := goodIn_r _ [4] (by decide +kernel) (by decide +kernel)
set_option maxRecDepth 20000 in
theorem gX4_fraction_X4_commonDivisor : GoodIn wsX4_fraction (va_wsS RX4 250 yX4_commonDivisor wsX4_commonDivisor) := goodIn_app (goodIn_of _ (by decide +kernel)) ggX4_fraction_X4_commonDivisor
theorem dX4_fraction_0 : decode cX4_fraction 0 = .ok (.lload_n 0, 1) := by decide +kernel
theorem dX4_fraction_1 : decode cX4_fraction 1 = .ok (.lload_n 2, 1) := by decide +kernel
theorem dX4_fraction_2 : decode cX4_fraction 2 = .ok (.invokestatic 250, 3) := by decide +kernel
theorem dX4_fraction_5 : decode cX4_fraction 5 = .ok (.lstore 5, 2) := by decide +kernel
theorem dX4_fraction_7 : decode cX4_fraction 7 = .ok (.lload_n 2, 1) := by decide +kernel
theorem dX4_fraction_8 : decode cX4_fraction 8 = .ok (.lconst 0, 1) := by decide +kernel
theorem dX4_fraction_9 : decode cX4_fraction 9 = .ok (.lcmp, 1) := by decide +kernel
theorem dX4_fraction_10 : decode cX4_fraction 10 = .ok (.ifCond .le 10, 3) := by decide +kernel
theorem dX4_fraction_13 : decode cX4_fraction 13 = .ok (.lload 5, 2) := by decide +kernel
theorem dX4_fraction_15 : decode cX4_fraction 15 = .ok (.lconst 0, 1) := by decide +kernel
theorem dX4_fraction_16 : decode cX4_fraction 16 = .ok (.lcmp, 1) := by decide +kernel
theorem dX4_fraction_17 : decode cX4_fraction 17 = .ok (.ifCond .gt 14, 3) := by decide +kernel
theorem dX4_fraction_20 : decode cX4_fraction 20 = .ok (.iload 4, 2) := by decide +kernel
theorem dX4_fraction_22 : decode cX4_fraction 22 = .ok (.ifCond .ne 7, 3) := by decide +kernel
theorem dX4_fraction_25 : decode cX4_fraction 25 = .ok (.lconst 0, 1) := by decide +kernel
theorem dX4_fraction_26 : decode cX4_fraction 26 = .ok (.goto 4, 3) := by decide +kernel
theorem dX4_fraction_29 : decode cX4_fraction 29 = .ok (.lconst 1, 1) := by decide +kernel
theorem dX4_fraction_30 : decode cX4_fraction 30 = .ok (.lreturn, 1) := by decide +kernel
theorem dX4_fraction_31 : decode cX4_fraction 31 = .ok (.iload 4, 2) := by decide +kernel
theorem dX4_fraction_33 : decode cX4_fraction 33 = .ok (.ifCond .ne 7, 3) := by decide +kernel
theorem dX4_fraction_36 : decode cX4_fraction 36 = .ok (.lload_n 0, 1) := by decide +kernel
theorem dX4_fraction_37 : decode cX4_fraction 37 = .ok (.goto 4, 3) := by decide +kernel
theorem dX4_fraction_40 : decode cX4_fraction 40 = .ok (.lload_n 2, 1) := by decide +kernel
theorem dX4_fraction_41 : decode cX4_fraction 41 = .ok (.lload 5, 2) := by decide +kernel
theorem dX4_fraction_43 : decode cX4_fraction 43 = .ok (.ldiv, 1) := by decide +kernel
theorem dX4_fraction_44 : decode cX4_fraction 44 = .ok (.lreturn, 1) := by decide +kernel
theorem dX4_commonDivisor_0 : decode cX4_commonDivisor 0 = .ok (.lload_n 0, 1) := by decide +kernel
theorem dX4_commonDivisor_1 : decode cX4_commonDivisor 1 = .ok (.lstore 4, 2) := by decide +kernel
theorem dX4_commonDivisor_3 : decode cX4_commonDivisor 3 = .ok (.lload_n 2, 1) := by decide +kernel
theorem dX4_commonDivisor_4 : decode cX4_commonDivisor 4 = .ok (.lstore 6, 2) := by decide +kernel
theorem dX4_commonDivisor_6 : decode cX4_commonDivisor 6 = .ok (.iconst 0, 1) := by decide +kernel
theorem dX4_commonDivisor_7 : decode cX4_commonDivisor 7 = .ok (.istore 8, 2) := by decide +kernel
theorem dX4_commonDivisor_9 : decode cX4_commonDivisor 9 = .ok (.iload 8, 2) := by decide +kernel
theorem dX4_commonDivisor_11 : decode cX4_commonDivisor 11 = .ok (.bipush 100, 2) := by decide +kernel
theorem dX4_commonDivisor_13 : decode cX4_commonDivisor 13 = .ok (.if_icmp .ge 31, 3) := by decide +kernel
theorem dX4_commonDivisor_16 : decode cX4_commonDivisor 16 = .ok (.lload 6, 2) := by decide +kernel
theorem dX4_commonDivisor_18 : decode cX4_commonDivisor 18 = .ok (.lconst 0, 1) := by decide +kernel
theorem dX4_commonDivisor_19 : decode cX4_commonDivisor 19 = .ok (.lcmp, 1) := by decide +kernel
theorem dX4_commonDivisor_20 : decode cX4_commonDivisor 20 = .ok (.ifCond .eq 24, 3) := by decide +kernel
theorem dX4_commonDivisor_23 : decode cX4_commonDivisor 23 = .ok (.lload 4, 2) := by decide +kernel
theorem dX4_commonDivisor_25 : decode cX4_commonDivisor 25 = .ok (.lload 6, 2) := by decide +kernel
theorem dX4_commonDivisor_27 : decode cX4_commonDivisor 27 = .ok (.lrem, 1) := by decide +kernel
theorem dX4_commonDivisor_28 : decode cX4_commonDivisor 28 = .ok (.lstore 9, 2) := by decide +kernel
theorem dX4_commonDivisor_30 : decode cX4_commonDivisor 30 = .ok (.lload 6, 2) := by decide +kernel
theorem dX4_commonDivisor_32 : decode cX4_commonDivisor 32 = .ok (.lstore 4, 2) := by decide +kernel
theorem dX4_commonDivisor_34 : decode cX4_commonDivisor 34 = .ok (.lload 9, 2) := by decide +kernel
theorem dX4_commonDivisor_36 : decode cX4_commonDivisor 36 = .ok (.lstore 6, 2) := by decide +kernel
theorem dX4_commonDivisor_38 : decode cX4_commonDivisor 38 = .ok (.iinc 8 1, 3) := by decide +kernel
theorem dX4_commonDivisor_41 : decode cX4_commonDivisor 41 = .ok (.goto (-32), 3) := by decide +kernel
theorem dX4_commonDivisor_44 : decode cX4_commonDivisor 44 = .ok (.lload 4, 2) := by decide +kernel
theorem dX4_commonDivisor_46 : decode cX4_commonDivisor 46 = .ok (.lreturn, 1) := by decide +kernel
theorem dX5_no_0 : decode cX5_no 0 = .ok (.aload_n 0, 1) := by decide +kernel
theorem dX5_no_1 : decode cX5_no 1 = .ok (.getfield 1, 3) := by decide +kernel
theorem dX5_no_4 : decode cX5_no 4 = .ok (.iload_n 1, 1) := by decide +kernel
theorem dX5_no_5 : decode cX5_no 5 = .ok (.ineg, 1) := by decide +kernel
theorem dX5_no_6 : decode cX5_no 6 = .ok (.dup2, 1) := by decide +kernel
theorem dX5_no_7 : decode cX5_no 7 = .ok (.iaload, 1) := by decide +kernel
theorem dX5_no_8 : decode cX5_no 8 = .ok (.iconst 1, 1) := by decide +kernel
theorem dX5_no_9 : decode cX5_no 9 = .ok (.iadd, 1) := by decide +kernel
theorem dX5_no_10 : decode cX5_no 10 = .ok (.iastore, 1) := by decide +kernel
theorem dX5_no_11 : decode cX5_no 11 = .ok (.iload_n 1, 1) := by decide +kernel
theorem dX5_no_12 : decode cX5_no 12 = .ok (.ireturn, 1) := by decide +kernel
set_option maxRecDepth 20000 in
theorem ggX5_noLong_X5_no : GoodIn wsX5_noLong wsX5_no := goodIn_r _ [6, 7, 8, 9, 10, 11, 12, 13, 14, 15, 16, 17, 18, 19, 20, 21, 22, 23, 24, 25, 26, 27] (by decide +kernel) (by decide +kernel)
set_option maxRecDepth 20000 in
theorem gX5_noLong_X5_no : GoodIn wsX5_noLong (wsV RX5 9 RX5 yX5_no wsX5_no) := goodIn_app (goodIn_of _ (by decide +kernel)) ggX5_noLong_X5_no
theorem dX5_noLong_0 : decode cX5_noLong 0 = .ok (.ldc2_w 7, 3) := by decide +kernel
theorem dX5_noLong_3 : decode cX5_noLong 3 = .ok (.aload_n 0, 1) := by decide +kernel
theorem dX5_noLong_4 : decode cX5_noLong 4 = .ok (.iload_n 1, 1) := by decide +kernel
theorem dX5_noLong_5 : decode cX5_noLong 5 = .ok (.invokevirtual 9, 3) := by decide +kernel
theorem dX5_noLong_8 : decode cX5_noLong 8 = .ok (.i2l, 1) := by decide +kernel
theorem dX5_noLong_9 : decode cX5_noLong 9 = .ok (.lsub, 1) := by decide +kernel
theorem dX5_noLong_10 : decode cX5_noLong 10 = .ok (.lreturn, 1) := by decide +kernel
theorem dX5_init_0 : decode cX5_init 0 = .ok (.aload_n 0, 1) := by decide +kernel
theorem dX5_init_1 : decode cX5_init 1 = .ok (.invokespecial 13, 3) := by decide +kernel
theorem dX5_init_4 : decode cX5_init 4 = .ok (.aload_n 0, 1) := by decide +kernel
theorem dX5_init_5 : decode cX5_init 5 = .ok (.bipush 7, 2) := by decide +kernel
theorem dX5_init_7 : decode cX5_init 7 = .ok (.newarray .int, 2) := by decide +kernel
theorem dX5_init_9 : decode cX5_init 9 = .ok (.putfield 1, 3) := by decide +kernel
theorem dX5_init_12 : decode cX5_init 12 = .ok (.aload_n 0, 1) := by decide +kernel
theorem dX5_init_13 : decode cX5_init 13 = .ok (.bipush 49, 2) := by decide +kernel
theorem dX5_init_15 : decode cX5_init 15 = .ok (.newarray .int, 2) := by decide +kernel
theorem dX5_init_17 : decode cX5_init 17 = .ok (.putfield 19, 3) := by decide +kernel
theorem dX5_init_20 : decode cX5_init 20 = .ok (.aload_n 0, 1) := by decide +kernel
theorem dX5_init_21 : decode cX5_init 21 = .ok (.bipush 49, 2) := by decide +kernel
theorem dX5_init_23 : decode cX5_init 23 = .ok (.newarray .int, 2) := by decide +kernel
theorem dX5_init_25 : decode cX5_init 25 = .ok (.putfield 22, 3) := by decide +kernel
theorem dX5_init_28 : decode cX5_init 28 = .ok (.aload_n 0, 1) := by decide +kernel
theorem dX5_init_29 : decode cX5_init 29 = .ok (.bipush 41, 2) := by decide +kernel
theorem dX5_init_31 : decode cX5_init 31 = .ok (.newarray .int, 2) := by decide +kernel
theorem dX5_init_33 : decode cX5_init 33 = .ok (.putfield 25, 3) := by decide +kernel
theorem dX5_init_36 : decode cX5_init 36 = .ok (.aload_n 0, 1) := by decide +kernel
theorem dX5_init_37 : decode cX5_init 37 = .ok (.bipush 9, 2) := by decide +kernel
theorem dX5_init_39 : decode cX5_init 39 = .ok (.newarray .int, 2) := by decide +kernel
theorem dX5_init_41 : decode cX5_init 41 = .ok (.putfield 28, 3) := by decide +kernel
theorem dX5_init_44 : decode cX5_init 44 = .ok (.aload_n 0, 1) := by decide +kernel
theorem dX5_init_45 : decode cX5_init 45 = .ok (.bipush 9, 2) := by decide +kernel
theorem dX5_init_47 : decode cX5_init 47 = .ok (.newarray .int, 2) := by decide +kernel
theorem dX5_init_49 : decode cX5_init 49 = .ok (.putfield 31, 3) := by decide +kernel
theorem dX5_init_52 : decode cX5_init 52 = .ok (.aload_n 0, 1) := by decide +kernel
theorem dX5_init_53 : decode cX5_init 53 = .ok (.bipush 49, 2) := by decide +kernel
theorem dX5_init_55 : decode cX5_init 55 = .ok (.newarray .int, 2) := by decide +kernel
theorem dX5_init_57 : decode cX5_init 57 = .ok (.putfield 34, 3) := by decide +kernel
theorem dX5_init_60 : decode cX5_init 60 = .ok (.aload_n 0, 1) := by decide +kernel
theorem dX5_init_61 : decode cX5_init 61 = .ok (.bipush 12, 2) := by decide +kernel
theorem dX5_init_63 : decode cX5_init 63 = .ok (.newarray .int, 2) := by decide +kernel
theorem dX5_init_65 : decode cX5_init 65 = .ok (.putfield 37, 3) := by decide +kernel
theorem dX5_init_68 : decode cX5_init 68 = .ok (.aload_n 0, 1) := by decide +kernel
theorem dX5_init_69 : decode cX5_init 69 = .ok (.bipush 96, 2) := by decide +kernel
theorem dX5_init_71 : decode cX5_init 71 = .ok (.newarray .int, 2) := by decide +kernel
theorem dX5_init_73 : decode cX5_init 73 = .ok (.putfield 40, 3) := by decide +kernel
theorem dX5_init_76 : decode cX5_init 76 = .ok (.aload_n 0, 1) := by decide +kernel
theorem dX5_init_77 : decode cX5_init 77 = .ok (.bipush 6, 2) := by decide +kernel
theorem dX5_init_79 : decode cX5_init 79 = .ok (.newarray .char, 2) := by decide +kernel
theorem dX5_init_81 : decode cX5_init 81 = .ok (.dup, 1) := by decide +kernel
theorem dX5_init_82 : decode cX5_init 82 = .ok (.iconst 0, 1) := by decide +kernel
theorem dX5_init_83 : decode cX5_init 83 = .ok (.bipush 108, 2) := by decide +kernel
theorem dX5_init_85 : decode cX5_init 85 = .ok (.castore, 1) := by decide +kernel
theorem dX5_init_86 : decode cX5_init 86 = .ok (.dup, 1) := by decide +kernel
theorem dX5_init_87 : decode cX5_init 87 = .ok (.iconst 1, 1) := by decide +kernel
theorem dX5_init_88 : decode cX5_init 88 = .ok (.bipush 98, 2) := by decide +kernel
theorem dX5_init_90 : decode cX5_init 90 = .ok (.castore, 1) := by decide +kernel
theorem dX5_init_91 : decode cX5_init 91 = .ok (.dup, 1) := by decide +kernel
theorem dX5_init_92 : decode cX5_init 92 = .ok (.iconst 2, 1) := by decide +kernel
theorem dX5_init_93 : decode cX5_init 93 = .ok (.bipush 115, 2) := by decide +kernel
theorem dX5_init_95 : decode cX5_init 95 = .ok (.castore, 1) := by decide +kernel
theorem dX5_init_96 : decode cX5_init 96 = .ok (.dup, 1) := by decide +kernel
theorem dX5_init_97 : decode cX5_init 97 = .ok (.iconst 3, 1) := by decide +kernel
theorem dX5_init_98 : decode cX5_init 98 = .ok (.bipush 101, 2) := by decide +kernel
theorem dX5_init_100 : decode cX5_init 100 = .ok (.castore, 1) := by decide +kernel
theorem dX5_init_101 : decode cX5_init 101 = .ok (.dup, 1) := by decide +kernel
theorem dX5_init_102 : decode cX5_init 102 = .ok (.iconst 4, 1) := by decide +kernel
theorem dX5_init_103 : decode cX5_init 103 = .ok (.bipush 112, 2) := by decide +kernel
theorem dX5_init_105 : decode cX5_init 105 = .ok (.castore, 1) := by decide +kernel
theorem dX5_init_106 : decode cX5_init 106 = .ok (.dup, 1) := by decide +kernel
theorem dX5_init_107 : decode cX5_init 107 = .ok (.iconst 5, 1) := by decide +kernel
theorem dX5_init_108 : decode cX5_init 108 = .ok (.bipush 116, 2) := by decide +kernel
theorem dX5_init_110 : decode cX5_init 110 = .ok (.castore, 1) := by decide +kernel
theorem dX5_init_111 : decode cX5_init 111 = .ok (.putfield 43, 3) := by decide +kernel
theorem dX5_init_114 : decode cX5_init 114 = .ok (.aload_n 0, 1) := by decide +kernel
theorem dX5_init_115 : decode cX5_init 115 = .ok (.iconst 4, 1) := by decide +kernel
theorem dX5_init_116 : decode cX5_init 116 = .ok (.newarray .char, 2) := by decide +kernel
theorem dX5_init_118 : decode cX5_init 118 = .ok (.dup, 1) := by decide +kernel
theorem dX5_init_119 : decode cX5_init 119 = .ok (.iconst 0, 1) := by decide +kernel
theorem dX5_init_120 : decode cX5_init 120 = .ok (.bipush 97, 2) := by decide +kernel
theorem dX5_init_122 : decode cX5_init 122 = .ok (.castore, 1) := by decide +kernel
theorem dX5_init_123 : decode cX5_init 123 = .ok (.dup, 1) := by decide +kernel
theorem dX5_init_124 : decode cX5_init 124 = .ok (.iconst 1, 1) := by decide +kernel
theorem dX5_init_125 : decode cX5_init 125 = .ok (.bipush 100, 2) := by decide +kernel
theorem dX5_init_127 : decode cX5_init 127 = .ok (.castore, 1) := by decide +kernel
theorem dX5_init_128 : decode cX5_init 128 = .ok (.dup, 1) := by decide +kernel
theorem dX5_init_129 : decode cX5_init 129 = .ok (.iconst 2, 1) := by decide +kernel
theorem dX5_init_130 : decode cX5_init 130 = .ok (.bipush 104, 2) := by decide +kernel
theorem dX5_init_132 : decode cX5_init 132 = .ok (.castore, 1) := by decide +kernel
theorem dX5_init_133 : decode cX5_init 133 = .ok (.dup, 1) := by decide +kernel
theorem dX5_init_134 : decode cX5_init 134 = .ok (.iconst 3, 1) := by decide +kernel
theorem dX5_init_135 : decode cX5_init 135 = .ok (.bipush 98, 2) := by decide +kernel
theorem dX5_init_137 : decode cX5_init 137 = .ok (.castore, 1) := by decide +kernel
theorem dX5_init_138 : decode cX5_init 138 = .ok (.putfield 47, 3) := by decide +kernel
theorem dX5_init_141 : decode cX5_init 141 = .ok (.aload_n 0, 1) := by decide +kernel
theorem dX5_init_142 : decode cX5_init 142 = .ok (.iconst 5, 1) := by decide +kernel
theorem dX5_init_143 : decode cX5_init 143 = .ok (.newarray .char, 2) := by decide +kernel
theorem dX5_init_145 : decode cX5_init 145 = .ok (.dup, 1) := by decide +kernel
theorem dX5_init_146 : decode cX5_init 146 = .ok (.iconst 0, 1) := by decide +kernel
theorem dX5_init_147 : decode cX5_init 147 = .ok (.bipush 101, 2) := by decide +kernel
theorem dX5_init_149 : decode cX5_init 149 = .ok (.castore, 1) := by decide +kernel
theorem dX5_init_150 : decode cX5_init 150 = .ok (.dup, 1) := by decide +kernel
theorem dX5_init_151 : decode cX5_init 151 = .ok (.iconst 1, 1) := by decide +kernel
theorem dX5_init_152 : decode cX5_init 152 = .ok (.bipush 119, 2) := by decide +kernel
theorem dX5_init_154 : decode cX5_init 154 = .ok (.castore, 1) := by decide +kernel
theorem dX5_init_155 : decode cX5_init 155 = .ok (.dup, 1) := by decide +kernel
theorem dX5_init_156 : decode cX5_init 156 = .ok (.iconst 2, 1) := by decide +kernel
theorem dX5_init_157 : decode cX5_init 157 = .ok (.bipush 100, 2) := by decide +kernel
theorem dX5_init_159 : decode cX5_init 159 = .ok (.castore, 1) := by decide +kernel
theorem dX5_init_160 : decode cX5_init 160 = .ok (.dup, 1) := by decide +kernel
theorem dX5_init_161 : decode cX5_init 161 = .ok (.iconst 3, 1) := by decide +kernel
theorem dX5_init_162 : decode cX5_init 162 = .ok (.bipush 115, 2) := by decide +kernel
theorem dX5_init_164 : decode cX5_init 164 = .ok (.castore, 1) := by decide +kernel
theorem dX5_init_165 : decode cX5_init 165 = .ok (.dup, 1) := by decide +kernel
theorem dX5_init_166 : decode cX5_init 166 = .ok (.iconst 4, 1) := by decide +kernel
theorem dX5_init_167 : decode cX5_init 167 = .ok (.bipush 99, 2) := by decide +kernel
theorem dX5_init_169 : decode cX5_init 169 = .ok (.castore, 1) := by decide +kernel
theorem dX5_init_170 : decode cX5_init 170 = .ok (.putfield 50, 3) := by decide +kernel
theorem dX5_init_173 : decode cX5_init 173 = .ok (.aload_n 0, 1) := by decide +kernel
theorem dX5_init_174 : decode cX5_init 174 = .ok (.iconst 3, 1) := by decide +kernel
theorem dX5_init_175 : decode cX5_init 175 = .ok (.newarray .int, 2) := by decide +kernel
theorem dX5_init_177 : decode cX5_init 177 = .ok (.putfield 53, 3) := by decide +kernel
theorem dX5_init_180 : decode cX5_init 180 = .ok (.aload_n 0, 1) := by decide +kernel
theorem dX5_init_181 : decode cX5_init 181 = .ok (.bipush 49, 2) := by decide +kernel
theorem dX5_init_183 : decode cX5_init 183 = .ok (.newarray .int, 2) := by decide +kernel
theorem dX5_init_185 : decode cX5_init 185 = .ok (.putfield 56, 3) := by decide +kernel
theorem dX5_init_188 : decode cX5_init 188 = .ok (.iconst 1, 1) := by decide +kernel
theorem dX5_init_189 : decode cX5_init 189 = .ok (.istore_n 1, 1) := by decide +kernel
theorem dX5_init_190 : decode cX5_init 190 = .ok (.iload_n 1, 1) := by decide +kernel
theorem dX5_init_191 : decode cX5_init 191 = .ok (.bipush 40, 2) := by decide +kernel
theorem dX5_init_193 : decode cX5_init 193 = .ok (.if_icmp .gt 16, 3) := by decide +kernel
theorem dX5_init_196 : decode cX5_init 196 = .ok (.aload_n 0, 1) := by decide +kernel
theorem dX5_init_197 : decode cX5_init 197 = .ok (.getfield 19, 3) := by decide +kernel
theorem dX5_init_200 : decode cX5_init 200 = .ok (.iload_n 1, 1) := by decide +kernel
theorem dX5_init_201 : decode cX5_init 201 = .ok (.iconst 1, 1) := by decide +kernel
theorem dX5_init_202 : decode cX5_init 202 = .ok (.iastore, 1) := by decide +kernel
theorem dX5_init_203 : decode cX5_init 203 = .ok (.iinc 1 1, 3) := by decide +kernel
theorem dX5_init_206 : decode cX5_init 206 = .ok (.goto (-16), 3) := by decide +kernel
theorem dX5_init_209 : decode cX5_init 209 = .ok (.aload_n 0, 1) := by decide +kernel
theorem dX5_init_210 : decode cX5_init 210 = .ok (.getfield 19, 3) := by decide +kernel
theorem dX5_init_213 : decode cX5_init 213 = .ok (.bipush 41, 2) := by decide +kernel
theorem dX5_init_215 : decode cX5_init 215 = .ok (.iconst 5, 1) := by decide +kernel
theorem dX5_init_216 : decode cX5_init 216 = .ok (.iastore, 1) := by decide +kernel
theorem dX5_init_217 : decode cX5_init 217 = .ok (.aload_n 0, 1) := by decide +kernel
theorem dX5_init_218 : decode cX5_init 218 = .ok (.getfield 19, 3) := by decide +kernel
theorem dX5_init_221 : decode cX5_init 221 = .ok (.bipush 42, 2) := by decide +kernel
theorem dX5_init_223 : decode cX5_init 223 = .ok (.iconst 2, 1) := by decide +kernel
theorem dX5_init_224 : decode cX5_init 224 = .ok (.iastore, 1) := by decide +kernel
theorem dX5_init_225 : decode cX5_init 225 = .ok (.aload_n 0, 1) := by decide +kernel
theorem dX5_init_226 : decode cX5_init 226 = .ok (.getfield 19, 3) := by decide +kernel
theorem dX5_init_229 : decode cX5_init 229 = .ok (.bipush 44, 2) := by decide +kernel
theorem dX5_init_231 : decode cX5_init 231 = .ok (.iconst 5, 1) := by decide +kernel
theorem dX5_init_232 : decode cX5_init 232 = .ok (.iastore, 1) := by decide +kernel
theorem dX5_init_233 : decode cX5_init 233 = .ok (.aload_n 0, 1) := by decide +kernel
theorem dX5_init_234 : decode cX5_init 234 = .ok (.getfield 19, 3) := by decide +kernel
theorem dX5_init_237 : decode cX5_init 237 = .ok (.bipush 45, 2) := by decide +kernel
theorem dX5_init_239 : decode cX5_init 239 = .ok (.iconst 4, 1) := by decide +kernel
theorem dX5_init_240 : decode cX5_init 240 = .ok (.iastore, 1) := by decide +kernel
theorem dX5_init_241 : decode cX5_init 241 = .ok (.return_, 1) := by decide +kernel
theorem dX5_move_0 : decode cX5_move 0 = .ok (.iconst 0, 1) := by decide +kernel
theorem dX5_move_1 : decode cX5_move 1 = .ok (.istore_n 2, 1) := by decide +kernel
theorem dX5_move_2 : decode cX5_move 2 = .ok (.iload_n 2, 1) := by decide +kernel
theorem dX5_move_3 : decode cX5_move 3 = .ok (.bipush 49, 2) := by decide +kernel
theorem dX5_move_5 : decode cX5_move 5 = .ok (.if_icmp .ge 15, 3) := by decide +kernel
theorem dX5_move_8 : decode cX5_move 8 = .ok (.aload_n 1, 1) := by decide +kernel
theorem dX5_move_9 : decode cX5_move 9 = .ok (.iload_n 2, 1) := by decide +kernel
theorem dX5_move_10 : decode cX5_move 10 = .ok (.aload_n 0, 1) := by decide +kernel
theorem dX5_move_11 : decode cX5_move 11 = .ok (.iload_n 2, 1) := by decide +kernel
theorem dX5_move_12 : decode cX5_move 12 = .ok (.iaload, 1) := by decide +kernel
theorem dX5_move_13 : decode cX5_move 13 = .ok (.iastore, 1) := by decide +kernel
theorem dX5_move_14 : decode cX5_move 14 = .ok (.iinc 2 1, 3) := by decide +kernel
theorem dX5_move_17 : decode cX5_move 17 = .ok (.goto (-15), 3) := by decide +kernel
theorem dX5_move_20 : decode cX5_move 20 = .ok (.return_, 1) := by decide +kernel
set_option maxRecDepth 20000 in
theorem ggX5_image_X5_move : GoodIn wsX5_image wsX5_move := goodIn_r _ [7] (by decide +kernel) (by decide +kernel)
set_option maxRecDepth 20000 in
theorem gX5_image_X5_move : GoodIn wsX5_image (va_wsS RX5 63 yX5_move wsX5_move) := goodIn_app (goodIn_of _ (by decide +kernel)) ggX5_image_X5_move
set_option maxRecDepth 20000 in
theorem ggX5_image_X5_left : GoodIn wsX5_image wsX5_left := goodIn_r _ [10] (by decide +kernel) (by decide +kernel)
set_option maxRecDepth 20000 in
theorem gX5_image_X5_left : GoodIn wsX5_image (va_wsS RX5 67 yX5_left wsX5_left) := goodIn_app (goodIn_of _ (by decide +kernel)) ggX5_image_X5_left
theorem dX5_image_0 : decode cX5_image 0 = .ok (.aload_n 0, 1) := by decide +kernel
theorem dX5_image_1 : decode cX5_image 1 = .ok (.iconst 1, 1) := by decide +kernel
theorem dX5_image_2 : decode cX5_image 2 = .ok (.putfield 59, 3) := by decide +kernel
theorem dX5_image_5 : decode cX5_image 5 = .ok (.aload_n 0, 1) := by decide +kernel
theorem dX5_image_6 : decode cX5_image 6 = .ok (.getfield 19, 3) := by decide +kernel
theorem dX5_image_9 : decode cX5_image 9 = .ok (.aload_n 0, 1) := by decide +kernel
theorem dX5_image_10 : decode cX5_image 10 = .ok (.getfield 22, 3) := by decide +kernel
theorem dX5_image_13 : decode cX5_image 13 = .ok (.invokestatic 63, 3) := by decide +kernel
theorem dX5_image_16 : decode cX5_image 16 = .ok (.aload_n 0, 1) := by decide +kernel
theorem dX5_image_17 : decode cX5_image 17 = .ok (.getfield 19, 3) := by decide +kernel
theorem dX5_image_20 : decode cX5_image 20 = .ok (.invokestatic 67, 3) := by decide +kernel
theorem dX5_image_23 : decode cX5_image 23 = .ok (.ireturn, 1) := by decide +kernel
set_option maxRecDepth 20000 in
theorem ggX5_on_X5_no : GoodIn wsX5_on wsX5_no := goodIn_r _ [8, 9, 16, 17, 18, 19, 20, 21, 22, 23, 24, 25, 26, 27, 28, 29, 30, 31, 32, 33, 34, 35] (by decide +kernel) (by decide +kernel)
set_option maxRecDepth 20000 in
theorem gX5_on_X5_no : GoodIn wsX5_on (wsV RX5 9 RX5 yX5_no wsX5_no) := goodIn_app (goodIn_of _ (by decide +kernel)) ggX5_on_X5_no
set_option maxRecDepth 20000 in
theorem ggX5_on_X5_move : GoodIn wsX5_on wsX5_move := goodIn_r _ [12] (by decide +kernel) (by decide +kernel)
set_option maxRecDepth 20000 in
theorem gX5_on_X5_move : GoodIn wsX5_on (va_wsS RX5 63 yX5_move wsX5_move) := goodIn_app (goodIn_of _ (by decide +kernel)) ggX5_on_X5_move
set_option maxRecDepth 20000 in
theorem ggX5_on_X5_left : GoodIn wsX5_on wsX5_left := goodIn_r _ [15] (by decide +kernel) (by decide +kernel)
set_option maxRecDepth 20000 in
theorem gX5_on_X5_left : GoodIn wsX5_on (va_wsS RX5 67 yX5_left wsX5_left) := goodIn_app (goodIn_of _ (by decide +kernel)) ggX5_on_X5_left
theorem dX5_on_0 : decode cX5_on 0 = .ok (.aload_n 0, 1) := by decide +kernel
theorem dX5_on_1 : decode cX5_on 1 = .ok (.getfield 59, 3) := by decide +kernel
theorem dX5_on_4 : decode cX5_on 4 = .ok (.ifCond .ne 10, 3) := by decide +kernel
theorem dX5_on_7 : decode cX5_on 7 = .ok (.aload_n 0, 1) := by decide +kernel
theorem dX5_on_8 : decode cX5_on 8 = .ok (.bipush (-3), 2) := by decide +kernel
theorem dX5_on_10 : decode cX5_on 10 = .ok (.invokevirtual 9, 3) := by decide +kernel
theorem dX5_on_13 : decode cX5_on 13 = .ok (.ireturn, 1) := by decide +kernel
theorem dX5_on_14 : decode cX5_on 14 = .ok (.aload_n 0, 1) := by decide +kernel
theorem dX5_on_15 : decode cX5_on 15 = .ok (.getfield 22, 3) := by decide +kernel
theorem dX5_on_18 : decode cX5_on 18 = .ok (.aload_n 0, 1) := by decide +kernel
theorem dX5_on_19 : decode cX5_on 19 = .ok (.getfield 19, 3) := by decide +kernel
theorem dX5_on_22 : decode cX5_on 22 = .ok (.invokestatic 63, 3) := by decide +kernel
theorem dX5_on_25 : decode cX5_on 25 = .ok (.aload_n 0, 1) := by decide +kernel
theorem dX5_on_26 : decode cX5_on 26 = .ok (.getfield 19, 3) := by decide +kernel
theorem dX5_on_29 : decode cX5_on 29 = .ok (.invokestatic 67, 3) := by decide +kernel
theorem dX5_on_32 : decode cX5_on 32 = .ok (.ireturn, 1) := by decide +kernel
theorem dX5_left_0 : decode cX5_left 0 = .ok (.iconst 0, 1) := by decide +kernel
theorem dX5_left_1 : decode cX5_left 1 = .ok (.istore_n 1, 1) := by decide +kernel
theorem dX5_left_2 : decode cX5_left 2 = .ok (.iconst 1, 1) := by decide +kernel
theorem dX5_left_3 : decode cX5_left 3 = .ok (.istore_n 2, 1) := by decide +kernel
theorem dX5_left_4 : decode cX5_left 4 = .ok (.iload_n 2, 1) := by decide +kernel
theorem dX5_left_5 : decode cX5_left 5 = .ok (.bipush 40, 2) := by decide +kernel
theorem dX5_left_7 : decode cX5_left 7 = .ok (.if_icmp .gt 23, 3) := by decide +kernel
theorem dX5_left_10 : decode cX5_left 10 = .ok (.iload_n 1, 1) := by decide +kernel
theorem dX5_left_11 : decode cX5_left 11 = .ok (.aload_n 0, 1) := by decide +kernel
theorem dX5_left_12 : decode cX5_left 12 = .ok (.iload_n 2, 1) := by decide +kernel
theorem dX5_left_13 : decode cX5_left 13 = .ok (.iaload, 1) := by decide +kernel
theorem dX5_left_14 : decode cX5_left 14 = .ok (.ifCond .le 7, 3) := by decide +kernel
theorem dX5_left_17 : decode cX5_left 17 = .ok (.iconst 1, 1) := by decide +kernel
theorem dX5_left_18 : decode cX5_left 18 = .ok (.goto 4, 3) := by decide +kernel
theorem dX5_left_21 : decode cX5_left 21 = .ok (.iconst 0, 1) := by decide +kernel
theorem dX5_left_22 : decode cX5_left 22 = .ok (.iadd, 1) := by decide +kernel
theorem dX5_left_23 : decode cX5_left 23 = .ok (.istore_n 1, 1) := by decide +kernel
theorem dX5_left_24 : decode cX5_left 24 = .ok (.iinc 2 1, 3) := by decide +kernel
theorem dX5_left_27 : decode cX5_left 27 = .ok (.goto (-23), 3) := by decide +kernel
theorem dX5_left_30 : decode cX5_left 30 = .ok (.iload_n 1, 1) := by decide +kernel
theorem dX5_left_31 : decode cX5_left 31 = .ok (.ireturn, 1) := by decide +kernel
theorem dX5_weight_0 : decode cX5_weight 0 = .ok (.iconst 0, 1) := by decide +kernel
theorem dX5_weight_1 : decode cX5_weight 1 = .ok (.istore_n 1, 1) := by decide +kernel
theorem dX5_weight_2 : decode cX5_weight 2 = .ok (.iconst 1, 1) := by decide +kernel
theorem dX5_weight_3 : decode cX5_weight 3 = .ok (.istore_n 2, 1) := by decide +kernel
theorem dX5_weight_4 : decode cX5_weight 4 = .ok (.iload_n 2, 1) := by decide +kernel
theorem dX5_weight_5 : decode cX5_weight 5 = .ok (.bipush 40, 2) := by decide +kernel
theorem dX5_weight_7 : decode cX5_weight 7 = .ok (.if_icmp .gt 15, 3) := by decide +kernel
theorem dX5_weight_10 : decode cX5_weight 10 = .ok (.iload_n 1, 1) := by decide +kernel
theorem dX5_weight_11 : decode cX5_weight 11 = .ok (.aload_n 0, 1) := by decide +kernel
theorem dX5_weight_12 : decode cX5_weight 12 = .ok (.iload_n 2, 1) := by decide +kernel
theorem dX5_weight_13 : decode cX5_weight 13 = .ok (.iaload, 1) := by decide +kernel
theorem dX5_weight_14 : decode cX5_weight 14 = .ok (.iadd, 1) := by decide +kernel
theorem dX5_weight_15 : decode cX5_weight 15 = .ok (.istore_n 1, 1) := by decide +kernel
theorem dX5_weight_16 : decode cX5_weight 16 = .ok (.iinc 2 1, 3) := by decide +kernel
theorem dX5_weight_19 : decode cX5_weight 19 = .ok (.goto (-15), 3) := by decide +kernel
theorem dX5_weight_22 : decode cX5_weight 22 = .ok (.iload_n 1, 1) := by decide +kernel
theorem dX5_weight_23 : decode cX5_weight 23 = .ok (.ireturn, 1) := by decide +kernel
set_option maxRecDepth 20000 in
theorem ggX5_isEmpty_X5_weight : GoodIn wsX5_isEmpty wsX5_weight := goodIn_r _ [5] (by decide +kernel) (by decide +kernel)
set_option maxRecDepth 20000 in
theorem gX5_isEmpty_X5_weight : GoodIn wsX5_isEmpty (va_wsS RX5 71 yX5_weight wsX5_weight) := goodIn_app (goodIn_of _ (by decide +kernel)) ggX5_isEmpty_X5_weight
theorem dX5_isEmpty_0 : decode cX5_isEmpty 0 = .ok (.aload_n 0, 1) := by decide +kernel
theorem dX5_isEmpty_1 : decode cX5_isEmpty 1 = .ok (.getfield 19, 3) := by decide +kernel
theorem dX5_isEmpty_4 : decode cX5_isEmpty 4 = .ok (.invokestatic 71, 3) := by decide +kernel
theorem dX5_isEmpty_7 : decode cX5_isEmpty 7 = .ok (.ifCond .ne 7, 3) := by decide +kernel
theorem dX5_isEmpty_10 : decode cX5_isEmpty 10 = .ok (.iconst 1, 1) := by decide +kernel
theorem dX5_isEmpty_11 : decode cX5_isEmpty 11 = .ok (.goto 4, 3) := by decide +kernel
theorem dX5_isEmpty_14 : decode cX5_isEmpty 14 = .ok (.iconst 0, 1) := by decide +kernel
theorem dX5_isEmpty_15 : decode cX5_isEmpty 15 = .ok (.ireturn, 1) := by decide +kernel
theorem dX5_isNoSecond_0 : decode cX5_isNoSecond 0 = .ok (.iload_n 0, 1) := by decide +kernel
theorem dX5_isNoSecond_1 : decode cX5_isNoSecond 1 = .ok (.iconst 1, 1) := by decide +kernel
theorem dX5_isNoSecond_2 : decode cX5_isNoSecond 2 = .ok (.if_icmp .lt 9, 3) := by decide +kernel
theorem dX5_isNoSecond_5 : decode cX5_isNoSecond 5 = .ok (.iload_n 0, 1) := by decide +kernel
theorem dX5_isNoSecond_6 : decode cX5_isNoSecond 6 = .ok (.bipush 40, 2) := by decide +kernel
theorem dX5_isNoSecond_8 : decode cX5_isNoSecond 8 = .ok (.if_icmp .le 7, 3) := by decide +kernel
theorem dX5_isNoSecond_11 : decode cX5_isNoSecond 11 = .ok (.iconst 1, 1) := by decide +kernel
theorem dX5_isNoSecond_12 : decode cX5_isNoSecond 12 = .ok (.goto 4, 3) := by decide +kernel
theorem dX5_isNoSecond_15 : decode cX5_isNoSecond 15 = .ok (.iconst 0, 1) := by decide +kernel
theorem dX5_isNoSecond_16 : decode cX5_isNoSecond 16 = .ok (.ireturn, 1) := by decide +kernel
theorem dX5_isNoBand_0 : decode cX5_isNoBand 0 = .ok (.iload_n 1, 1) := by decide +kernel
theorem dX5_isNoBand_1 : decode cX5_isNoBand 1 = .ok (.bipush 8, 2) := by decide +kernel
theorem dX5_isNoBand_3 : decode cX5_isNoBand 3 = .ok (.if_icmp .eq 22, 3) := by decide +kernel
theorem dX5_isNoBand_6 : decode cX5_isNoBand 6 = .ok (.iload_n 1, 1) := by decide +kernel
theorem dX5_isNoBand_7 : decode cX5_isNoBand 7 = .ok (.ifCond .lt 14, 3) := by decide +kernel
theorem dX5_isNoBand_10 : decode cX5_isNoBand 10 = .ok (.iload_n 1, 1) := by decide +kernel
theorem dX5_isNoBand_11 : decode cX5_isNoBand 11 = .ok (.aload_n 0, 1) := by decide +kernel
theorem dX5_isNoBand_12 : decode cX5_isNoBand 12 = .ok (.getfield 19, 3) := by decide +kernel
theorem dX5_isNoBand_15 : decode cX5_isNoBand 15 = .ok (.bipush 41, 2) := by decide +kernel
theorem dX5_isNoBand_17 : decode cX5_isNoBand 17 = .ok (.iaload, 1) := by decide +kernel
theorem dX5_isNoBand_18 : decode cX5_isNoBand 18 = .ok (.if_icmp .lt 7, 3) := by decide +kernel
theorem dX5_isNoBand_21 : decode cX5_isNoBand 21 = .ok (.iconst 1, 1) := by decide +kernel
theorem dX5_isNoBand_22 : decode cX5_isNoBand 22 = .ok (.goto 4, 3) := by decide +kernel
theorem dX5_isNoBand_25 : decode cX5_isNoBand 25 = .ok (.iconst 0, 1) := by decide +kernel
theorem dX5_isNoBand_26 : decode cX5_isNoBand 26 = .ok (.ireturn, 1) := by decide +kernel
theorem dX5_seconds_0 : decode cX5_seconds 0 = .ok (.iload_n 2, 1) := by decide +kernel
theorem dX5_seconds_1 : decode cX5_seconds 1 = .ok (.ifCond .ne 7, 3) := by decide +kernel
theorem dX5_seconds_4 : decode cX5_seconds 4 = .ok (.iconst 0, 1) := by decide +kernel
theorem dX5_seconds_5 : decode cX5_seconds 5 = .ok (.goto 12, 3) := by decide +kernel
theorem dX5_seconds_8 : decode cX5_seconds 8 = .ok (.aload_n 0, 1) := by decide +kernel
theorem dX5_seconds_9 : decode cX5_seconds 9 = .ok (.getfield 19, 3) := by decide +kernel
theorem dX5_seconds_12 : decode cX5_seconds 12 = .ok (.bipush 42, 2) := by decide +kernel
theorem dX5_seconds_14 : decode cX5_seconds 14 = .ok (.iaload, 1) := by decide +kernel
theorem dX5_seconds_15 : decode cX5_seconds 15 = .ok (.iconst 1, 1) := by decide +kernel
theorem dX5_seconds_16 : decode cX5_seconds 16 = .ok (.isub, 1) := by decide +kernel
theorem dX5_seconds_17 : decode cX5_seconds 17 = .ok (.istore_n 3, 1) := by decide +kernel
theorem dX5_seconds_18 : decode cX5_seconds 18 = .ok (.iload_n 1, 1) := by decide +kernel
theorem dX5_seconds_19 : decode cX5_seconds 19 = .ok (.istore 4, 2) := by decide +kernel
theorem dX5_seconds_21 : decode cX5_seconds 21 = .ok (.aload_n 0, 1) := by decide +kernel
theorem dX5_seconds_22 : decode cX5_seconds 22 = .ok (.getfield 19, 3) := by decide +kernel
theorem dX5_seconds_25 : decode cX5_seconds 25 = .ok (.bipush 46, 2) := by decide +kernel
theorem dX5_seconds_27 : decode cX5_seconds 27 = .ok (.iaload, 1) := by decide +kernel
theorem dX5_seconds_28 : decode cX5_seconds 28 = .ok (.lookupswitch 70 #[(0, 28), (3, 44)], 28) := by decide +kernel
theorem dX5_seconds_56 : decode cX5_seconds 56 = .ok (.iload_n 1, 1) := by decide +kernel
theorem dX5_seconds_57 : decode cX5_seconds 57 = .ok (.iload_n 2, 1) := by decide +kernel
theorem dX5_seconds_58 : decode cX5_seconds 58 = .ok (.aload_n 0, 1) := by decide +kernel
theorem dX5_seconds_59 : decode cX5_seconds 59 = .ok (.getfield 19, 3) := by decide +kernel
theorem dX5_seconds_62 : decode cX5_seconds 62 = .ok (.bipush 42, 2) := by decide +kernel
theorem dX5_seconds_64 : decode cX5_seconds 64 = .ok (.iaload, 1) := by decide +kernel
theorem dX5_seconds_65 : decode cX5_seconds 65 = .ok (.imul, 1) := by decide +kernel
theorem dX5_seconds_66 : decode cX5_seconds 66 = .ok (.iadd, 1) := by decide +kernel
theorem dX5_seconds_67 : decode cX5_seconds 67 = .ok (.istore 4, 2) := by decide +kernel
theorem dX5_seconds_69 : decode cX5_seconds 69 = .ok (.goto 77, 3) := by decide +kernel
theorem dX5_seconds_72 : decode cX5_seconds 72 = .ok (.iload_n 1, 1) := by decide +kernel
theorem dX5_seconds_73 : decode cX5_seconds 73 = .ok (.aload_n 0, 1) := by decide +kernel
theorem dX5_seconds_74 : decode cX5_seconds 74 = .ok (.getfield 19, 3) := by decide +kernel
theorem dX5_seconds_77 : decode cX5_seconds 77 = .ok (.bipush 41, 2) := by decide +kernel
theorem dX5_seconds_79 : decode cX5_seconds 79 = .ok (.iaload, 1) := by decide +kernel
theorem dX5_seconds_80 : decode cX5_seconds 80 = .ok (.iconst 1, 1) := by decide +kernel
theorem dX5_seconds_81 : decode cX5_seconds 81 = .ok (.isub, 1) := by decide +kernel
theorem dX5_seconds_82 : decode cX5_seconds 82 = .ok (.iload_n 2, 1) := by decide +kernel
theorem dX5_seconds_83 : decode cX5_seconds 83 = .ok (.isub, 1) := by decide +kernel
theorem dX5_seconds_84 : decode cX5_seconds 84 = .ok (.aload_n 0, 1) := by decide +kernel
theorem dX5_seconds_85 : decode cX5_seconds 85 = .ok (.getfield 19, 3) := by decide +kernel
theorem dX5_seconds_88 : decode cX5_seconds 88 = .ok (.bipush 42, 2) := by decide +kernel
theorem dX5_seconds_90 : decode cX5_seconds 90 = .ok (.iaload, 1) := by decide +kernel
theorem dX5_seconds_91 : decode cX5_seconds 91 = .ok (.imul, 1) := by decide +kernel
theorem dX5_seconds_92 : decode cX5_seconds 92 = .ok (.iadd, 1) := by decide +kernel
theorem dX5_seconds_93 : decode cX5_seconds 93 = .ok (.istore 4, 2) := by decide +kernel
theorem dX5_seconds_95 : decode cX5_seconds 95 = .ok (.goto 51, 3) := by decide +kernel
theorem dX5_seconds_98 : decode cX5_seconds 98 = .ok (.iconst 0, 1) := by decide +kernel
theorem dX5_seconds_99 : decode cX5_seconds 99 = .ok (.istore 5, 2) := by decide +kernel
theorem dX5_seconds_101 : decode cX5_seconds 101 = .ok (.iload 5, 2) := by decide +kernel
theorem dX5_seconds_103 : decode cX5_seconds 103 = .ok (.iload_n 2, 1) := by decide +kernel
theorem dX5_seconds_104 : decode cX5_seconds 104 = .ok (.if_icmp .ge 36, 3) := by decide +kernel
theorem dX5_seconds_107 : decode cX5_seconds 107 = .ok (.iload 4, 2) := by decide +kernel
theorem dX5_seconds_109 : decode cX5_seconds 109 = .ok (.aload_n 0, 1) := by decide +kernel
theorem dX5_seconds_110 : decode cX5_seconds 110 = .ok (.getfield 19, 3) := by decide +kernel
theorem dX5_seconds_113 : decode cX5_seconds 113 = .ok (.bipush 46, 2) := by decide +kernel
theorem dX5_seconds_115 : decode cX5_seconds 115 = .ok (.iaload, 1) := by decide +kernel
theorem dX5_seconds_116 : decode cX5_seconds 116 = .ok (.iconst 1, 1) := by decide +kernel
theorem dX5_seconds_117 : decode cX5_seconds 117 = .ok (.if_icmp .ne 8, 3) := by decide +kernel
theorem dX5_seconds_120 : decode cX5_seconds 120 = .ok (.iload 4, 2) := by decide +kernel
theorem dX5_seconds_122 : decode cX5_seconds 122 = .ok (.goto 9, 3) := by decide +kernel
theorem dX5_seconds_125 : decode cX5_seconds 125 = .ok (.iload 4, 2) := by decide +kernel
theorem dX5_seconds_127 : decode cX5_seconds 127 = .ok (.iconst 1, 1) := by decide +kernel
theorem dX5_seconds_128 : decode cX5_seconds 128 = .ok (.iadd, 1) := by decide +kernel
theorem dX5_seconds_129 : decode cX5_seconds 129 = .ok (.iconst 2, 1) := by decide +kernel
theorem dX5_seconds_130 : decode cX5_seconds 130 = .ok (.idiv, 1) := by decide +kernel
theorem dX5_seconds_131 : decode cX5_seconds 131 = .ok (.iadd, 1) := by decide +kernel
theorem dX5_seconds_132 : decode cX5_seconds 132 = .ok (.istore 4, 2) := by decide +kernel
theorem dX5_seconds_134 : decode cX5_seconds 134 = .ok (.iinc 5 1, 3) := by decide +kernel
theorem dX5_seconds_137 : decode cX5_seconds 137 = .ok (.goto (-36), 3) := by decide +kernel
theorem dX5_seconds_140 : decode cX5_seconds 140 = .ok (.iload 4, 2) := by decide +kernel
theorem dX5_seconds_142 : decode cX5_seconds 142 = .ok (.iload_n 3, 1) := by decide +kernel
theorem dX5_seconds_143 : decode cX5_seconds 143 = .ok (.iadd, 1) := by decide +kernel
theorem dX5_seconds_144 : decode cX5_seconds 144 = .ok (.istore 4, 2) := by decide +kernel
theorem dX5_seconds_146 : decode cX5_seconds 146 = .ok (.sipush 240, 3) := by decide +kernel
theorem dX5_seconds_149 : decode cX5_seconds 149 = .ok (.iload 4, 2) := by decide +kernel
theorem dX5_seconds_151 : decode cX5_seconds 151 = .ok (.invokestatic 74, 3) := by decide +kernel
theorem dX5_seconds_154 : decode cX5_seconds 154 = .ok (.ireturn, 1) := by decide +kernel
set_option maxRecDepth 20000 in
theorem ggX5_nearest_X5_seconds : GoodIn wsX5_nearest wsX5_seconds := goodIn_r _ [10, 1, 11, 12, 4, 13, 14, 15, 16, 17, 18, 19, 20, 21, 22, 23, 24, 25, 26, 27, 28, 29, 30, 31, 32, 33] (by decide +kernel) (by decide +kernel)
set_option maxRecDepth 20000 in
theorem gX5_nearest_X5_seconds : GoodIn wsX5_nearest (wsV RX5 80 RX5 yX5_seconds wsX5_seconds) := goodIn_app (goodIn_of _ (by decide +kernel)) ggX5_nearest_X5_seconds
theorem dX5_nearest_0 : decode cX5_nearest 0 = .ok (.bipush (-9), 2) := by decide +kernel
theorem dX5_nearest_2 : decode cX5_nearest 2 = .ok (.istore 4, 2) := by decide +kernel
theorem dX5_nearest_4 : decode cX5_nearest 4 = .ok (.iconst 0, 1) := by decide +kernel
theorem dX5_nearest_5 : decode cX5_nearest 5 = .ok (.istore 5, 2) := by decide +kernel
theorem dX5_nearest_7 : decode cX5_nearest 7 = .ok (.iload 5, 2) := by decide +kernel
theorem dX5_nearest_9 : decode cX5_nearest 9 = .ok (.aload_n 0, 1) := by decide +kernel
theorem dX5_nearest_10 : decode cX5_nearest 10 = .ok (.getfield 19, 3) := by decide +kernel
theorem dX5_nearest_13 : decode cX5_nearest 13 = .ok (.bipush 41, 2) := by decide +kernel
theorem dX5_nearest_15 : decode cX5_nearest 15 = .ok (.iaload, 1) := by decide +kernel
theorem dX5_nearest_16 : decode cX5_nearest 16 = .ok (.if_icmp .ge 132, 3) := by decide +kernel
theorem dX5_nearest_19 : decode cX5_nearest 19 = .ok (.iload 4, 2) := by decide +kernel
theorem dX5_nearest_21 : decode cX5_nearest 21 = .ok (.bipush (-9), 2) := by decide +kernel
theorem dX5_nearest_23 : decode cX5_nearest 23 = .ok (.if_icmp .ne 10, 3) := by decide +kernel
theorem dX5_nearest_26 : decode cX5_nearest 26 = .ok (.iload 5, 2) := by decide +kernel
theorem dX5_nearest_28 : decode cX5_nearest 28 = .ok (.istore 4, 2) := by decide +kernel
theorem dX5_nearest_30 : decode cX5_nearest 30 = .ok (.goto 112, 3) := by decide +kernel
theorem dX5_nearest_33 : decode cX5_nearest 33 = .ok (.aload_n 0, 1) := by decide +kernel
theorem dX5_nearest_34 : decode cX5_nearest 34 = .ok (.iload_n 1, 1) := by decide +kernel
theorem dX5_nearest_35 : decode cX5_nearest 35 = .ok (.iload 5, 2) := by decide +kernel
theorem dX5_nearest_37 : decode cX5_nearest 37 = .ok (.invokevirtual 80, 3) := by decide +kernel
theorem dX5_nearest_40 : decode cX5_nearest 40 = .ok (.iload_n 2, 1) := by decide +kernel
theorem dX5_nearest_41 : decode cX5_nearest 41 = .ok (.isub, 1) := by decide +kernel
theorem dX5_nearest_42 : decode cX5_nearest 42 = .ok (.invokestatic 83, 3) := by decide +kernel
theorem dX5_nearest_45 : decode cX5_nearest 45 = .ok (.istore 6, 2) := by decide +kernel
theorem dX5_nearest_47 : decode cX5_nearest 47 = .ok (.aload_n 0, 1) := by decide +kernel
theorem dX5_nearest_48 : decode cX5_nearest 48 = .ok (.iload_n 1, 1) := by decide +kernel
theorem dX5_nearest_49 : decode cX5_nearest 49 = .ok (.iload 4, 2) := by decide +kernel
theorem dX5_nearest_51 : decode cX5_nearest 51 = .ok (.invokevirtual 80, 3) := by decide +kernel
theorem dX5_nearest_54 : decode cX5_nearest 54 = .ok (.iload_n 2, 1) := by decide +kernel
theorem dX5_nearest_55 : decode cX5_nearest 55 = .ok (.isub, 1) := by decide +kernel
theorem dX5_nearest_56 : decode cX5_nearest 56 = .ok (.invokestatic 83, 3) := by decide +kernel
theorem dX5_nearest_59 : decode cX5_nearest 59 = .ok (.istore 7, 2) := by decide +kernel
theorem dX5_nearest_61 : decode cX5_nearest 61 = .ok (.iload_n 3, 1) := by decide +kernel
theorem dX5_nearest_62 : decode cX5_nearest 62 = .ok (.ifCond .eq 28, 3) := by decide +kernel
theorem dX5_nearest_65 : decode cX5_nearest 65 = .ok (.aload_n 0, 1) := by decide +kernel
theorem dX5_nearest_66 : decode cX5_nearest 66 = .ok (.iload_n 1, 1) := by decide +kernel
theorem dX5_nearest_67 : decode cX5_nearest 67 = .ok (.iload 5, 2) := by decide +kernel
theorem dX5_nearest_69 : decode cX5_nearest 69 = .ok (.invokevirtual 80, 3) := by decide +kernel
theorem dX5_nearest_72 : decode cX5_nearest 72 = .ok (.aload_n 0, 1) := by decide +kernel
theorem dX5_nearest_73 : decode cX5_nearest 73 = .ok (.iload_n 1, 1) := by decide +kernel
theorem dX5_nearest_74 : decode cX5_nearest 74 = .ok (.iload 4, 2) := by decide +kernel
theorem dX5_nearest_76 : decode cX5_nearest 76 = .ok (.invokevirtual 80, 3) := by decide +kernel
theorem dX5_nearest_79 : decode cX5_nearest 79 = .ok (.if_icmp .lt 7, 3) := by decide +kernel
theorem dX5_nearest_82 : decode cX5_nearest 82 = .ok (.iconst 1, 1) := by decide +kernel
theorem dX5_nearest_83 : decode cX5_nearest 83 = .ok (.goto 29, 3) := by decide +kernel
theorem dX5_nearest_86 : decode cX5_nearest 86 = .ok (.iconst 0, 1) := by decide +kernel
theorem dX5_nearest_87 : decode cX5_nearest 87 = .ok (.goto 25, 3) := by decide +kernel
theorem dX5_nearest_90 : decode cX5_nearest 90 = .ok (.aload_n 0, 1) := by decide +kernel
theorem dX5_nearest_91 : decode cX5_nearest 91 = .ok (.iload_n 1, 1) := by decide +kernel
theorem dX5_nearest_92 : decode cX5_nearest 92 = .ok (.iload 5, 2) := by decide +kernel
theorem dX5_nearest_94 : decode cX5_nearest 94 = .ok (.invokevirtual 80, 3) := by decide +kernel
theorem dX5_nearest_97 : decode cX5_nearest 97 = .ok (.aload_n 0, 1) := by decide +kernel
theorem dX5_nearest_98 : decode cX5_nearest 98 = .ok (.iload_n 1, 1) := by decide +kernel
theorem dX5_nearest_99 : decode cX5_nearest 99 = .ok (.iload 4, 2) := by decide +kernel
theorem dX5_nearest_101 : decode cX5_nearest 101 = .ok (.invokevirtual 80, 3) := by decide +kernel
theorem dX5_nearest_104 : decode cX5_nearest 104 = .ok (.if_icmp .ge 7, 3) := by decide +kernel
theorem dX5_nearest_107 : decode cX5_nearest 107 = .ok (.iconst 1, 1) := by decide +kernel
theorem dX5_nearest_108 : decode cX5_nearest 108 = .ok (.goto 4, 3) := by decide +kernel
theorem dX5_nearest_111 : decode cX5_nearest 111 = .ok (.iconst 0, 1) := by decide +kernel
theorem dX5_nearest_112 : decode cX5_nearest 112 = .ok (.istore 8, 2) := by decide +kernel
theorem dX5_nearest_114 : decode cX5_nearest 114 = .ok (.iload 6, 2) := by decide +kernel
theorem dX5_nearest_116 : decode cX5_nearest 116 = .ok (.iload 7, 2) := by decide +kernel
theorem dX5_nearest_118 : decode cX5_nearest 118 = .ok (.if_icmp .lt 15, 3) := by decide +kernel
theorem dX5_nearest_121 : decode cX5_nearest 121 = .ok (.iload 6, 2) := by decide +kernel
theorem dX5_nearest_123 : decode cX5_nearest 123 = .ok (.iload 7, 2) := by decide +kernel
theorem dX5_nearest_125 : decode cX5_nearest 125 = .ok (.if_icmp .ne 13, 3) := by decide +kernel
theorem dX5_nearest_128 : decode cX5_nearest 128 = .ok (.iload 8, 2) := by decide +kernel
theorem dX5_nearest_130 : decode cX5_nearest 130 = .ok (.ifCond .eq 8, 3) := by decide +kernel
theorem dX5_nearest_133 : decode cX5_nearest 133 = .ok (.iload 5, 2) := by decide +kernel
theorem dX5_nearest_135 : decode cX5_nearest 135 = .ok (.goto 5, 3) := by decide +kernel
theorem dX5_nearest_138 : decode cX5_nearest 138 = .ok (.iload 4, 2) := by decide +kernel
theorem dX5_nearest_140 : decode cX5_nearest 140 = .ok (.istore 4, 2) := by decide +kernel
theorem dX5_nearest_142 : decode cX5_nearest 142 = .ok (.iinc 5 1, 3) := by decide +kernel
theorem dX5_nearest_145 : decode cX5_nearest 145 = .ok (.goto (-138), 3) := by decide +kernel
theorem dX5_nearest_148 : decode cX5_nearest 148 = .ok (.iload 4, 2) := by decide +kernel
theorem dX5_nearest_150 : decode cX5_nearest 150 = .ok (.ireturn, 1) := by decide +kernel
set_option maxRecDepth 20000 in
theorem ggX5_tells_X5_nearest : GoodIn wsX5_tells wsX5_nearest := goodIn_r _ [13, 1, 6, 7, 4, 8, 14, 15, 16, 12, 17, 18, 19, 20, 21, 22, 23, 24, 25, 26, 27, 28, 29, 30, 31, 32, 33, 34, 35, 36, 37, 38, 39, 40] (by decide +kernel) (by decide +kernel)
set_option maxRecDepth 20000 in
theorem gX5_tells_X5_nearest : GoodIn wsX5_tells (wsV RX5 86 RX5 yX5_nearest wsX5_nearest) := goodIn_app (goodIn_of _ (by decide +kernel)) ggX5_tells_X5_nearest
set_option maxRecDepth 20000 in
theorem ggX5_tells_X5_seconds : GoodIn wsX5_tells wsX5_seconds := goodIn_r _ [17, 1, 18, 19, 4, 20, 21, 22, 23, 24, 25, 26, 27, 28, 29, 30, 31, 32, 33, 34, 35, 36, 37, 38, 39, 40] (by decide +kernel) (by decide +kernel)
set_option maxRecDepth 20000 in
theorem gX5_tells_X5_seconds : GoodIn wsX5_tells (wsV RX5 80 RX5 yX5_seconds wsX5_seconds) := goodIn_app (goodIn_of _ (by decide +kernel)) ggX5_tells_X5_seconds
theorem dX5_tells_0 : decode cX5_tells 0 = .ok (.aload_n 0, 1) := by decide +kernel
theorem dX5_tells_1 : decode cX5_tells 1 = .ok (.getfield 19, 3) := by decide +kernel
theorem dX5_tells_4 : decode cX5_tells 4 = .ok (.bipush 43, 2) := by decide +kernel
theorem dX5_tells_6 : decode cX5_tells 6 = .ok (.iaload, 1) := by decide +kernel
theorem dX5_tells_7 : decode cX5_tells 7 = .ok (.istore_n 3, 1) := by decide +kernel
theorem dX5_tells_8 : decode cX5_tells 8 = .ok (.aload_n 0, 1) := by decide +kernel
theorem dX5_tells_9 : decode cX5_tells 9 = .ok (.getfield 19, 3) := by decide +kernel
theorem dX5_tells_12 : decode cX5_tells 12 = .ok (.bipush 47, 2) := by decide +kernel
theorem dX5_tells_14 : decode cX5_tells 14 = .ok (.iaload, 1) := by decide +kernel
theorem dX5_tells_15 : decode cX5_tells 15 = .ok (.tableswitch 71 0 3 #[29, 37, 47, 63], 29) := by decide +kernel
theorem dX5_tells_44 : decode cX5_tells 44 = .ok (.aload_n 0, 1) := by decide +kernel
theorem dX5_tells_45 : decode cX5_tells 45 = .ok (.iload_n 1, 1) := by decide +kernel
theorem dX5_tells_46 : decode cX5_tells 46 = .ok (.iload_n 2, 1) := by decide +kernel
theorem dX5_tells_47 : decode cX5_tells 47 = .ok (.iconst 0, 1) := by decide +kernel
theorem dX5_tells_48 : decode cX5_tells 48 = .ok (.invokevirtual 86, 3) := by decide +kernel
theorem dX5_tells_51 : decode cX5_tells 51 = .ok (.ireturn, 1) := by decide +kernel
theorem dX5_tells_52 : decode cX5_tells 52 = .ok (.aload_n 0, 1) := by decide +kernel
theorem dX5_tells_53 : decode cX5_tells 53 = .ok (.iload_n 1, 1) := by decide +kernel
theorem dX5_tells_54 : decode cX5_tells 54 = .ok (.iload_n 2, 1) := by decide +kernel
theorem dX5_tells_55 : decode cX5_tells 55 = .ok (.iload_n 3, 1) := by decide +kernel
theorem dX5_tells_56 : decode cX5_tells 56 = .ok (.iadd, 1) := by decide +kernel
theorem dX5_tells_57 : decode cX5_tells 57 = .ok (.iconst 0, 1) := by decide +kernel
theorem dX5_tells_58 : decode cX5_tells 58 = .ok (.invokevirtual 86, 3) := by decide +kernel
theorem dX5_tells_61 : decode cX5_tells 61 = .ok (.ireturn, 1) := by decide +kernel
theorem dX5_tells_62 : decode cX5_tells 62 = .ok (.aload_n 0, 1) := by decide +kernel
theorem dX5_tells_63 : decode cX5_tells 63 = .ok (.iload_n 1, 1) := by decide +kernel
theorem dX5_tells_64 : decode cX5_tells 64 = .ok (.iload_n 2, 1) := by decide +kernel
theorem dX5_tells_65 : decode cX5_tells 65 = .ok (.iconst 0, 1) := by decide +kernel
theorem dX5_tells_66 : decode cX5_tells 66 = .ok (.iload_n 3, 1) := by decide +kernel
theorem dX5_tells_67 : decode cX5_tells 67 = .ok (.iconst 1, 1) := by decide +kernel
theorem dX5_tells_68 : decode cX5_tells 68 = .ok (.isub, 1) := by decide +kernel
theorem dX5_tells_69 : decode cX5_tells 69 = .ok (.invokestatic 90, 3) := by decide +kernel
theorem dX5_tells_72 : decode cX5_tells 72 = .ok (.iadd, 1) := by decide +kernel
theorem dX5_tells_73 : decode cX5_tells 73 = .ok (.iconst 0, 1) := by decide +kernel
theorem dX5_tells_74 : decode cX5_tells 74 = .ok (.invokevirtual 86, 3) := by decide +kernel
theorem dX5_tells_77 : decode cX5_tells 77 = .ok (.ireturn, 1) := by decide +kernel
theorem dX5_tells_78 : decode cX5_tells 78 = .ok (.aload_n 0, 1) := by decide +kernel
theorem dX5_tells_79 : decode cX5_tells 79 = .ok (.iload_n 1, 1) := by decide +kernel
theorem dX5_tells_80 : decode cX5_tells 80 = .ok (.iload_n 2, 1) := by decide +kernel
theorem dX5_tells_81 : decode cX5_tells 81 = .ok (.iconst 1, 1) := by decide +kernel
theorem dX5_tells_82 : decode cX5_tells 82 = .ok (.invokevirtual 86, 3) := by decide +kernel
theorem dX5_tells_85 : decode cX5_tells 85 = .ok (.ireturn, 1) := by decide +kernel
theorem dX5_tells_86 : decode cX5_tells 86 = .ok (.aload_n 0, 1) := by decide +kernel
theorem dX5_tells_87 : decode cX5_tells 87 = .ok (.iload_n 1, 1) := by decide +kernel
theorem dX5_tells_88 : decode cX5_tells 88 = .ok (.iload_n 2, 1) := by decide +kernel
theorem dX5_tells_89 : decode cX5_tells 89 = .ok (.iconst 1, 1) := by decide +kernel
theorem dX5_tells_90 : decode cX5_tells 90 = .ok (.invokevirtual 86, 3) := by decide +kernel
theorem dX5_tells_93 : decode cX5_tells 93 = .ok (.istore 4, 2) := by decide +kernel
theorem dX5_tells_95 : decode cX5_tells 95 = .ok (.aload_n 0, 1) := by decide +kernel
theorem dX5_tells_96 : decode cX5_tells 96 = .ok (.iload_n 1, 1) := by decide +kernel
theorem dX5_tells_97 : decode cX5_tells 97 = .ok (.iload 4, 2) := by decide +kernel
theorem dX5_tells_99 : decode cX5_tells 99 = .ok (.invokevirtual 80, 3) := by decide +kernel
theorem dX5_tells_102 : decode cX5_tells 102 = .ok (.iload_n 2, 1) := by decide +kernel
theorem dX5_tells_103 : decode cX5_tells 103 = .ok (.isub, 1) := by decide +kernel
theorem dX5_tells_104 : decode cX5_tells 104 = .ok (.invokestatic 83, 3) := by decide +kernel
theorem dX5_tells_107 : decode cX5_tells 107 = .ok (.iload_n 3, 1) := by decide +kernel
theorem dX5_tells_108 : decode cX5_tells 108 = .ok (.if_icmp .le 8, 3) := by decide +kernel
theorem dX5_tells_111 : decode cX5_tells 111 = .ok (.bipush 8, 2) := by decide +kernel
theorem dX5_tells_113 : decode cX5_tells 113 = .ok (.goto 5, 3) := by decide +kernel
theorem dX5_tells_116 : decode cX5_tells 116 = .ok (.iload 4, 2) := by decide +kernel
theorem dX5_tells_118 : decode cX5_tells 118 = .ok (.ireturn, 1) := by decide +kernel
set_option maxRecDepth 20000 in
theorem ggX5_band_X5_isNoSecond : GoodIn wsX5_band wsX5_isNoSecond := goodIn_r _ [5] (by decide +kernel) (by decide +kernel)
set_option maxRecDepth 20000 in
theorem gX5_band_X5_isNoSecond : GoodIn wsX5_band (va_wsS RX5 93 yX5_isNoSecond wsX5_isNoSecond) := goodIn_app (goodIn_of _ (by decide +kernel)) ggX5_band_X5_isNoSecond
set_option maxRecDepth 20000 in
theorem ggX5_band_X5_no : GoodIn wsX5_band wsX5_no := goodIn_r _ [9, 10, 19, 20, 21, 22, 23, 24, 25, 26, 27, 28, 29, 30, 31, 32, 33, 34, 35, 36, 37, 38] (by decide +kernel) (by decide +kernel)
set_option maxRecDepth 20000 in
theorem gX5_band_X5_no : GoodIn wsX5_band (wsV RX5 9 RX5 yX5_no wsX5_no) := goodIn_app (goodIn_of _ (by decide +kernel)) ggX5_band_X5_no
set_option maxRecDepth 20000 in
theorem ggX5_band_X5_seconds : GoodIn wsX5_band wsX5_seconds := goodIn_r _ [14, 1, 15, 16, 17, 18, 19, 20, 21, 22, 23, 24, 25, 26, 27, 28, 29, 30, 31, 32, 33, 34, 35, 36, 37, 38] (by decide +kernel) (by decide +kernel)
set_option maxRecDepth 20000 in
theorem gX5_band_X5_seconds : GoodIn wsX5_band (wsV RX5 80 RX5 yX5_seconds wsX5_seconds) := goodIn_app (goodIn_of _ (by decide +kernel)) ggX5_band_X5_seconds
theorem dX5_band_0 : decode cX5_band 0 = .ok (.iload_n 1, 1) := by decide +kernel
theorem dX5_band_1 : decode cX5_band 1 = .ok (.invokestatic 93, 3) := by decide +kernel
theorem dX5_band_4 : decode cX5_band 4 = .ok (.ifCond .ne 18, 3) := by decide +kernel
theorem dX5_band_7 : decode cX5_band 7 = .ok (.iload_n 2, 1) := by decide +kernel
theorem dX5_band_8 : decode cX5_band 8 = .ok (.ifCond .lt 14, 3) := by decide +kernel
theorem dX5_band_11 : decode cX5_band 11 = .ok (.iload_n 2, 1) := by decide +kernel
theorem dX5_band_12 : decode cX5_band 12 = .ok (.aload_n 0, 1) := by decide +kernel
theorem dX5_band_13 : decode cX5_band 13 = .ok (.getfield 19, 3) := by decide +kernel
theorem dX5_band_16 : decode cX5_band 16 = .ok (.bipush 41, 2) := by decide +kernel
theorem dX5_band_18 : decode cX5_band 18 = .ok (.iaload, 1) := by decide +kernel
theorem dX5_band_19 : decode cX5_band 19 = .ok (.if_icmp .lt 11, 3) := by decide +kernel
theorem dX5_band_22 : decode cX5_band 22 = .ok (.aload_n 0, 1) := by decide +kernel
theorem dX5_band_23 : decode cX5_band 23 = .ok (.iconst (-1), 1) := by decide +kernel
theorem dX5_band_24 : decode cX5_band 24 = .ok (.invokevirtual 9, 3) := by decide +kernel
theorem dX5_band_27 : decode cX5_band 27 = .ok (.goto 9, 3) := by decide +kernel
theorem dX5_band_30 : decode cX5_band 30 = .ok (.aload_n 0, 1) := by decide +kernel
theorem dX5_band_31 : decode cX5_band 31 = .ok (.iload_n 1, 1) := by decide +kernel
theorem dX5_band_32 : decode cX5_band 32 = .ok (.iload_n 2, 1) := by decide +kernel
theorem dX5_band_33 : decode cX5_band 33 = .ok (.invokevirtual 80, 3) := by decide +kernel
theorem dX5_band_36 : decode cX5_band 36 = .ok (.ireturn, 1) := by decide +kernel
set_option maxRecDepth 20000 in
theorem ggX5_told_X5_isNoSecond : GoodIn wsX5_told wsX5_isNoSecond := goodIn_r _ [4] (by decide +kernel) (by decide +kernel)
set_option maxRecDepth 20000 in
theorem gX5_told_X5_isNoSecond : GoodIn wsX5_told (va_wsS RX5 93 yX5_isNoSecond wsX5_isNoSecond) := goodIn_app (goodIn_of _ (by decide +kernel)) ggX5_told_X5_isNoSecond
set_option maxRecDepth 20000 in
theorem ggX5_told_X5_no : GoodIn wsX5_told wsX5_no := goodIn_r _ [8, 9, 33, 34, 35, 36, 37, 38, 39, 40, 41, 42, 43, 44, 45, 46, 47, 48, 49, 50, 51, 52] (by decide +kernel) (by decide +kernel)
set_option maxRecDepth 20000 in
theorem gX5_told_X5_no : GoodIn wsX5_told (wsV RX5 9 RX5 yX5_no wsX5_no) := goodIn_app (goodIn_of _ (by decide +kernel)) ggX5_told_X5_no
set_option maxRecDepth 20000 in
theorem ggX5_told_X5_tells : GoodIn wsX5_told wsX5_tells := goodIn_r _ [13, 14, 15, 16, 17, 18, 19, 20, 21, 22, 23, 24, 3, 25, 26, 27, 28, 29, 30, 31, 32, 33, 34, 35, 36, 37, 38, 39, 40, 41, 42, 43, 44, 45, 46, 47, 48, 49, 50, 51, 52] (by decide +kernel) (by decide +kernel)
set_option maxRecDepth 20000 in
theorem gX5_told_X5_tells : GoodIn wsX5_told (wsV RX5 97 RX5 yX5_tells wsX5_tells) := goodIn_app (goodIn_of _ (by decide +kernel)) ggX5_told_X5_tells
theorem dX5_told_0 : decode cX5_told 0 = .ok (.iload_n 1, 1) := by decide +kernel
theorem dX5_told_1 : decode cX5_told 1 = .ok (.invokestatic 93, 3) := by decide +kernel
theorem dX5_told_4 : decode cX5_told 4 = .ok (.ifCond .ne 10, 3) := by decide +kernel
theorem dX5_told_7 : decode cX5_told 7 = .ok (.iload_n 2, 1) := by decide +kernel
theorem dX5_told_8 : decode cX5_told 8 = .ok (.invokestatic 93, 3) := by decide +kernel
theorem dX5_told_11 : decode cX5_told 11 = .ok (.ifCond .eq 11, 3) := by decide +kernel
theorem dX5_told_14 : decode cX5_told 14 = .ok (.aload_n 0, 1) := by decide +kernel
theorem dX5_told_15 : decode cX5_told 15 = .ok (.iconst (-1), 1) := by decide +kernel
theorem dX5_told_16 : decode cX5_told 16 = .ok (.invokevirtual 9, 3) := by decide +kernel
theorem dX5_told_19 : decode cX5_told 19 = .ok (.goto 9, 3) := by decide +kernel
theorem dX5_told_22 : decode cX5_told 22 = .ok (.aload_n 0, 1) := by decide +kernel
theorem dX5_told_23 : decode cX5_told 23 = .ok (.iload_n 1, 1) := by decide +kernel
theorem dX5_told_24 : decode cX5_told 24 = .ok (.iload_n 2, 1) := by decide +kernel
theorem dX5_told_25 : decode cX5_told 25 = .ok (.invokevirtual 97, 3) := by decide +kernel
theorem dX5_told_28 : decode cX5_told 28 = .ok (.ireturn, 1) := by decide +kernel
set_option maxRecDepth 20000 in
theorem ggX5_likely_X5_isNoSecond : GoodIn wsX5_likely wsX5_isNoSecond := goodIn_r _ [5] (by decide +kernel) (by decide +kernel)
set_option maxRecDepth 20000 in
theorem gX5_likely_X5_isNoSecond : GoodIn wsX5_likely (va_wsS RX5 93 yX5_isNoSecond wsX5_isNoSecond) := goodIn_app (goodIn_of _ (by decide +kernel)) ggX5_likely_X5_isNoSecond
set_option maxRecDepth 20000 in
theorem ggX5_likely_X5_no : GoodIn wsX5_likely wsX5_no := goodIn_r _ [9, 10, 11, 12, 13, 14, 15, 16, 17, 18, 19, 20, 21, 22, 23, 24, 25, 26, 27, 28, 29, 30] (by decide +kernel) (by decide +kernel)
set_option maxRecDepth 20000 in
theorem gX5_likely_X5_no : GoodIn wsX5_likely (wsV RX5 9 RX5 yX5_no wsX5_no) := goodIn_app (goodIn_of _ (by decide +kernel)) ggX5_likely_X5_no
theorem dX5_likely_0 : decode cX5_likely 0 = .ok (.iload_n 1, 1) := by decide +kernel
theorem dX5_likely_1 : decode cX5_likely 1 = .ok (.invokestatic 93, 3) := by decide +kernel
theorem dX5_likely_4 : decode cX5_likely 4 = .ok (.ifCond .eq 11, 3) := by decide +kernel
theorem dX5_likely_7 : decode cX5_likely 7 = .ok (.aload_n 0, 1) := by decide +kernel
theorem dX5_likely_8 : decode cX5_likely 8 = .ok (.iconst (-1), 1) := by decide +kernel
theorem dX5_likely_9 : decode cX5_likely 9 = .ok (.invokevirtual 9, 3) := by decide +kernel
theorem dX5_likely_12 : decode cX5_likely 12 = .ok (.goto 9, 3) := by decide +kernel
theorem dX5_likely_15 : decode cX5_likely 15 = .ok (.aload_n 0, 1) := by decide +kernel
theorem dX5_likely_16 : decode cX5_likely 16 = .ok (.getfield 19, 3) := by decide +kernel
theorem dX5_likely_19 : decode cX5_likely 19 = .ok (.iload_n 1, 1) := by decide +kernel
theorem dX5_likely_20 : decode cX5_likely 20 = .ok (.iaload, 1) := by decide +kernel
theorem dX5_likely_21 : decode cX5_likely 21 = .ok (.ireturn, 1) := by decide +kernel
set_option maxRecDepth 20000 in
theorem ggX5_change_X5_no : GoodIn wsX5_change wsX5_no := goodIn_r _ [6, 7, 8, 9, 10, 11, 12, 13, 14, 15, 16, 17, 18, 19, 20, 21, 22, 23, 24, 25, 26, 27] (by decide +kernel) (by decide +kernel)
set_option maxRecDepth 20000 in
theorem gX5_change_X5_no : GoodIn wsX5_change (wsV RX5 9 RX5 yX5_no wsX5_no) := goodIn_app (goodIn_of _ (by decide +kernel)) ggX5_change_X5_no
theorem dX5_change_0 : decode cX5_change 0 = .ok (.iload_n 2, 1) := by decide +kernel
theorem dX5_change_1 : decode cX5_change 1 = .ok (.iload_n 3, 1) := by decide +kernel
theorem dX5_change_2 : decode cX5_change 2 = .ok (.if_icmp .ge 10, 3) := by decide +kernel
theorem dX5_change_5 : decode cX5_change 5 = .ok (.aload_n 0, 1) := by decide +kernel
theorem dX5_change_6 : decode cX5_change 6 = .ok (.bipush (-4), 2) := by decide +kernel
theorem dX5_change_8 : decode cX5_change 8 = .ok (.invokevirtual 9, 3) := by decide +kernel
theorem dX5_change_11 : decode cX5_change 11 = .ok (.ireturn, 1) := by decide +kernel
theorem dX5_change_12 : decode cX5_change 12 = .ok (.iload_n 2, 1) := by decide +kernel
theorem dX5_change_13 : decode cX5_change 13 = .ok (.iload 4, 2) := by decide +kernel
theorem dX5_change_15 : decode cX5_change 15 = .ok (.if_icmp .le 10, 3) := by decide +kernel
theorem dX5_change_18 : decode cX5_change 18 = .ok (.aload_n 0, 1) := by decide +kernel
theorem dX5_change_19 : decode cX5_change 19 = .ok (.bipush (-6), 2) := by decide +kernel
theorem dX5_change_21 : decode cX5_change 21 = .ok (.invokevirtual 9, 3) := by decide +kernel
theorem dX5_change_24 : decode cX5_change 24 = .ok (.ireturn, 1) := by decide +kernel
theorem dX5_change_25 : decode cX5_change 25 = .ok (.aload_n 0, 1) := by decide +kernel
theorem dX5_change_26 : decode cX5_change 26 = .ok (.getfield 19, 3) := by decide +kernel
theorem dX5_change_29 : decode cX5_change 29 = .ok (.iload_n 1, 1) := by decide +kernel
theorem dX5_change_30 : decode cX5_change 30 = .ok (.iaload, 1) := by decide +kernel
theorem dX5_change_31 : decode cX5_change 31 = .ok (.istore 5, 2) := by decide +kernel
theorem dX5_change_33 : decode cX5_change 33 = .ok (.aload_n 0, 1) := by decide +kernel
theorem dX5_change_34 : decode cX5_change 34 = .ok (.getfield 19, 3) := by decide +kernel
theorem dX5_change_37 : decode cX5_change 37 = .ok (.iload_n 1, 1) := by decide +kernel
theorem dX5_change_38 : decode cX5_change 38 = .ok (.iload_n 2, 1) := by decide +kernel
theorem dX5_change_39 : decode cX5_change 39 = .ok (.iastore, 1) := by decide +kernel
theorem dX5_change_40 : decode cX5_change 40 = .ok (.iload 5, 2) := by decide +kernel
theorem dX5_change_42 : decode cX5_change 42 = .ok (.ireturn, 1) := by decide +kernel
set_option maxRecDepth 20000 in
theorem ggX5_make_X5_isNoSecond : GoodIn wsX5_make wsX5_isNoSecond := goodIn_r _ [4] (by decide +kernel) (by decide +kernel)
set_option maxRecDepth 20000 in
theorem gX5_make_X5_isNoSecond : GoodIn wsX5_make (va_wsS RX5 93 yX5_isNoSecond wsX5_isNoSecond) := goodIn_app (goodIn_of _ (by decide +kernel)) ggX5_make_X5_isNoSecond
set_option maxRecDepth 20000 in
theorem ggX5_make_X5_no : GoodIn wsX5_make wsX5_no := goodIn_r _ [8, 9, 15, 16, 17, 18, 19, 20, 21, 22, 23, 24, 25, 26, 27, 28, 29, 30, 31, 32, 33, 34] (by decide +kernel) (by decide +kernel)
set_option maxRecDepth 20000 in
theorem gX5_make_X5_no : GoodIn wsX5_make (wsV RX5 9 RX5 yX5_no wsX5_no) := goodIn_app (goodIn_of _ (by decide +kernel)) ggX5_make_X5_no
set_option maxRecDepth 20000 in
theorem ggX5_make_X5_change : GoodIn wsX5_make wsX5_change := goodIn_r _ [13, 14, 5, 6, 7, 3, 8, 9, 15, 16, 17, 18, 19, 20, 21, 22, 23, 24, 25, 26, 27, 28, 29, 30, 31, 32, 33, 34] (by decide +kernel) (by decide +kernel)
set_option maxRecDepth 20000 in
theorem gX5_make_X5_change : GoodIn wsX5_make (wsV RX5 100 RX5 yX5_change wsX5_change) := goodIn_app (goodIn_of _ (by decide +kernel)) ggX5_make_X5_change
theorem dX5_make_0 : decode cX5_make 0 = .ok (.iload_n 1, 1) := by decide +kernel
theorem dX5_make_1 : decode cX5_make 1 = .ok (.invokestatic 93, 3) := by decide +kernel
theorem dX5_make_4 : decode cX5_make 4 = .ok (.ifCond .eq 11, 3) := by decide +kernel
theorem dX5_make_7 : decode cX5_make 7 = .ok (.aload_n 0, 1) := by decide +kernel
theorem dX5_make_8 : decode cX5_make 8 = .ok (.iconst (-1), 1) := by decide +kernel
theorem dX5_make_9 : decode cX5_make 9 = .ok (.invokevirtual 9, 3) := by decide +kernel
theorem dX5_make_12 : decode cX5_make 12 = .ok (.goto 12, 3) := by decide +kernel
theorem dX5_make_15 : decode cX5_make 15 = .ok (.aload_n 0, 1) := by decide +kernel
theorem dX5_make_16 : decode cX5_make 16 = .ok (.iload_n 1, 1) := by decide +kernel
theorem dX5_make_17 : decode cX5_make 17 = .ok (.iload_n 2, 1) := by decide +kernel
theorem dX5_make_18 : decode cX5_make 18 = .ok (.iconst 0, 1) := by decide +kernel
theorem dX5_make_19 : decode cX5_make 19 = .ok (.bipush 9, 2) := by decide +kernel
theorem dX5_make_21 : decode cX5_make 21 = .ok (.invokevirtual 100, 3) := by decide +kernel
theorem dX5_make_24 : decode cX5_make 24 = .ok (.ireturn, 1) := by decide +kernel
set_option maxRecDepth 20000 in
theorem ggX5_set_X5_no : GoodIn wsX5_set wsX5_no := goodIn_r _ [5, 6, 12, 13, 14, 15, 16, 17, 18, 19, 20, 21, 22, 23, 24, 25, 26, 27, 28, 29, 30, 31] (by decide +kernel) (by decide +kernel)
set_option maxRecDepth 20000 in
theorem gX5_set_X5_no : GoodIn wsX5_set (wsV RX5 9 RX5 yX5_no wsX5_no) := goodIn_app (goodIn_of _ (by decide +kernel)) ggX5_set_X5_no
set_option maxRecDepth 20000 in
theorem ggX5_set_X5_change : GoodIn wsX5_set wsX5_change := goodIn_r _ [10, 11, 1, 2, 3, 4, 5, 6, 12, 13, 14, 15, 16, 17, 18, 19, 20, 21, 22, 23, 24, 25, 26, 27, 28, 29, 30, 31] (by decide +kernel) (by decide +kernel)
set_option maxRecDepth 20000 in
theorem gX5_set_X5_change : GoodIn wsX5_set (wsV RX5 100 RX5 yX5_change wsX5_change) := goodIn_app (goodIn_of _ (by decide +kernel)) ggX5_set_X5_change
theorem dX5_set_0 : decode cX5_set 0 = .ok (.iload_n 1, 1) := by decide +kernel
theorem dX5_set_1 : decode cX5_set 1 = .ok (.ifCond .lt 8, 3) := by decide +kernel
theorem dX5_set_4 : decode cX5_set 4 = .ok (.iload_n 1, 1) := by decide +kernel
theorem dX5_set_5 : decode cX5_set 5 = .ok (.iconst 4, 1) := by decide +kernel
theorem dX5_set_6 : decode cX5_set 6 = .ok (.if_icmp .le 10, 3) := by decide +kernel
theorem dX5_set_9 : decode cX5_set 9 = .ok (.aload_n 0, 1) := by decide +kernel
theorem dX5_set_10 : decode cX5_set 10 = .ok (.bipush (-2), 2) := by decide +kernel
theorem dX5_set_12 : decode cX5_set 12 = .ok (.invokevirtual 9, 3) := by decide +kernel
theorem dX5_set_15 : decode cX5_set 15 = .ok (.ireturn, 1) := by decide +kernel
theorem dX5_set_16 : decode cX5_set 16 = .ok (.iload_n 1, 1) := by decide +kernel
theorem dX5_set_17 : decode cX5_set 17 = .ok (.ifCond .ne 7, 3) := by decide +kernel
theorem dX5_set_20 : decode cX5_set 20 = .ok (.iconst 2, 1) := by decide +kernel
theorem dX5_set_21 : decode cX5_set 21 = .ok (.goto 13, 3) := by decide +kernel
theorem dX5_set_24 : decode cX5_set 24 = .ok (.iload_n 1, 1) := by decide +kernel
theorem dX5_set_25 : decode cX5_set 25 = .ok (.iconst 1, 1) := by decide +kernel
theorem dX5_set_26 : decode cX5_set 26 = .ok (.if_icmp .ne 7, 3) := by decide +kernel
theorem dX5_set_29 : decode cX5_set 29 = .ok (.iconst 1, 1) := by decide +kernel
theorem dX5_set_30 : decode cX5_set 30 = .ok (.goto 4, 3) := by decide +kernel
theorem dX5_set_33 : decode cX5_set 33 = .ok (.iconst 0, 1) := by decide +kernel
theorem dX5_set_34 : decode cX5_set 34 = .ok (.istore_n 3, 1) := by decide +kernel
theorem dX5_set_35 : decode cX5_set 35 = .ok (.iload_n 1, 1) := by decide +kernel
theorem dX5_set_36 : decode cX5_set 36 = .ok (.ifCond .ne 8, 3) := by decide +kernel
theorem dX5_set_39 : decode cX5_set 39 = .ok (.bipush 7, 2) := by decide +kernel
theorem dX5_set_41 : decode cX5_set 41 = .ok (.goto 15, 3) := by decide +kernel
theorem dX5_set_44 : decode cX5_set 44 = .ok (.iload_n 1, 1) := by decide +kernel
theorem dX5_set_45 : decode cX5_set 45 = .ok (.iconst 3, 1) := by decide +kernel
theorem dX5_set_46 : decode cX5_set 46 = .ok (.if_icmp .ge 8, 3) := by decide +kernel
theorem dX5_set_49 : decode cX5_set 49 = .ok (.bipush 9, 2) := by decide +kernel
theorem dX5_set_51 : decode cX5_set 51 = .ok (.goto 5, 3) := by decide +kernel
theorem dX5_set_54 : decode cX5_set 54 = .ok (.bipush 99, 2) := by decide +kernel
theorem dX5_set_56 : decode cX5_set 56 = .ok (.istore 4, 2) := by decide +kernel
theorem dX5_set_58 : decode cX5_set 58 = .ok (.aload_n 0, 1) := by decide +kernel
theorem dX5_set_59 : decode cX5_set 59 = .ok (.bipush 41, 2) := by decide +kernel
theorem dX5_set_61 : decode cX5_set 61 = .ok (.iload_n 1, 1) := by decide +kernel
theorem dX5_set_62 : decode cX5_set 62 = .ok (.iadd, 1) := by decide +kernel
theorem dX5_set_63 : decode cX5_set 63 = .ok (.iload_n 2, 1) := by decide +kernel
theorem dX5_set_64 : decode cX5_set 64 = .ok (.iload_n 3, 1) := by decide +kernel
theorem dX5_set_65 : decode cX5_set 65 = .ok (.iload 4, 2) := by decide +kernel
theorem dX5_set_67 : decode cX5_set 67 = .ok (.invokevirtual 100, 3) := by decide +kernel
theorem dX5_set_70 : decode cX5_set 70 = .ok (.ireturn, 1) := by decide +kernel
set_option maxRecDepth 20000 in
theorem ggX5_kind_X5_no : GoodIn wsX5_kind wsX5_no := goodIn_r _ [5, 6, 12, 13, 14, 15, 16, 17, 18, 19, 20, 21, 22, 23, 24, 25, 26, 27, 28, 29, 30, 31] (by decide +kernel) (by decide +kernel)
set_option maxRecDepth 20000 in
theorem gX5_kind_X5_no : GoodIn wsX5_kind (wsV RX5 9 RX5 yX5_no wsX5_no) := goodIn_app (goodIn_of _ (by decide +kernel)) ggX5_kind_X5_no
set_option maxRecDepth 20000 in
theorem ggX5_kind_X5_change : GoodIn wsX5_kind wsX5_change := goodIn_r _ [10, 11, 1, 2, 3, 4, 5, 6, 12, 13, 14, 15, 16, 17, 18, 19, 20, 21, 22, 23, 24, 25, 26, 27, 28, 29, 30, 31] (by decide +kernel) (by decide +kernel)
set_option maxRecDepth 20000 in
theorem gX5_kind_X5_change : GoodIn wsX5_kind (wsV RX5 100 RX5 yX5_change wsX5_change) := goodIn_app (goodIn_of _ (by decide +kernel)) ggX5_kind_X5_change
theorem dX5_kind_0 : decode cX5_kind 0 = .ok (.iload_n 1, 1) := by decide +kernel
theorem dX5_kind_1 : decode cX5_kind 1 = .ok (.ifCond .eq 8, 3) := by decide +kernel
theorem dX5_kind_4 : decode cX5_kind 4 = .ok (.iload_n 1, 1) := by decide +kernel
theorem dX5_kind_5 : decode cX5_kind 5 = .ok (.iconst 1, 1) := by decide +kernel
theorem dX5_kind_6 : decode cX5_kind 6 = .ok (.if_icmp .ne 14, 3) := by decide +kernel
theorem dX5_kind_9 : decode cX5_kind 9 = .ok (.iload_n 2, 1) := by decide +kernel
theorem dX5_kind_10 : decode cX5_kind 10 = .ok (.ifCond .lt 10, 3) := by decide +kernel
theorem dX5_kind_13 : decode cX5_kind 13 = .ok (.iload_n 2, 1) := by decide +kernel
theorem dX5_kind_14 : decode cX5_kind 14 = .ok (.iconst 3, 1) := by decide +kernel
theorem dX5_kind_15 : decode cX5_kind 15 = .ok (.iload_n 1, 1) := by decide +kernel
theorem dX5_kind_16 : decode cX5_kind 16 = .ok (.iadd, 1) := by decide +kernel
theorem dX5_kind_17 : decode cX5_kind 17 = .ok (.if_icmp .le 10, 3) := by decide +kernel
theorem dX5_kind_20 : decode cX5_kind 20 = .ok (.aload_n 0, 1) := by decide +kernel
theorem dX5_kind_21 : decode cX5_kind 21 = .ok (.bipush (-2), 2) := by decide +kernel
theorem dX5_kind_23 : decode cX5_kind 23 = .ok (.invokevirtual 9, 3) := by decide +kernel
theorem dX5_kind_26 : decode cX5_kind 26 = .ok (.ireturn, 1) := by decide +kernel
theorem dX5_kind_27 : decode cX5_kind 27 = .ok (.aload_n 0, 1) := by decide +kernel
theorem dX5_kind_28 : decode cX5_kind 28 = .ok (.bipush 46, 2) := by decide +kernel
theorem dX5_kind_30 : decode cX5_kind 30 = .ok (.iload_n 1, 1) := by decide +kernel
theorem dX5_kind_31 : decode cX5_kind 31 = .ok (.iadd, 1) := by decide +kernel
theorem dX5_kind_32 : decode cX5_kind 32 = .ok (.iload_n 2, 1) := by decide +kernel
theorem dX5_kind_33 : decode cX5_kind 33 = .ok (.iconst 0, 1) := by decide +kernel
theorem dX5_kind_34 : decode cX5_kind 34 = .ok (.iconst 4, 1) := by decide +kernel
theorem dX5_kind_35 : decode cX5_kind 35 = .ok (.invokevirtual 100, 3) := by decide +kernel
theorem dX5_kind_38 : decode cX5_kind 38 = .ok (.ireturn, 1) := by decide +kernel
set_option maxRecDepth 20000 in
theorem ggX5_part_X5_tells : GoodIn wsX5_part wsX5_tells := goodIn_r _ [8, 9, 10, 11, 12, 13, 14, 15, 16, 17, 18, 19, 7, 20, 21, 22, 23, 24, 25, 26, 27, 28, 29, 30, 31, 32, 33, 34, 35, 36, 37, 38, 39, 40, 41, 42, 43, 44, 45, 46, 47] (by decide +kernel) (by decide +kernel)
set_option maxRecDepth 20000 in
theorem gX5_part_X5_tells : GoodIn wsX5_part (wsV RX5 97 RX5 yX5_tells wsX5_tells) := goodIn_app (goodIn_of _ (by decide +kernel)) ggX5_part_X5_tells
theorem dX5_part_0 : decode cX5_part 0 = .ok (.iconst 0, 1) := by decide +kernel
theorem dX5_part_1 : decode cX5_part 1 = .ok (.istore_n 3, 1) := by decide +kernel

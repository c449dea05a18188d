theorem dX4_bestKind_37 : decode cX4_bestKind 37 = .ok (.getfield 36, 3) := by decide +kernel
theorem dX4_bestKind_40 : decode cX4_bestKind 40 = .ok (.aload_n 0, 1) := by decide +kernel
theorem dX4_bestKind_41 : decode cX4_bestKind 41 = .ok (.getfield 10, 3) := by decide +kernel
theorem dX4_bestKind_44 : decode cX4_bestKind 44 = .ok (.iload 5, 2) := by decide +kernel
theorem dX4_bestKind_46 : decode cX4_bestKind 46 = .ok (.invokevirtual 140, 3) := by decide +kernel
theorem dX4_bestKind_49 : decode cX4_bestKind 49 = .ok (.aload_n 0, 1) := by decide +kernel
theorem dX4_bestKind_50 : decode cX4_bestKind 50 = .ok (.getfield 36, 3) := by decide +kernel
theorem dX4_bestKind_53 : decode cX4_bestKind 53 = .ok (.aload_n 0, 1) := by decide +kernel
theorem dX4_bestKind_54 : decode cX4_bestKind 54 = .ok (.getfield 36, 3) := by decide +kernel
theorem dX4_bestKind_57 : decode cX4_bestKind 57 = .ok (.iconst 0, 1) := by decide +kernel
theorem dX4_bestKind_58 : decode cX4_bestKind 58 = .ok (.aload_n 0, 1) := by decide +kernel
theorem dX4_bestKind_59 : decode cX4_bestKind 59 = .ok (.getfield 10, 3) := by decide +kernel
theorem dX4_bestKind_62 : decode cX4_bestKind 62 = .ok (.lload_n 1, 1) := by decide +kernel
theorem dX4_bestKind_63 : decode cX4_bestKind 63 = .ok (.invokevirtual 176, 3) := by decide +kernel
theorem dX4_bestKind_66 : decode cX4_bestKind 66 = .ok (.lload_n 1, 1) := by decide +kernel
theorem dX4_bestKind_67 : decode cX4_bestKind 67 = .ok (.invokevirtual 152, 3) := by decide +kernel
theorem dX4_bestKind_70 : decode cX4_bestKind 70 = .ok (.istore 6, 2) := by decide +kernel
theorem dX4_bestKind_72 : decode cX4_bestKind 72 = .ok (.iload 6, 2) := by decide +kernel
theorem dX4_bestKind_74 : decode cX4_bestKind 74 = .ok (.iload 4, 2) := by decide +kernel
theorem dX4_bestKind_76 : decode cX4_bestKind 76 = .ok (.if_icmp .ge 10, 3) := by decide +kernel
theorem dX4_bestKind_79 : decode cX4_bestKind 79 = .ok (.iload 6, 2) := by decide +kernel
theorem dX4_bestKind_81 : decode cX4_bestKind 81 = .ok (.istore 4, 2) := by decide +kernel
theorem dX4_bestKind_83 : decode cX4_bestKind 83 = .ok (.iload 5, 2) := by decide +kernel
theorem dX4_bestKind_85 : decode cX4_bestKind 85 = .ok (.istore_n 3, 1) := by decide +kernel
theorem dX4_bestKind_86 : decode cX4_bestKind 86 = .ok (.iinc 5 1, 3) := by decide +kernel
theorem dX4_bestKind_89 : decode cX4_bestKind 89 = .ok (.goto (-59), 3) := by decide +kernel
theorem dX4_bestKind_92 : decode cX4_bestKind 92 = .ok (.iload_n 3, 1) := by decide +kernel
theorem dX4_bestKind_93 : decode cX4_bestKind 93 = .ok (.ireturn, 1) := by decide +kernel
set_option maxRecDepth 20000 in
theorem ggX4_give_X0_left : GoodIn wsX4_give wsX0_left := goodIn_r _ [6, 7, 39, 40, 41, 42, 43] (by decide +kernel) (by decide +kernel)
set_option maxRecDepth 20000 in
theorem gX4_give_X0_left : GoodIn wsX4_give (wsV RX4 144 RX0 yX0_left wsX0_left) := goodIn_app (goodIn_of _ (by decide +kernel)) ggX4_give_X0_left
set_option maxRecDepth 20000 in
theorem ggX4_give_X4_refuse : GoodIn wsX4_give wsX4_refuse := goodIn_r _ [12, 13, 29, 30, 31, 32, 33, 34, 35, 36, 37, 38] (by decide +kernel) (by decide +kernel)
set_option maxRecDepth 20000 in
theorem gX4_give_X4_refuse : GoodIn wsX4_give (wsV RX4 58 RX4 yX4_refuse wsX4_refuse) := goodIn_app (goodIn_of _ (by decide +kernel)) ggX4_give_X4_refuse
set_option maxRecDepth 20000 in
theorem ggX4_give_X0_sheetFor : GoodIn wsX4_give wsX0_sheetFor := goodIn_r _ [17, 18, 19, 20, 5, 21, 7, 22, 23, 24, 25, 26, 27, 11, 28, 39, 40, 41, 42, 43] (by decide +kernel) (by decide +kernel)
set_option maxRecDepth 20000 in
theorem gX4_give_X0_sheetFor : GoodIn wsX4_give (wsV RX4 180 RX0 yX0_sheetFor wsX0_sheetFor) := goodIn_app (goodIn_of _ (by decide +kernel)) ggX4_give_X0_sheetFor
theorem dX4_give_0 : decode cX4_give 0 = .ok (.aload_n 0, 1) := by decide +kernel
theorem dX4_give_1 : decode cX4_give 1 = .ok (.getfield 10, 3) := by decide +kernel
theorem dX4_give_4 : decode cX4_give 4 = .ok (.invokevirtual 144, 3) := by decide +kernel
theorem dX4_give_7 : decode cX4_give 7 = .ok (.lstore_n 1, 1) := by decide +kernel
theorem dX4_give_8 : decode cX4_give 8 = .ok (.lload_n 1, 1) := by decide +kernel
theorem dX4_give_9 : decode cX4_give 9 = .ok (.lconst 0, 1) := by decide +kernel
theorem dX4_give_10 : decode cX4_give 10 = .ok (.lcmp, 1) := by decide +kernel
theorem dX4_give_11 : decode cX4_give 11 = .ok (.ifCond .ne 10, 3) := by decide +kernel
theorem dX4_give_14 : decode cX4_give 14 = .ok (.aload_n 0, 1) := by decide +kernel
theorem dX4_give_15 : decode cX4_give 15 = .ok (.bipush (-3), 2) := by decide +kernel
theorem dX4_give_17 : decode cX4_give 17 = .ok (.invokevirtual 58, 3) := by decide +kernel
theorem dX4_give_20 : decode cX4_give 20 = .ok (.ireturn, 1) := by decide +kernel
theorem dX4_give_21 : decode cX4_give 21 = .ok (.aload_n 0, 1) := by decide +kernel
theorem dX4_give_22 : decode cX4_give 22 = .ok (.getfield 10, 3) := by decide +kernel
theorem dX4_give_25 : decode cX4_give 25 = .ok (.lload_n 1, 1) := by decide +kernel
theorem dX4_give_26 : decode cX4_give 26 = .ok (.invokevirtual 180, 3) := by decide +kernel
theorem dX4_give_29 : decode cX4_give 29 = .ok (.ireturn, 1) := by decide +kernel
set_option maxRecDepth 20000 in
theorem ggX4_faults_X4_isPart : GoodIn wsX4_faults wsX4_isPart := goodIn_r _ [5] (by decide +kernel) (by decide +kernel)
set_option maxRecDepth 20000 in
theorem gX4_faults_X4_isPart : GoodIn wsX4_faults (va_wsS RX4 159 yX4_isPart wsX4_isPart) := goodIn_app (goodIn_of _ (by decide +kernel)) ggX4_faults_X4_isPart
set_option maxRecDepth 20000 in
theorem ggX4_faults_X4_refuseLong : GoodIn wsX4_faults wsX4_refuseLong := goodIn_r _ [9, 10, 11, 12, 13, 4, 14, 15, 51, 52, 53, 54, 55, 56, 57, 58, 59, 60] (by decide +kernel) (by decide +kernel)
set_option maxRecDepth 20000 in
theorem gX4_faults_X4_refuseLong : GoodIn wsX4_faults (wsV RX4 155 RX4 yX4_refuseLong wsX4_refuseLong) := goodIn_app (goodIn_of _ (by decide +kernel)) ggX4_faults_X4_refuseLong
set_option maxRecDepth 20000 in
theorem ggX4_faults_X0_left : GoodIn wsX4_faults wsX0_left := goodIn_r _ [20, 21, 61, 62, 63, 64, 65] (by decide +kernel) (by decide +kernel)
set_option maxRecDepth 20000 in
theorem gX4_faults_X0_left : GoodIn wsX4_faults (wsV RX4 144 RX0 yX0_left wsX0_left) := goodIn_app (goodIn_of _ (by decide +kernel)) ggX4_faults_X0_left
set_option maxRecDepth 20000 in
theorem ggX4_faults_X0_leastFaults : GoodIn wsX4_faults wsX0_leastFaults := goodIn_r _ [25, 26, 27, 28, 19, 29, 30, 31, 32, 33, 21, 34, 35, 36, 37, 38, 39, 4, 40, 61, 62, 63, 64, 65] (by decide +kernel) (by decide +kernel)
set_option maxRecDepth 20000 in
theorem gX4_faults_X0_leastFaults : GoodIn wsX4_faults (wsV RX4 183 RX0 yX0_leastFaults wsX0_leastFaults) := goodIn_app (goodIn_of _ (by decide +kernel)) ggX4_faults_X0_leastFaults
set_option maxRecDepth 20000 in
theorem ggX4_faults_X0_weightOf : GoodIn wsX4_faults wsX0_weightOf := goodIn_r _ [44, 21, 39, 4, 40, 61, 62, 63, 64, 65] (by decide +kernel) (by decide +kernel)
set_option maxRecDepth 20000 in
theorem gX4_faults_X0_weightOf : GoodIn wsX4_faults (wsV RX4 166 RX0 yX0_weightOf wsX0_weightOf) := goodIn_app (goodIn_of _ (by decide +kernel)) ggX4_faults_X0_weightOf
set_option maxRecDepth 20000 in
theorem ggX4_faults_X4_fraction : GoodIn wsX4_faults wsX4_fraction := goodIn_r _ [47, 48, 49, 4, 50] (by decide +kernel) (by decide +kernel)
set_option maxRecDepth 20000 in
theorem gX4_faults_X4_fraction : GoodIn wsX4_faults (va_wsS RX4 169 yX4_fraction wsX4_fraction) := goodIn_app (goodIn_of _ (by decide +kernel)) ggX4_faults_X4_fraction
theorem dX4_faults_0 : decode cX4_faults 0 = .ok (.iload_n 1, 1) := by decide +kernel
theorem dX4_faults_1 : decode cX4_faults 1 = .ok (.invokestatic 159, 3) := by decide +kernel
theorem dX4_faults_4 : decode cX4_faults 4 = .ok (.ifCond .ne 10, 3) := by decide +kernel
theorem dX4_faults_7 : decode cX4_faults 7 = .ok (.aload_n 0, 1) := by decide +kernel
theorem dX4_faults_8 : decode cX4_faults 8 = .ok (.bipush (-2), 2) := by decide +kernel
theorem dX4_faults_10 : decode cX4_faults 10 = .ok (.invokevirtual 155, 3) := by decide +kernel
theorem dX4_faults_13 : decode cX4_faults 13 = .ok (.lreturn, 1) := by decide +kernel
theorem dX4_faults_14 : decode cX4_faults 14 = .ok (.aload_n 0, 1) := by decide +kernel
theorem dX4_faults_15 : decode cX4_faults 15 = .ok (.getfield 10, 3) := by decide +kernel
theorem dX4_faults_18 : decode cX4_faults 18 = .ok (.invokevirtual 144, 3) := by decide +kernel
theorem dX4_faults_21 : decode cX4_faults 21 = .ok (.lstore_n 2, 1) := by decide +kernel
theorem dX4_faults_22 : decode cX4_faults 22 = .ok (.lload_n 2, 1) := by decide +kernel
theorem dX4_faults_23 : decode cX4_faults 23 = .ok (.lconst 0, 1) := by decide +kernel
theorem dX4_faults_24 : decode cX4_faults 24 = .ok (.lcmp, 1) := by decide +kernel
theorem dX4_faults_25 : decode cX4_faults 25 = .ok (.ifCond .ne 10, 3) := by decide +kernel
theorem dX4_faults_28 : decode cX4_faults 28 = .ok (.aload_n 0, 1) := by decide +kernel
theorem dX4_faults_29 : decode cX4_faults 29 = .ok (.bipush (-3), 2) := by decide +kernel
theorem dX4_faults_31 : decode cX4_faults 31 = .ok (.invokevirtual 155, 3) := by decide +kernel
theorem dX4_faults_34 : decode cX4_faults 34 = .ok (.lreturn, 1) := by decide +kernel
theorem dX4_faults_35 : decode cX4_faults 35 = .ok (.aload_n 0, 1) := by decide +kernel
theorem dX4_faults_36 : decode cX4_faults 36 = .ok (.getfield 10, 3) := by decide +kernel
theorem dX4_faults_39 : decode cX4_faults 39 = .ok (.lload_n 2, 1) := by decide +kernel
theorem dX4_faults_40 : decode cX4_faults 40 = .ok (.invokevirtual 183, 3) := by decide +kernel
theorem dX4_faults_43 : decode cX4_faults 43 = .ok (.aload_n 0, 1) := by decide +kernel
theorem dX4_faults_44 : decode cX4_faults 44 = .ok (.getfield 10, 3) := by decide +kernel
theorem dX4_faults_47 : decode cX4_faults 47 = .ok (.lload_n 2, 1) := by decide +kernel
theorem dX4_faults_48 : decode cX4_faults 48 = .ok (.invokevirtual 166, 3) := by decide +kernel
theorem dX4_faults_51 : decode cX4_faults 51 = .ok (.i2l, 1) := by decide +kernel
theorem dX4_faults_52 : decode cX4_faults 52 = .ok (.iload_n 1, 1) := by decide +kernel
theorem dX4_faults_53 : decode cX4_faults 53 = .ok (.invokestatic 169, 3) := by decide +kernel
theorem dX4_faults_56 : decode cX4_faults 56 = .ok (.lreturn, 1) := by decide +kernel
set_option maxRecDepth 20000 in
theorem ggX4_goOn_X0_left : GoodIn wsX4_goOn wsX0_left := goodIn_r _ [7, 8, 144, 145, 146, 147, 148] (by decide +kernel) (by decide +kernel)
set_option maxRecDepth 20000 in
theorem gX4_goOn_X0_left : GoodIn wsX4_goOn (wsV RX4 144 RX0 yX0_left wsX0_left) := goodIn_app (goodIn_of _ (by decide +kernel)) ggX4_goOn_X0_left
set_option maxRecDepth 20000 in
theorem ggX4_goOn_X4_refuse : GoodIn wsX4_goOn wsX4_refuse := goodIn_r _ [13, 14, 134, 135, 136, 137, 138, 139, 140, 141, 142, 143] (by decide +kernel) (by decide +kernel)
set_option maxRecDepth 20000 in
theorem gX4_goOn_X4_refuse : GoodIn wsX4_goOn (wsV RX4 58 RX4 yX4_refuse wsX4_refuse) := goodIn_app (goodIn_of _ (by decide +kernel)) ggX4_goOn_X4_refuse
set_option maxRecDepth 20000 in
theorem ggX4_goOn_X0_weightOf : GoodIn wsX4_goOn wsX0_weightOf := goodIn_r _ [18, 8, 19, 12, 20, 144, 145, 146, 147, 148] (by decide +kernel) (by decide +kernel)
set_option maxRecDepth 20000 in
theorem gX4_goOn_X0_weightOf : GoodIn wsX4_goOn (wsV RX4 166 RX0 yX0_weightOf wsX0_weightOf) := goodIn_app (goodIn_of _ (by decide +kernel)) ggX4_goOn_X0_weightOf
set_option maxRecDepth 20000 in
theorem ggX4_goOn_X4_faultsBehindStrip : GoodIn wsX4_goOn wsX4_faultsBehindStrip := goodIn_r _ [24, 25, 1, 26, 27, 28, 29, 30, 31, 32, 33, 34, 35, 36, 12, 37, 38, 39, 40, 41, 42, 43, 44, 45, 46, 47, 48, 49, 50, 51, 52, 53, 54, 55, 56, 57, 58, 59, 60, 61, 62, 63, 64, 65, 66, 67, 68, 69, 70, 71, 72, 73, 74, 75, 76, 77, 78, 79, 80, 81, 82, 83, 84, 85, 86, 87, 88, 89, 90, 91, 92, 93, 94, 95, 96, 16, 17, 6, 18, 8, 19, 20, 97, 98, 99, 100, 101, 102, 103, 104, 105, 106, 107, 108, 109, 110, 111, 112, 113, 114, 115, 116, 117, 118, 119, 120, 121, 122, 123, 124, 125, 126, 127, 128, 129, 130, 131, 132, 134, 135, 136, 137, 138, 139, 140, 141, 142, 143, 144, 145, 146, 147, 148, 149, 150, 151, 152, 153, 154, 155] (by decide +kernel) (by decide +kernel)
set_option maxRecDepth 20000 in
theorem gX4_goOn_X4_faultsBehindStrip : GoodIn wsX4_goOn (wsV RX4 187 RX4 yX4_faultsBehindStrip wsX4_faultsBehindStrip) := goodIn_app (goodIn_of _ (by decide +kernel)) ggX4_goOn_X4_faultsBehindStrip
set_option maxRecDepth 20000 in
theorem ggX4_goOn_X0_leastFaults : GoodIn wsX4_goOn wsX0_leastFaults := goodIn_r _ [122, 123, 124, 125, 6, 126, 127, 128, 129, 130, 8, 131, 70, 52, 71, 132, 19, 12, 20, 144, 145, 146, 147, 148] (by decide +kernel) (by decide +kernel)
set_option maxRecDepth 20000 in
theorem gX4_goOn_X0_leastFaults : GoodIn wsX4_goOn (wsV RX4 183 RX0 yX0_leastFaults wsX0_leastFaults) := goodIn_app (goodIn_of _ (by decide +kernel)) ggX4_goOn_X0_leastFaults
theorem dX4_goOn_0 : decode cX4_goOn 0 = .ok (.aload_n 0, 1) := by decide +kernel
theorem dX4_goOn_1 : decode cX4_goOn 1 = .ok (.getfield 10, 3) := by decide +kernel
theorem dX4_goOn_4 : decode cX4_goOn 4 = .ok (.invokevirtual 144, 3) := by decide +kernel
theorem dX4_goOn_7 : decode cX4_goOn 7 = .ok (.lstore_n 1, 1) := by decide +kernel
theorem dX4_goOn_8 : decode cX4_goOn 8 = .ok (.lload_n 1, 1) := by decide +kernel
theorem dX4_goOn_9 : decode cX4_goOn 9 = .ok (.lconst 0, 1) := by decide +kernel
theorem dX4_goOn_10 : decode cX4_goOn 10 = .ok (.lcmp, 1) := by decide +kernel
theorem dX4_goOn_11 : decode cX4_goOn 11 = .ok (.ifCond .ne 10, 3) := by decide +kernel
theorem dX4_goOn_14 : decode cX4_goOn 14 = .ok (.aload_n 0, 1) := by decide +kernel
theorem dX4_goOn_15 : decode cX4_goOn 15 = .ok (.bipush (-3), 2) := by decide +kernel
theorem dX4_goOn_17 : decode cX4_goOn 17 = .ok (.invokevirtual 58, 3) := by decide +kernel
theorem dX4_goOn_20 : decode cX4_goOn 20 = .ok (.ireturn, 1) := by decide +kernel
theorem dX4_goOn_21 : decode cX4_goOn 21 = .ok (.aload_n 0, 1) := by decide +kernel
theorem dX4_goOn_22 : decode cX4_goOn 22 = .ok (.getfield 10, 3) := by decide +kernel
theorem dX4_goOn_25 : decode cX4_goOn 25 = .ok (.getfield 93, 3) := by decide +kernel
theorem dX4_goOn_28 : decode cX4_goOn 28 = .ok (.iconst 3, 1) := by decide +kernel
theorem dX4_goOn_29 : decode cX4_goOn 29 = .ok (.iaload, 1) := by decide +kernel
theorem dX4_goOn_30 : decode cX4_goOn 30 = .ok (.i2l, 1) := by decide +kernel
theorem dX4_goOn_31 : decode cX4_goOn 31 = .ok (.aload_n 0, 1) := by decide +kernel
theorem dX4_goOn_32 : decode cX4_goOn 32 = .ok (.getfield 10, 3) := by decide +kernel
theorem dX4_goOn_35 : decode cX4_goOn 35 = .ok (.lload_n 1, 1) := by decide +kernel
theorem dX4_goOn_36 : decode cX4_goOn 36 = .ok (.invokevirtual 166, 3) := by decide +kernel
theorem dX4_goOn_39 : decode cX4_goOn 39 = .ok (.i2l, 1) := by decide +kernel
theorem dX4_goOn_40 : decode cX4_goOn 40 = .ok (.lmul, 1) := by decide +kernel
theorem dX4_goOn_41 : decode cX4_goOn 41 = .ok (.aload_n 0, 1) := by decide +kernel
theorem dX4_goOn_42 : decode cX4_goOn 42 = .ok (.lload_n 1, 1) := by decide +kernel
theorem dX4_goOn_43 : decode cX4_goOn 43 = .ok (.invokevirtual 187, 3) := by decide +kernel
theorem dX4_goOn_46 : decode cX4_goOn 46 = .ok (.ladd, 1) := by decide +kernel
theorem dX4_goOn_47 : decode cX4_goOn 47 = .ok (.lstore_n 3, 1) := by decide +kernel
theorem dX4_goOn_48 : decode cX4_goOn 48 = .ok (.lload_n 3, 1) := by decide +kernel
theorem dX4_goOn_49 : decode cX4_goOn 49 = .ok (.aload_n 0, 1) := by decide +kernel
theorem dX4_goOn_50 : decode cX4_goOn 50 = .ok (.getfield 10, 3) := by decide +kernel
theorem dX4_goOn_53 : decode cX4_goOn 53 = .ok (.lload_n 1, 1) := by decide +kernel
theorem dX4_goOn_54 : decode cX4_goOn 54 = .ok (.invokevirtual 183, 3) := by decide +kernel
theorem dX4_goOn_57 : decode cX4_goOn 57 = .ok (.lcmp, 1) := by decide +kernel
theorem dX4_goOn_58 : decode cX4_goOn 58 = .ok (.ifCond .ge 7, 3) := by decide +kernel
theorem dX4_goOn_61 : decode cX4_goOn 61 = .ok (.iconst 1, 1) := by decide +kernel
theorem dX4_goOn_62 : decode cX4_goOn 62 = .ok (.goto 4, 3) := by decide +kernel
theorem dX4_goOn_65 : decode cX4_goOn 65 = .ok (.iconst 0, 1) := by decide +kernel
theorem dX4_goOn_66 : decode cX4_goOn 66 = .ok (.ireturn, 1) := by decide +kernel
set_option maxRecDepth 20000 in
theorem ggX4_goOnCosts_X4_isPart : GoodIn wsX4_goOnCosts wsX4_isPart := goodIn_r _ [6] (by decide +kernel) (by decide +kernel)
set_option maxRecDepth 20000 in
theorem gX4_goOnCosts_X4_isPart : GoodIn wsX4_goOnCosts (va_wsS RX4 159 yX4_isPart wsX4_isPart) := goodIn_app (goodIn_of _ (by decide +kernel)) ggX4_goOnCosts_X4_isPart
set_option maxRecDepth 20000 in
theorem ggX4_goOnCosts_X4_refuseLong : GoodIn wsX4_goOnCosts wsX4_refuseLong := goodIn_r _ [10, 11, 12, 13, 14, 5, 15, 16, 147, 148, 149, 150, 151, 152, 153, 154, 155, 156] (by decide +kernel) (by decide +kernel)
set_option maxRecDepth 20000 in
theorem gX4_goOnCosts_X4_refuseLong : GoodIn wsX4_goOnCosts (wsV RX4 155 RX4 yX4_refuseLong wsX4_refuseLong) := goodIn_app (goodIn_of _ (by decide +kernel)) ggX4_goOnCosts_X4_refuseLong
set_option maxRecDepth 20000 in
theorem ggX4_goOnCosts_X0_left : GoodIn wsX4_goOnCosts wsX0_left := goodIn_r _ [21, 22, 157, 158, 159, 160, 161] (by decide +kernel) (by decide +kernel)
set_option maxRecDepth 20000 in
theorem gX4_goOnCosts_X0_left : GoodIn wsX4_goOnCosts (wsV RX4 144 RX0 yX0_left wsX0_left) := goodIn_app (goodIn_of _ (by decide +kernel)) ggX4_goOnCosts_X0_left
set_option maxRecDepth 20000 in
theorem ggX4_goOnCosts_X0_weightOf : GoodIn wsX4_goOnCosts wsX0_weightOf := goodIn_r _ [26, 22, 27, 5, 28, 157, 158, 159, 160, 161] (by decide +kernel) (by decide +kernel)
set_option maxRecDepth 20000 in
theorem gX4_goOnCosts_X0_weightOf : GoodIn wsX4_goOnCosts (wsV RX4 166 RX0 yX0_weightOf wsX0_weightOf) := goodIn_app (goodIn_of _ (by decide +kernel)) ggX4_goOnCosts_X0_weightOf
set_option maxRecDepth 20000 in
theorem ggX4_goOnCosts_X4_faultsBehindStrip : GoodIn wsX4_goOnCosts wsX4_faultsBehindStrip := goodIn_r _ [32, 33, 1, 34, 35, 36, 37, 38, 39, 40, 41, 42, 43, 44, 5, 45, 46, 47, 48, 49, 50, 51, 52, 53, 54, 55, 56, 57, 58, 59, 60, 61, 62, 63, 64, 65, 66, 67, 68, 69, 70, 71, 72, 73, 74, 75, 76, 77, 78, 79, 80, 81, 82, 83, 84, 85, 86, 87, 88, 89, 90, 91, 92, 93, 94, 95, 96, 97, 98, 99, 100, 101, 102, 103, 104, 24, 25, 20, 26, 22, 27, 28, 105, 106, 107, 108, 109, 110, 111, 112, 113, 114, 115, 116, 117, 118, 119, 120, 121, 122, 123, 124, 125, 126, 127, 128, 129, 130, 131, 132, 133, 134, 135, 136, 137, 138, 139, 140, 147, 148, 149, 150, 151, 152, 153, 154, 155, 156, 157, 158, 159, 160, 161, 162, 163, 164, 165, 166, 167, 168] (by decide +kernel) (by decide +kernel)
set_option maxRecDepth 20000 in
theorem gX4_goOnCosts_X4_faultsBehindStrip : GoodIn wsX4_goOnCosts (wsV RX4 187 RX4 yX4_faultsBehindStrip wsX4_faultsBehindStrip) := goodIn_app (goodIn_of _ (by decide +kernel)) ggX4_goOnCosts_X4_faultsBehindStrip
set_option maxRecDepth 20000 in
theorem ggX4_goOnCosts_X4_fraction : GoodIn wsX4_goOnCosts wsX4_fraction := goodIn_r _ [143, 144, 145, 5, 146] (by decide +kernel) (by decide +kernel)
set_option maxRecDepth 20000 in
theorem gX4_goOnCosts_X4_fraction : GoodIn wsX4_goOnCosts (va_wsS RX4 169 yX4_fraction wsX4_fraction) := goodIn_app (goodIn_of _ (by decide +kernel)) ggX4_goOnCosts_X4_fraction
theorem dX4_goOnCosts_0 : decode cX4_goOnCosts 0 = .ok (.iload_n 1, 1) := by decide +kernel
theorem dX4_goOnCosts_1 : decode cX4_goOnCosts 1 = .ok (.invokestatic 159, 3) := by decide +kernel
theorem dX4_goOnCosts_4 : decode cX4_goOnCosts 4 = .ok (.ifCond .ne 10, 3) := by decide +kernel
theorem dX4_goOnCosts_7 : decode cX4_goOnCosts 7 = .ok (.aload_n 0, 1) := by decide +kernel
theorem dX4_goOnCosts_8 : decode cX4_goOnCosts 8 = .ok (.bipush (-2), 2) := by decide +kernel
theorem dX4_goOnCosts_10 : decode cX4_goOnCosts 10 = .ok (.invokevirtual 155, 3) := by decide +kernel
theorem dX4_goOnCosts_13 : decode cX4_goOnCosts 13 = .ok (.lreturn, 1) := by decide +kernel
theorem dX4_goOnCosts_14 : decode cX4_goOnCosts 14 = .ok (.aload_n 0, 1) := by decide +kernel
theorem dX4_goOnCosts_15 : decode cX4_goOnCosts 15 = .ok (.getfield 10, 3) := by decide +kernel
theorem dX4_goOnCosts_18 : decode cX4_goOnCosts 18 = .ok (.invokevirtual 144, 3) := by decide +kernel
theorem dX4_goOnCosts_21 : decode cX4_goOnCosts 21 = .ok (.lstore_n 2, 1) := by decide +kernel
theorem dX4_goOnCosts_22 : decode cX4_goOnCosts 22 = .ok (.lload_n 2, 1) := by decide +kernel
theorem dX4_goOnCosts_23 : decode cX4_goOnCosts 23 = .ok (.lconst 0, 1) := by decide +kernel
theorem dX4_goOnCosts_24 : decode cX4_goOnCosts 24 = .ok (.lcmp, 1) := by decide +kernel
theorem dX4_goOnCosts_25 : decode cX4_goOnCosts 25 = .ok (.ifCond .ne 10, 3) := by decide +kernel
theorem dX4_goOnCosts_28 : decode cX4_goOnCosts 28 = .ok (.aload_n 0, 1) := by decide +kernel
theorem dX4_goOnCosts_29 : decode cX4_goOnCosts 29 = .ok (.bipush (-3), 2) := by decide +kernel
theorem dX4_goOnCosts_31 : decode cX4_goOnCosts 31 = .ok (.invokevirtual 155, 3) := by decide +kernel
theorem dX4_goOnCosts_34 : decode cX4_goOnCosts 34 = .ok (.lreturn, 1) := by decide +kernel
theorem dX4_goOnCosts_35 : decode cX4_goOnCosts 35 = .ok (.aload_n 0, 1) := by decide +kernel
theorem dX4_goOnCosts_36 : decode cX4_goOnCosts 36 = .ok (.getfield 10, 3) := by decide +kernel
theorem dX4_goOnCosts_39 : decode cX4_goOnCosts 39 = .ok (.lload_n 2, 1) := by decide +kernel
theorem dX4_goOnCosts_40 : decode cX4_goOnCosts 40 = .ok (.invokevirtual 166, 3) := by decide +kernel
theorem dX4_goOnCosts_43 : decode cX4_goOnCosts 43 = .ok (.i2l, 1) := by decide +kernel
theorem dX4_goOnCosts_44 : decode cX4_goOnCosts 44 = .ok (.lstore 4, 2) := by decide +kernel
theorem dX4_goOnCosts_46 : decode cX4_goOnCosts 46 = .ok (.aload_n 0, 1) := by decide +kernel
theorem dX4_goOnCosts_47 : decode cX4_goOnCosts 47 = .ok (.getfield 10, 3) := by decide +kernel
theorem dX4_goOnCosts_50 : decode cX4_goOnCosts 50 = .ok (.getfield 93, 3) := by decide +kernel
theorem dX4_goOnCosts_53 : decode cX4_goOnCosts 53 = .ok (.iconst 3, 1) := by decide +kernel
theorem dX4_goOnCosts_54 : decode cX4_goOnCosts 54 = .ok (.iaload, 1) := by decide +kernel
theorem dX4_goOnCosts_55 : decode cX4_goOnCosts 55 = .ok (.i2l, 1) := by decide +kernel
theorem dX4_goOnCosts_56 : decode cX4_goOnCosts 56 = .ok (.lload 4, 2) := by decide +kernel
theorem dX4_goOnCosts_58 : decode cX4_goOnCosts 58 = .ok (.lmul, 1) := by decide +kernel
theorem dX4_goOnCosts_59 : decode cX4_goOnCosts 59 = .ok (.aload_n 0, 1) := by decide +kernel
theorem dX4_goOnCosts_60 : decode cX4_goOnCosts 60 = .ok (.lload_n 2, 1) := by decide +kernel
theorem dX4_goOnCosts_61 : decode cX4_goOnCosts 61 = .ok (.invokevirtual 187, 3) := by decide +kernel
theorem dX4_goOnCosts_64 : decode cX4_goOnCosts 64 = .ok (.ladd, 1) := by decide +kernel
theorem dX4_goOnCosts_65 : decode cX4_goOnCosts 65 = .ok (.lload 4, 2) := by decide +kernel
theorem dX4_goOnCosts_67 : decode cX4_goOnCosts 67 = .ok (.iload_n 1, 1) := by decide +kernel
theorem dX4_goOnCosts_68 : decode cX4_goOnCosts 68 = .ok (.invokestatic 169, 3) := by decide +kernel
theorem dX4_goOnCosts_71 : decode cX4_goOnCosts 71 = .ok (.lreturn, 1) := by decide +kernel
set_option maxRecDepth 20000 in
theorem ggX4_enough_X4_isSecond : GoodIn wsX4_enough wsX4_isSecond := goodIn_r _ [8] (by decide +kernel) (by decide +kernel)
set_option maxRecDepth 20000 in
theorem gX4_enough_X4_isSecond : GoodIn wsX4_enough (va_wsS RX4 80 yX4_isSecond wsX4_isSecond) := goodIn_app (goodIn_of _ (by decide +kernel)) ggX4_enough_X4_isSecond
set_option maxRecDepth 20000 in
theorem ggX4_enough_X4_refuse : GoodIn wsX4_enough wsX4_refuse := goodIn_r _ [12, 13, 122, 123, 124, 125, 126, 127, 128, 129, 130, 131] (by decide +kernel) (by decide +kernel)
set_option maxRecDepth 20000 in
theorem gX4_enough_X4_refuse : GoodIn wsX4_enough (wsV RX4 58 RX4 yX4_refuse wsX4_refuse) := goodIn_app (goodIn_of _ (by decide +kernel)) ggX4_enough_X4_refuse
set_option maxRecDepth 20000 in
theorem ggX4_enough_X0_left : GoodIn wsX4_enough wsX0_left := goodIn_r _ [18, 19, 132, 133, 134, 135, 136] (by decide +kernel) (by decide +kernel)
set_option maxRecDepth 20000 in
theorem gX4_enough_X0_left : GoodIn wsX4_enough (wsV RX4 144 RX0 yX0_left wsX0_left) := goodIn_app (goodIn_of _ (by decide +kernel)) ggX4_enough_X0_left
set_option maxRecDepth 20000 in
theorem ggX4_enough_X4_holds : GoodIn wsX4_enough wsX4_holds := goodIn_r _ [22] (by decide +kernel) (by decide +kernel)
set_option maxRecDepth 20000 in
theorem gX4_enough_X4_holds : GoodIn wsX4_enough (va_wsS RX4 190 yX4_holds wsX4_holds) := goodIn_app (goodIn_of _ (by decide +kernel)) ggX4_enough_X4_holds
set_option maxRecDepth 20000 in
theorem ggX4_enough_X2_take : GoodIn wsX4_enough wsX2_take := goodIn_r _ [27, 28, 29, 30, 31, 32, 7, 33, 34, 35, 36, 26, 37, 38, 39, 40, 41, 42, 43, 44, 45, 46, 47, 48, 49, 50, 51, 52, 53, 54, 55, 56, 57, 58, 59, 60, 61, 62, 63, 64, 65, 66, 67, 68, 69, 70, 71, 72, 73, 137, 138, 139, 140, 141, 132, 133, 134, 135, 136, 142, 143] (by decide +kernel) (by decide +kernel)
set_option maxRecDepth 20000 in
theorem gX4_enough_X2_take : GoodIn wsX4_enough (wsV RX4 140 RX2 yX2_take wsX2_take) := goodIn_app (goodIn_of _ (by decide +kernel)) ggX4_enough_X2_take
set_option maxRecDepth 20000 in
theorem ggX4_enough_X2_plan : GoodIn wsX4_enough wsX2_plan := goodIn_r _ [77, 78, 7, 79, 80, 81, 82, 83, 84, 85, 86, 87, 88, 89, 26, 90, 91, 21, 22, 92, 93, 94, 95, 96, 97, 98, 99, 100, 101, 102, 103, 104, 105, 106, 107, 38, 28, 6, 8, 108, 109, 110, 17, 111, 19, 112, 113, 114, 115, 116, 117, 118, 119, 120, 72, 48, 73, 121, 75, 76, 137, 138, 139, 140, 141, 132, 133, 134, 135, 136] (by decide +kernel) (by decide +kernel)
set_option maxRecDepth 20000 in
theorem gX4_enough_X2_plan : GoodIn wsX4_enough (wsV RX4 194 RX2 yX2_plan wsX2_plan) := goodIn_app (goodIn_of _ (by decide +kernel)) ggX4_enough_X2_plan
theorem dX4_enough_0 : decode cX4_enough 0 = .ok (.iload_n 1, 1) := by decide +kernel
theorem dX4_enough_1 : decode cX4_enough 1 = .ok (.invokestatic 80, 3) := by decide +kernel
theorem dX4_enough_4 : decode cX4_enough 4 = .ok (.ifCond .ne 9, 3) := by decide +kernel
theorem dX4_enough_7 : decode cX4_enough 7 = .ok (.aload_n 0, 1) := by decide +kernel
theorem dX4_enough_8 : decode cX4_enough 8 = .ok (.iconst (-1), 1) := by decide +kernel
theorem dX4_enough_9 : decode cX4_enough 9 = .ok (.invokevirtual 58, 3) := by decide +kernel
theorem dX4_enough_12 : decode cX4_enough 12 = .ok (.ireturn, 1) := by decide +kernel
theorem dX4_enough_13 : decode cX4_enough 13 = .ok (.aload_n 0, 1) := by decide +kernel
theorem dX4_enough_14 : decode cX4_enough 14 = .ok (.getfield 10, 3) := by decide +kernel
theorem dX4_enough_17 : decode cX4_enough 17 = .ok (.invokevirtual 144, 3) := by decide +kernel
theorem dX4_enough_20 : decode cX4_enough 20 = .ok (.lstore_n 2, 1) := by decide +kernel
theorem dX4_enough_21 : decode cX4_enough 21 = .ok (.lload_n 2, 1) := by decide +kernel
theorem dX4_enough_22 : decode cX4_enough 22 = .ok (.iload_n 1, 1) := by decide +kernel
theorem dX4_enough_23 : decode cX4_enough 23 = .ok (.invokestatic 190, 3) := by decide +kernel
theorem dX4_enough_26 : decode cX4_enough 26 = .ok (.ifCond .ne 10, 3) := by decide +kernel
theorem dX4_enough_29 : decode cX4_enough 29 = .ok (.aload_n 0, 1) := by decide +kernel
theorem dX4_enough_30 : decode cX4_enough 30 = .ok (.bipush (-3), 2) := by decide +kernel
theorem dX4_enough_32 : decode cX4_enough 32 = .ok (.invokevirtual 58, 3) := by decide +kernel
theorem dX4_enough_35 : decode cX4_enough 35 = .ok (.ireturn, 1) := by decide +kernel
theorem dX4_enough_36 : decode cX4_enough 36 = .ok (.aload_n 0, 1) := by decide +kernel
theorem dX4_enough_37 : decode cX4_enough 37 = .ok (.getfield 36, 3) := by decide +kernel
theorem dX4_enough_40 : decode cX4_enough 40 = .ok (.aload_n 0, 1) := by decide +kernel
theorem dX4_enough_41 : decode cX4_enough 41 = .ok (.getfield 10, 3) := by decide +kernel
theorem dX4_enough_44 : decode cX4_enough 44 = .ok (.aload_n 0, 1) := by decide +kernel
theorem dX4_enough_45 : decode cX4_enough 45 = .ok (.getfield 10, 3) := by decide +kernel
theorem dX4_enough_48 : decode cX4_enough 48 = .ok (.getfield 99, 3) := by decide +kernel
theorem dX4_enough_51 : decode cX4_enough 51 = .ok (.invokevirtual 140, 3) := by decide +kernel
theorem dX4_enough_54 : decode cX4_enough 54 = .ok (.aload_n 0, 1) := by decide +kernel
theorem dX4_enough_55 : decode cX4_enough 55 = .ok (.getfield 36, 3) := by decide +kernel
theorem dX4_enough_58 : decode cX4_enough 58 = .ok (.aload_n 0, 1) := by decide +kernel
theorem dX4_enough_59 : decode cX4_enough 59 = .ok (.getfield 10, 3) := by decide +kernel
theorem dX4_enough_62 : decode cX4_enough 62 = .ok (.lload_n 2, 1) := by decide +kernel
theorem dX4_enough_63 : decode cX4_enough 63 = .ok (.iconst 0, 1) := by decide +kernel
theorem dX4_enough_64 : decode cX4_enough 64 = .ok (.invokevirtual 194, 3) := by decide +kernel
theorem dX4_enough_67 : decode cX4_enough 67 = .ok (.aload_n 0, 1) := by decide +kernel
theorem dX4_enough_68 : decode cX4_enough 68 = .ok (.getfield 36, 3) := by decide +kernel
theorem dX4_enough_71 : decode cX4_enough 71 = .ok (.getfield 198, 3) := by decide +kernel
theorem dX4_enough_74 : decode cX4_enough 74 = .ok (.iload_n 1, 1) := by decide +kernel
theorem dX4_enough_75 : decode cX4_enough 75 = .ok (.iaload, 1) := by decide +kernel
theorem dX4_enough_76 : decode cX4_enough 76 = .ok (.ireturn, 1) := by decide +kernel
set_option maxRecDepth 20000 in
theorem ggX4_most_X0_left : GoodIn wsX4_most wsX0_left := goodIn_r _ [13, 14, 132, 133, 134, 135, 136] (by decide +kernel) (by decide +kernel)
set_option maxRecDepth 20000 in
theorem gX4_most_X0_left : GoodIn wsX4_most (wsV RX4 144 RX0 yX0_left wsX0_left) := goodIn_app (goodIn_of _ (by decide +kernel)) ggX4_most_X0_left
set_option maxRecDepth 20000 in
theorem ggX4_most_X4_refuse : GoodIn wsX4_most wsX4_refuse := goodIn_r _ [19, 20, 122, 123, 124, 125, 126, 127, 128, 129, 130, 131] (by decide +kernel) (by decide +kernel)
set_option maxRecDepth 20000 in
theorem gX4_most_X4_refuse : GoodIn wsX4_most (wsV RX4 58 RX4 yX4_refuse wsX4_refuse) := goodIn_app (goodIn_of _ (by decide +kernel)) ggX4_most_X4_refuse
set_option maxRecDepth 20000 in
theorem ggX4_most_X2_take : GoodIn wsX4_most wsX2_take := goodIn_r _ [25, 26, 27, 28, 29, 30, 18, 31, 32, 33, 34, 24, 35, 36, 37, 38, 39, 40, 41, 42, 43, 44, 45, 7, 46, 47, 48, 49, 50, 51, 52, 53, 54, 55, 56, 57, 58, 59, 60, 61, 62, 63, 64, 65, 66, 67, 68, 6, 8, 137, 138, 139, 140, 141, 132, 133, 134, 135, 136, 142, 143] (by decide +kernel) (by decide +kernel)
set_option maxRecDepth 20000 in
theorem gX4_most_X2_take : GoodIn wsX4_most (wsV RX4 140 RX2 yX2_take wsX2_take) := goodIn_app (goodIn_of _ (by decide +kernel)) ggX4_most_X2_take
set_option maxRecDepth 20000 in
theorem ggX4_most_X2_plan : GoodIn wsX4_most wsX2_plan := goodIn_r _ [72, 73, 18, 74, 75, 76, 77, 78, 79, 80, 81, 82, 83, 84, 24, 85, 86, 87, 88, 89, 90, 91, 92, 93, 94, 95, 96, 97, 98, 99, 100, 101, 102, 103, 104, 36, 26, 105, 106, 107, 108, 109, 12, 110, 14, 111, 112, 113, 114, 115, 116, 117, 118, 119, 6, 7, 8, 120, 70, 71, 137, 138, 139, 140, 141, 132, 133, 134, 135, 136] (by decide +kernel) (by decide +kernel)
set_option maxRecDepth 20000 in
theorem gX4_most_X2_plan : GoodIn wsX4_most (wsV RX4 194 RX2 yX2_plan wsX2_plan) := goodIn_app (goodIn_of _ (by decide +kernel)) ggX4_most_X2_plan
set_option maxRecDepth 20000 in
theorem ggX4_most_X4_holds : GoodIn wsX4_most wsX4_holds := goodIn_r _ [88] (by decide +kernel) (by decide +kernel)
set_option maxRecDepth 20000 in
theorem gX4_most_X4_holds : GoodIn wsX4_most (va_wsS RX4 190 yX4_holds wsX4_holds) := goodIn_app (goodIn_of _ (by decide +kernel)) ggX4_most_X4_holds
theorem dX4_most_0 : decode cX4_most 0 = .ok (.aload_n 0, 1) := by decide +kernel
theorem dX4_most_1 : decode cX4_most 1 = .ok (.getfield 10, 3) := by decide +kernel
theorem dX4_most_4 : decode cX4_most 4 = .ok (.invokevirtual 144, 3) := by decide +kernel
theorem dX4_most_7 : decode cX4_most 7 = .ok (.lstore_n 1, 1) := by decide +kernel
theorem dX4_most_8 : decode cX4_most 8 = .ok (.lload_n 1, 1) := by decide +kernel
theorem dX4_most_9 : decode cX4_most 9 = .ok (.lconst 0, 1) := by decide +kernel
theorem dX4_most_10 : decode cX4_most 10 = .ok (.lcmp, 1) := by decide +kernel
theorem dX4_most_11 : decode cX4_most 11 = .ok (.ifCond .ne 10, 3) := by decide +kernel
theorem dX4_most_14 : decode cX4_most 14 = .ok (.aload_n 0, 1) := by decide +kernel
theorem dX4_most_15 : decode cX4_most 15 = .ok (.bipush (-3), 2) := by decide +kernel
theorem dX4_most_17 : decode cX4_most 17 = .ok (.invokevirtual 58, 3) := by decide +kernel
theorem dX4_most_20 : decode cX4_most 20 = .ok (.ireturn, 1) := by decide +kernel
theorem dX4_most_21 : decode cX4_most 21 = .ok (.aload_n 0, 1) := by decide +kernel
theorem dX4_most_22 : decode cX4_most 22 = .ok (.getfield 36, 3) := by decide +kernel
theorem dX4_most_25 : decode cX4_most 25 = .ok (.aload_n 0, 1) := by decide +kernel
theorem dX4_most_26 : decode cX4_most 26 = .ok (.getfield 10, 3) := by decide +kernel
theorem dX4_most_29 : decode cX4_most 29 = .ok (.aload_n 0, 1) := by decide +kernel
theorem dX4_most_30 : decode cX4_most 30 = .ok (.getfield 10, 3) := by decide +kernel
theorem dX4_most_33 : decode cX4_most 33 = .ok (.getfield 99, 3) := by decide +kernel
theorem dX4_most_36 : decode cX4_most 36 = .ok (.invokevirtual 140, 3) := by decide +kernel
theorem dX4_most_39 : decode cX4_most 39 = .ok (.aload_n 0, 1) := by decide +kernel
theorem dX4_most_40 : decode cX4_most 40 = .ok (.getfield 36, 3) := by decide +kernel
theorem dX4_most_43 : decode cX4_most 43 = .ok (.aload_n 0, 1) := by decide +kernel
theorem dX4_most_44 : decode cX4_most 44 = .ok (.getfield 10, 3) := by decide +kernel
theorem dX4_most_47 : decode cX4_most 47 = .ok (.lload_n 1, 1) := by decide +kernel
theorem dX4_most_48 : decode cX4_most 48 = .ok (.iconst 0, 1) := by decide +kernel
theorem dX4_most_49 : decode cX4_most 49 = .ok (.invokevirtual 194, 3) := by decide +kernel
theorem dX4_most_52 : decode cX4_most 52 = .ok (.iconst 0, 1) := by decide +kernel
theorem dX4_most_53 : decode cX4_most 53 = .ok (.istore_n 3, 1) := by decide +kernel
theorem dX4_most_54 : decode cX4_most 54 = .ok (.iconst 1, 1) := by decide +kernel
theorem dX4_most_55 : decode cX4_most 55 = .ok (.istore 4, 2) := by decide +kernel
theorem dX4_most_57 : decode cX4_most 57 = .ok (.iload 4, 2) := by decide +kernel
theorem dX4_most_59 : decode cX4_most 59 = .ok (.bipush 40, 2) := by decide +kernel
theorem dX4_most_61 : decode cX4_most 61 = .ok (.if_icmp .gt 54, 3) := by decide +kernel
theorem dX4_most_64 : decode cX4_most 64 = .ok (.lload_n 1, 1) := by decide +kernel
theorem dX4_most_65 : decode cX4_most 65 = .ok (.iload 4, 2) := by decide +kernel
theorem dX4_most_67 : decode cX4_most 67 = .ok (.invokestatic 190, 3) := by decide +kernel
theorem dX4_most_70 : decode cX4_most 70 = .ok (.ifCond .ne 6, 3) := by decide +kernel
theorem dX4_most_73 : decode cX4_most 73 = .ok (.goto 36, 3) := by decide +kernel
theorem dX4_most_76 : decode cX4_most 76 = .ok (.aload_n 0, 1) := by decide +kernel
theorem dX4_most_77 : decode cX4_most 77 = .ok (.getfield 36, 3) := by decide +kernel
theorem dX4_most_80 : decode cX4_most 80 = .ok (.getfield 198, 3) := by decide +kernel
theorem dX4_most_83 : decode cX4_most 83 = .ok (.iload 4, 2) := by decide +kernel
theorem dX4_most_85 : decode cX4_most 85 = .ok (.iaload, 1) := by decide +kernel
theorem dX4_most_86 : decode cX4_most 86 = .ok (.bipush (-9), 2) := by decide +kernel
theorem dX4_most_88 : decode cX4_most 88 = .ok (.if_icmp .ne 6, 3) := by decide +kernel
theorem dX4_most_91 : decode cX4_most 91 = .ok (.bipush (-9), 2) := by decide +kernel
theorem dX4_most_93 : decode cX4_most 93 = .ok (.ireturn, 1) := by decide +kernel
theorem dX4_most_94 : decode cX4_most 94 = .ok (.iload_n 3, 1) := by decide +kernel
theorem dX4_most_95 : decode cX4_most 95 = .ok (.aload_n 0, 1) := by decide +kernel
theorem dX4_most_96 : decode cX4_most 96 = .ok (.getfield 36, 3) := by decide +kernel
theorem dX4_most_99 : decode cX4_most 99 = .ok (.getfield 198, 3) := by decide +kernel
theorem dX4_most_102 : decode cX4_most 102 = .ok (.iload 4, 2) := by decide +kernel
theorem dX4_most_104 : decode cX4_most 104 = .ok (.iaload, 1) := by decide +kernel
theorem dX4_most_105 : decode cX4_most 105 = .ok (.invokestatic 201, 3) := by decide +kernel
theorem dX4_most_108 : decode cX4_most 108 = .ok (.istore_n 3, 1) := by decide +kernel
theorem dX4_most_109 : decode cX4_most 109 = .ok (.iinc 4 1, 3) := by decide +kernel
theorem dX4_most_112 : decode cX4_most 112 = .ok (.goto (-55), 3) := by decide +kernel
theorem dX4_most_115 : decode cX4_most 115 = .ok (.iload_n 3, 1) := by decide +kernel
theorem dX4_most_116 : decode cX4_most 116 = .ok (.ireturn, 1) := by decide +kernel
set_option maxRecDepth 20000 in
theorem ggX4_fewest_X0_left : GoodIn wsX4_fewest wsX0_left := goodIn_r _ [8, 9, 36, 37, 38, 39, 40] (by decide +kernel) (by decide +kernel)
set_option maxRecDepth 20000 in
theorem gX4_fewest_X0_left : GoodIn wsX4_fewest (wsV RX4 144 RX0 yX0_left wsX0_left) := goodIn_app (goodIn_of _ (by decide +kernel)) ggX4_fewest_X0_left
set_option maxRecDepth 20000 in
theorem ggX4_fewest_X4_size : GoodIn wsX4_fewest wsX4_size := goodIn_r _ [13, 14, 15, 16, 17, 18, 19, 20] (by decide +kernel) (by decide +kernel)
set_option maxRecDepth 20000 in
theorem gX4_fewest_X4_size : GoodIn wsX4_fewest (va_wsS RX4 136 yX4_size wsX4_size) := goodIn_app (goodIn_of _ (by decide +kernel)) ggX4_fewest_X4_size
set_option maxRecDepth 20000 in
theorem ggX4_fewest_X4_refuse : GoodIn wsX4_fewest wsX4_refuse := goodIn_r _ [24, 25, 26, 27, 28, 29, 30, 31, 32, 33, 34, 35] (by decide +kernel) (by decide +kernel)
set_option maxRecDepth 20000 in
theorem gX4_fewest_X4_refuse : GoodIn wsX4_fewest (wsV RX4 58 RX4 yX4_refuse wsX4_refuse) := goodIn_app (goodIn_of _ (by decide +kernel)) ggX4_fewest_X4_refuse
theorem dX4_fewest_0 : decode cX4_fewest 0 = .ok (.aload_n 0, 1) := by decide +kernel
theorem dX4_fewest_1 : decode cX4_fewest 1 = .ok (.getfield 10, 3) := by decide +kernel
theorem dX4_fewest_4 : decode cX4_fewest 4 = .ok (.invokevirtual 144, 3) := by decide +kernel
theorem dX4_fewest_7 : decode cX4_fewest 7 = .ok (.invokestatic 136, 3) := by decide +kernel
theorem dX4_fewest_10 : decode cX4_fewest 10 = .ok (.istore_n 1, 1) := by decide +kernel
theorem dX4_fewest_11 : decode cX4_fewest 11 = .ok (.iload_n 1, 1) := by decide +kernel
theorem dX4_fewest_12 : decode cX4_fewest 12 = .ok (.ifCond .ne 10, 3) := by decide +kernel
theorem dX4_fewest_15 : decode cX4_fewest 15 = .ok (.aload_n 0, 1) := by decide +kernel
theorem dX4_fewest_16 : decode cX4_fewest 16 = .ok (.bipush (-3), 2) := by decide +kernel
theorem dX4_fewest_18 : decode cX4_fewest 18 = .ok (.invokevirtual 58, 3) := by decide +kernel
theorem dX4_fewest_21 : decode cX4_fewest 21 = .ok (.ireturn, 1) := by decide +kernel
theorem dX4_fewest_22 : decode cX4_fewest 22 = .ok (.aload_n 0, 1) := by decide +kernel
theorem dX4_fewest_23 : decode cX4_fewest 23 = .ok (.getfield 10, 3) := by decide +kernel
theorem dX4_fewest_26 : decode cX4_fewest 26 = .ok (.getfield 93, 3) := by decide +kernel
theorem dX4_fewest_29 : decode cX4_fewest 29 = .ok (.iconst 0, 1) := by decide +kernel
theorem dX4_fewest_30 : decode cX4_fewest 30 = .ok (.iaload, 1) := by decide +kernel
theorem dX4_fewest_31 : decode cX4_fewest 31 = .ok (.aload_n 0, 1) := by decide +kernel
theorem dX4_fewest_32 : decode cX4_fewest 32 = .ok (.getfield 10, 3) := by decide +kernel
theorem dX4_fewest_35 : decode cX4_fewest 35 = .ok (.getfield 105, 3) := by decide +kernel
theorem dX4_fewest_38 : decode cX4_fewest 38 = .ok (.iconst 4, 1) := by decide +kernel
theorem dX4_fewest_39 : decode cX4_fewest 39 = .ok (.if_icmp .ne 7, 3) := by decide +kernel
theorem dX4_fewest_42 : decode cX4_fewest 42 = .ok (.iconst 1, 1) := by decide +kernel
theorem dX4_fewest_43 : decode cX4_fewest 43 = .ok (.goto 4, 3) := by decide +kernel
theorem dX4_fewest_46 : decode cX4_fewest 46 = .ok (.iconst 0, 1) := by decide +kernel
theorem dX4_fewest_47 : decode cX4_fewest 47 = .ok (.iadd, 1) := by decide +kernel
theorem dX4_fewest_48 : decode cX4_fewest 48 = .ok (.istore_n 2, 1) := by decide +kernel
theorem dX4_fewest_49 : decode cX4_fewest 49 = .ok (.iconst 1, 1) := by decide +kernel
theorem dX4_fewest_50 : decode cX4_fewest 50 = .ok (.istore_n 3, 1) := by decide +kernel
theorem dX4_fewest_51 : decode cX4_fewest 51 = .ok (.iconst 0, 1) := by decide +kernel
theorem dX4_fewest_52 : decode cX4_fewest 52 = .ok (.istore 4, 2) := by decide +kernel
theorem dX4_fewest_54 : decode cX4_fewest 54 = .ok (.iload_n 3, 1) := by decide +kernel
theorem dX4_fewest_55 : decode cX4_fewest 55 = .ok (.iload_n 1, 1) := by decide +kernel
theorem dX4_fewest_56 : decode cX4_fewest 56 = .ok (.if_icmp .ge 20, 3) := by decide +kernel
theorem dX4_fewest_59 : decode cX4_fewest 59 = .ok (.iload 4, 2) := by decide +kernel
theorem dX4_fewest_61 : decode cX4_fewest 61 = .ok (.bipush 40, 2) := by decide +kernel
theorem dX4_fewest_63 : decode cX4_fewest 63 = .ok (.if_icmp .ge 13, 3) := by decide +kernel
theorem dX4_fewest_66 : decode cX4_fewest 66 = .ok (.iload_n 3, 1) := by decide +kernel
theorem dX4_fewest_67 : decode cX4_fewest 67 = .ok (.iload_n 2, 1) := by decide +kernel
theorem dX4_fewest_68 : decode cX4_fewest 68 = .ok (.imul, 1) := by decide +kernel
theorem dX4_fewest_69 : decode cX4_fewest 69 = .ok (.istore_n 3, 1) := by decide +kernel
theorem dX4_fewest_70 : decode cX4_fewest 70 = .ok (.iinc 4 1, 3) := by decide +kernel
theorem dX4_fewest_73 : decode cX4_fewest 73 = .ok (.goto (-19), 3) := by decide +kernel
theorem dX4_fewest_76 : decode cX4_fewest 76 = .ok (.iload 4, 2) := by decide +kernel
theorem dX4_fewest_78 : decode cX4_fewest 78 = .ok (.ireturn, 1) := by decide +kernel
set_option maxRecDepth 20000 in
theorem ggX4_rule_X4_isSecond : GoodIn wsX4_rule wsX4_isSecond := goodIn_r _ [6] (by decide +kernel) (by decide +kernel)
set_option maxRecDepth 20000 in
theorem gX4_rule_X4_isSecond : GoodIn wsX4_rule (va_wsS RX4 80 yX4_isSecond wsX4_isSecond) := goodIn_app (goodIn_of _ (by decide +kernel)) ggX4_rule_X4_isSecond
set_option maxRecDepth 20000 in
theorem ggX4_rule_X4_canBeTold : GoodIn wsX4_rule wsX4_canBeTold := goodIn_r _ [10, 11, 12, 13, 5, 14, 1, 15, 83, 84, 85, 86, 87, 88, 89, 90, 91, 92, 93, 94, 95, 96, 97] (by decide +kernel) (by decide +kernel)
set_option maxRecDepth 20000 in
theorem gX4_rule_X4_canBeTold : GoodIn wsX4_rule (wsV RX4 122 RX4 yX4_canBeTold wsX4_canBeTold) := goodIn_app (goodIn_of _ (by decide +kernel)) ggX4_rule_X4_canBeTold
set_option maxRecDepth 20000 in
theorem ggX4_rule_X4_refuse : GoodIn wsX4_rule wsX4_refuse := goodIn_r _ [19, 20, 83, 84, 85, 86, 87, 88, 89, 90, 91, 92] (by decide +kernel) (by decide +kernel)
set_option maxRecDepth 20000 in
theorem gX4_rule_X4_refuse : GoodIn wsX4_rule (wsV RX4 58 RX4 yX4_refuse wsX4_refuse) := goodIn_app (goodIn_of _ (by decide +kernel)) ggX4_rule_X4_refuse
set_option maxRecDepth 20000 in
theorem ggX4_rule_X0_leftIfTold : GoodIn wsX4_rule wsX0_leftIfTold := goodIn_r _ [25, 26, 27, 28, 29, 30, 31, 32, 33, 34, 35, 36, 37, 38, 39, 40, 41, 42, 43, 44, 45, 46, 47, 48, 49, 50, 51, 52, 53, 54, 55, 56, 57, 58, 59, 60, 61, 62, 63, 93, 94, 95, 96, 97, 98, 99] (by decide +kernel) (by decide +kernel)
set_option maxRecDepth 20000 in
theorem gX4_rule_X0_leftIfTold : GoodIn wsX4_rule (wsV RX4 125 RX0 yX0_leftIfTold wsX0_leftIfTold) := goodIn_app (goodIn_of _ (by decide +kernel)) ggX4_rule_X0_leftIfTold
set_option maxRecDepth 20000 in
theorem ggX4_rule_X4_size : GoodIn wsX4_rule wsX4_size := goodIn_r _ [66, 67, 68, 69, 70, 71, 72, 73] (by decide +kernel) (by decide +kernel)
set_option maxRecDepth 20000 in
theorem gX4_rule_X4_size : GoodIn wsX4_rule (va_wsS RX4 136 yX4_size wsX4_size) := goodIn_app (goodIn_of _ (by decide +kernel)) ggX4_rule_X4_size
set_option maxRecDepth 20000 in
theorem ggX4_rule_X4_shortestOf : GoodIn wsX4_rule wsX4_shortestOf := goodIn_r _ [76, 77, 78, 5, 79] (by decide +kernel) (by decide +kernel)
set_option maxRecDepth 20000 in
theorem gX4_rule_X4_shortestOf : GoodIn wsX4_rule (va_wsS RX4 207 yX4_shortestOf wsX4_shortestOf) := goodIn_app (goodIn_of _ (by decide +kernel)) ggX4_rule_X4_shortestOf
set_option maxRecDepth 20000 in
theorem ggX4_rule_X4_longestOf : GoodIn wsX4_rule wsX4_longestOf := goodIn_r _ [82, 77, 78, 5, 79] (by decide +kernel) (by decide +kernel)
set_option maxRecDepth 20000 in
theorem gX4_rule_X4_longestOf : GoodIn wsX4_rule (va_wsS RX4 210 yX4_longestOf wsX4_longestOf) := goodIn_app (goodIn_of _ (by decide +kernel)) ggX4_rule_X4_longestOf
theorem dX4_rule_0 : decode cX4_rule 0 = .ok (.iload_n 1, 1) := by decide +kernel
theorem dX4_rule_1 : decode cX4_rule 1 = .ok (.invokestatic 80, 3) := by decide +kernel
theorem dX4_rule_4 : decode cX4_rule 4 = .ok (.ifCond .eq 11, 3) := by decide +kernel
theorem dX4_rule_7 : decode cX4_rule 7 = .ok (.aload_n 0, 1) := by decide +kernel
theorem dX4_rule_8 : decode cX4_rule 8 = .ok (.iload_n 2, 1) := by decide +kernel
theorem dX4_rule_9 : decode cX4_rule 9 = .ok (.invokevirtual 122, 3) := by decide +kernel
theorem dX4_rule_12 : decode cX4_rule 12 = .ok (.ifCond .ne 9, 3) := by decide +kernel
theorem dX4_rule_15 : decode cX4_rule 15 = .ok (.aload_n 0, 1) := by decide +kernel
theorem dX4_rule_16 : decode cX4_rule 16 = .ok (.iconst (-1), 1) := by decide +kernel
theorem dX4_rule_17 : decode cX4_rule 17 = .ok (.invokevirtual 58, 3) := by decide +kernel
theorem dX4_rule_20 : decode cX4_rule 20 = .ok (.ireturn, 1) := by decide +kernel
theorem dX4_rule_21 : decode cX4_rule 21 = .ok (.iload_n 3, 1) := by decide +kernel
theorem dX4_rule_22 : decode cX4_rule 22 = .ok (.ifCond .lt 8, 3) := by decide +kernel
theorem dX4_rule_25 : decode cX4_rule 25 = .ok (.iload_n 3, 1) := by decide +kernel
theorem dX4_rule_26 : decode cX4_rule 26 = .ok (.iconst 2, 1) := by decide +kernel
theorem dX4_rule_27 : decode cX4_rule 27 = .ok (.if_icmp .le 10, 3) := by decide +kernel
theorem dX4_rule_30 : decode cX4_rule 30 = .ok (.aload_n 0, 1) := by decide +kernel
theorem dX4_rule_31 : decode cX4_rule 31 = .ok (.bipush (-2), 2) := by decide +kernel
theorem dX4_rule_33 : decode cX4_rule 33 = .ok (.invokevirtual 58, 3) := by decide +kernel
theorem dX4_rule_36 : decode cX4_rule 36 = .ok (.ireturn, 1) := by decide +kernel
theorem dX4_rule_37 : decode cX4_rule 37 = .ok (.aload_n 0, 1) := by decide +kernel
theorem dX4_rule_38 : decode cX4_rule 38 = .ok (.getfield 10, 3) := by decide +kernel
theorem dX4_rule_41 : decode cX4_rule 41 = .ok (.aload_n 0, 1) := by decide +kernel
theorem dX4_rule_42 : decode cX4_rule 42 = .ok (.getfield 29, 3) := by decide +kernel
theorem dX4_rule_45 : decode cX4_rule 45 = .ok (.iload_n 1, 1) := by decide +kernel
theorem dX4_rule_46 : decode cX4_rule 46 = .ok (.iload_n 2, 1) := by decide +kernel
theorem dX4_rule_47 : decode cX4_rule 47 = .ok (.invokevirtual 125, 3) := by decide +kernel
theorem dX4_rule_50 : decode cX4_rule 50 = .ok (.lstore 4, 2) := by decide +kernel
theorem dX4_rule_52 : decode cX4_rule 52 = .ok (.iload_n 3, 1) := by decide +kernel
theorem dX4_rule_53 : decode cX4_rule 53 = .ok (.ifCond .ne 9, 3) := by decide +kernel
theorem dX4_rule_56 : decode cX4_rule 56 = .ok (.lload 4, 2) := by decide +kernel
theorem dX4_rule_58 : decode cX4_rule 58 = .ok (.invokestatic 136, 3) := by decide +kernel
theorem dX4_rule_61 : decode cX4_rule 61 = .ok (.ireturn, 1) := by decide +kernel
theorem dX4_rule_62 : decode cX4_rule 62 = .ok (.iload_n 3, 1) := by decide +kernel
theorem dX4_rule_63 : decode cX4_rule 63 = .ok (.iconst 1, 1) := by decide +kernel
theorem dX4_rule_64 : decode cX4_rule 64 = .ok (.if_icmp .ne 11, 3) := by decide +kernel
theorem dX4_rule_67 : decode cX4_rule 67 = .ok (.lload 4, 2) := by decide +kernel
theorem dX4_rule_69 : decode cX4_rule 69 = .ok (.invokestatic 207, 3) := by decide +kernel
theorem dX4_rule_72 : decode cX4_rule 72 = .ok (.goto 8, 3) := by decide +kernel
theorem dX4_rule_75 : decode cX4_rule 75 = .ok (.lload 4, 2) := by decide +kernel
theorem dX4_rule_77 : decode cX4_rule 77 = .ok (.invokestatic 210, 3) := by decide +kernel
theorem dX4_rule_80 : decode cX4_rule 80 = .ok (.ireturn, 1) := by decide +kernel
set_option maxRecDepth 20000 in
theorem ggX4_twoEyes_X4_isSecond : GoodIn wsX4_twoEyes wsX4_isSecond := goodIn_r _ [5] (by decide +kernel) (by decide +kernel)
set_option maxRecDepth 20000 in
theorem gX4_twoEyes_X4_isSecond : GoodIn wsX4_twoEyes (va_wsS RX4 80 yX4_isSecond wsX4_isSecond) := goodIn_app (goodIn_of _ (by decide +kernel)) ggX4_twoEyes_X4_isSecond
set_option maxRecDepth 20000 in
theorem ggX4_twoEyes_X4_refuse : GoodIn wsX4_twoEyes wsX4_refuse := goodIn_r _ [9, 10, 77, 78, 79, 80, 81, 82, 83, 84, 85, 86] (by decide +kernel) (by decide +kernel)
set_option maxRecDepth 20000 in
theorem gX4_twoEyes_X4_refuse : GoodIn wsX4_twoEyes (wsV RX4 58 RX4 yX4_refuse wsX4_refuse) := goodIn_app (goodIn_of _ (by decide +kernel)) ggX4_twoEyes_X4_refuse
set_option maxRecDepth 20000 in
theorem ggX4_twoEyes_X4_isEyeKind : GoodIn wsX4_twoEyes wsX4_isEyeKind := goodIn_r _ [13] (by decide +kernel) (by decide +kernel)
set_option maxRecDepth 20000 in
theorem gX4_twoEyes_X4_isEyeKind : GoodIn wsX4_twoEyes (va_wsS RX4 102 yX4_isEyeKind wsX4_isEyeKind) := goodIn_app (goodIn_of _ (by decide +kernel)) ggX4_twoEyes_X4_isEyeKind
set_option maxRecDepth 20000 in
theorem ggX4_twoEyes_X0_left : GoodIn wsX4_twoEyes wsX0_left := goodIn_r _ [18, 19, 87, 88, 89, 90, 91] (by decide +kernel) (by decide +kernel)
set_option maxRecDepth 20000 in
theorem gX4_twoEyes_X0_left : GoodIn wsX4_twoEyes (wsV RX4 144 RX0 yX0_left wsX0_left) := goodIn_app (goodIn_of _ (by decide +kernel)) ggX4_twoEyes_X0_left
set_option maxRecDepth 20000 in
theorem ggX4_twoEyes_X4_toldUnlike : GoodIn wsX4_twoEyes wsX4_toldUnlike := goodIn_r _ [23, 1, 24, 25, 26, 27, 28, 29, 30, 31, 32, 33, 34, 35, 36, 37, 38, 39, 40, 41, 42, 43, 44, 45, 46, 47, 48, 49, 50, 51, 52, 53, 54, 55, 56, 57, 58, 59, 60, 77, 78, 79, 80, 81, 82, 83, 84, 85, 86, 87, 88, 89, 90, 91, 92, 93] (by decide +kernel) (by decide +kernel)
set_option maxRecDepth 20000 in
theorem gX4_twoEyes_X4_toldUnlike : GoodIn wsX4_twoEyes (wsV RX4 213 RX4 yX4_toldUnlike wsX4_toldUnlike) := goodIn_app (goodIn_of _ (by decide +kernel)) ggX4_twoEyes_X4_toldUnlike
set_option maxRecDepth 20000 in
theorem ggX4_twoEyes_X4_size : GoodIn wsX4_twoEyes wsX4_size := goodIn_r _ [63, 64, 65, 66, 67, 68, 69, 70] (by decide +kernel) (by decide +kernel)
set_option maxRecDepth 20000 in
theorem gX4_twoEyes_X4_size : GoodIn wsX4_twoEyes (va_wsS RX4 136 yX4_size wsX4_size) := goodIn_app (goodIn_of _ (by decide +kernel)) ggX4_twoEyes_X4_size
set_option maxRecDepth 20000 in
theorem ggX4_twoEyes_X4_shortestOf : GoodIn wsX4_twoEyes wsX4_shortestOf := goodIn_r _ [73, 74, 75, 4, 76] (by decide +kernel) (by decide +kernel)
set_option maxRecDepth 20000 in
theorem gX4_twoEyes_X4_shortestOf : GoodIn wsX4_twoEyes (va_wsS RX4 207 yX4_shortestOf wsX4_shortestOf) := goodIn_app (goodIn_of _ (by decide +kernel)) ggX4_twoEyes_X4_shortestOf
theorem dX4_twoEyes_0 : decode cX4_twoEyes 0 = .ok (.iload_n 1, 1) := by decide +kernel
theorem dX4_twoEyes_1 : decode cX4_twoEyes 1 = .ok (.invokestatic 80, 3) := by decide +kernel
theorem dX4_twoEyes_4 : decode cX4_twoEyes 4 = .ok (.ifCond .ne 9, 3) := by decide +kernel
theorem dX4_twoEyes_7 : decode cX4_twoEyes 7 = .ok (.aload_n 0, 1) := by decide +kernel
theorem dX4_twoEyes_8 : decode cX4_twoEyes 8 = .ok (.iconst (-1), 1) := by decide +kernel
theorem dX4_twoEyes_9 : decode cX4_twoEyes 9 = .ok (.invokevirtual 58, 3) := by decide +kernel
theorem dX4_twoEyes_12 : decode cX4_twoEyes 12 = .ok (.ireturn, 1) := by decide +kernel
theorem dX4_twoEyes_13 : decode cX4_twoEyes 13 = .ok (.iload_n 2, 1) := by decide +kernel
theorem dX4_twoEyes_14 : decode cX4_twoEyes 14 = .ok (.invokestatic 102, 3) := by decide +kernel
theorem dX4_twoEyes_17 : decode cX4_twoEyes 17 = .ok (.ifCond .eq 21, 3) := by decide +kernel
theorem dX4_twoEyes_20 : decode cX4_twoEyes 20 = .ok (.iload_n 3, 1) := by decide +kernel
theorem dX4_twoEyes_21 : decode cX4_twoEyes 21 = .ok (.invokestatic 102, 3) := by decide +kernel
theorem dX4_twoEyes_24 : decode cX4_twoEyes 24 = .ok (.ifCond .eq 14, 3) := by decide +kernel
theorem dX4_twoEyes_27 : decode cX4_twoEyes 27 = .ok (.iload 4, 2) := by decide +kernel
theorem dX4_twoEyes_29 : decode cX4_twoEyes 29 = .ok (.ifCond .lt 9, 3) := by decide +kernel
theorem dX4_twoEyes_32 : decode cX4_twoEyes 32 = .ok (.iload 4, 2) := by decide +kernel
theorem dX4_twoEyes_34 : decode cX4_twoEyes 34 = .ok (.iconst 1, 1) := by decide +kernel
theorem dX4_twoEyes_35 : decode cX4_twoEyes 35 = .ok (.if_icmp .le 10, 3) := by decide +kernel
theorem dX4_twoEyes_38 : decode cX4_twoEyes 38 = .ok (.aload_n 0, 1) := by decide +kernel
theorem dX4_twoEyes_39 : decode cX4_twoEyes 39 = .ok (.bipush (-2), 2) := by decide +kernel
theorem dX4_twoEyes_41 : decode cX4_twoEyes 41 = .ok (.invokevirtual 58, 3) := by decide +kernel
theorem dX4_twoEyes_44 : decode cX4_twoEyes 44 = .ok (.ireturn, 1) := by decide +kernel
theorem dX4_twoEyes_45 : decode cX4_twoEyes 45 = .ok (.aload_n 0, 1) := by decide +kernel
theorem dX4_twoEyes_46 : decode cX4_twoEyes 46 = .ok (.getfield 10, 3) := by decide +kernel
theorem dX4_twoEyes_49 : decode cX4_twoEyes 49 = .ok (.invokevirtual 144, 3) := by decide +kernel
theorem dX4_twoEyes_52 : decode cX4_twoEyes 52 = .ok (.aload_n 0, 1) := by decide +kernel
theorem dX4_twoEyes_53 : decode cX4_twoEyes 53 = .ok (.iload_n 1, 1) := by decide +kernel
theorem dX4_twoEyes_54 : decode cX4_twoEyes 54 = .ok (.iload_n 2, 1) := by decide +kernel
theorem dX4_twoEyes_55 : decode cX4_twoEyes 55 = .ok (.iload_n 3, 1) := by decide +kernel
theorem dX4_twoEyes_56 : decode cX4_twoEyes 56 = .ok (.invokevirtual 213, 3) := by decide +kernel
theorem dX4_twoEyes_59 : decode cX4_twoEyes 59 = .ok (.land, 1) := by decide +kernel
theorem dX4_twoEyes_60 : decode cX4_twoEyes 60 = .ok (.lstore 5, 2) := by decide +kernel
theorem dX4_twoEyes_62 : decode cX4_twoEyes 62 = .ok (.iload 4, 2) := by decide +kernel
theorem dX4_twoEyes_64 : decode cX4_twoEyes 64 = .ok (.ifCond .ne 11, 3) := by decide +kernel
theorem dX4_twoEyes_67 : decode cX4_twoEyes 67 = .ok (.lload 5, 2) := by decide +kernel
theorem dX4_twoEyes_69 : decode cX4_twoEyes 69 = .ok (.invokestatic 136, 3) := by decide +kernel
theorem dX4_twoEyes_72 : decode cX4_twoEyes 72 = .ok (.goto 8, 3) := by decide +kernel
theorem dX4_twoEyes_75 : decode cX4_twoEyes 75 = .ok (.lload 5, 2) := by decide +kernel
theorem dX4_twoEyes_77 : decode cX4_twoEyes 77 = .ok (.invokestatic 207, 3) := by decide +kernel
theorem dX4_twoEyes_80 : decode cX4_twoEyes 80 = .ok (.ireturn, 1) := by decide +kernel
set_option maxRecDepth 20000 in
theorem ggX4_whose_X4_refuse : GoodIn wsX4_whose wsX4_refuse := goodIn_r _ [9, 10, 60, 61, 62, 63, 64, 65, 66, 67, 68, 69] (by decide +kernel) (by decide +kernel)
set_option maxRecDepth 20000 in
theorem gX4_whose_X4_refuse : GoodIn wsX4_whose (wsV RX4 58 RX4 yX4_refuse wsX4_refuse) := goodIn_app (goodIn_of _ (by decide +kernel)) ggX4_whose_X4_refuse
set_option maxRecDepth 20000 in
theorem ggX4_whose_X4_isRowOfThrees : GoodIn wsX4_whose wsX4_isRowOfThrees := goodIn_r _ [14, 15, 16, 17, 18, 8, 19, 60, 61, 62, 63, 64, 65, 66, 67, 68, 69] (by decide +kernel) (by decide +kernel)
set_option maxRecDepth 20000 in
theorem gX4_whose_X4_isRowOfThrees : GoodIn wsX4_whose (wsV RX4 217 RX4 yX4_isRowOfThrees wsX4_isRowOfThrees) := goodIn_app (goodIn_of _ (by decide +kernel)) ggX4_whose_X4_isRowOfThrees
set_option maxRecDepth 20000 in
theorem ggX4_whose_X4_rowIsToldBy : GoodIn wsX4_whose wsX4_rowIsToldBy := goodIn_r _ [23, 15, 24, 2, 25, 16, 26, 27, 28, 29, 30, 31, 32, 33, 34, 35, 36, 37, 38, 39, 40, 41, 42, 43, 44, 45, 46, 47, 48, 49, 50, 51, 52, 53, 54, 55, 56, 57, 58, 59, 60, 61, 62, 63, 64, 65, 66, 67, 68, 69, 70, 71, 72, 73, 74, 75, 76] (by decide +kernel) (by decide +kernel)
set_option maxRecDepth 20000 in
theorem gX4_whose_X4_rowIsToldBy : GoodIn wsX4_whose (wsV RX4 220 RX4 yX4_rowIsToldBy wsX4_rowIsToldBy) := goodIn_app (goodIn_of _ (by decide +kernel)) ggX4_whose_X4_rowIsToldBy
theorem dX4_whose_0 : decode cX4_whose 0 = .ok (.iload_n 1, 1) := by decide +kernel
theorem dX4_whose_1 : decode cX4_whose 1 = .ok (.ifCond .lt 8, 3) := by decide +kernel
theorem dX4_whose_4 : decode cX4_whose 4 = .ok (.iload_n 1, 1) := by decide +kernel
theorem dX4_whose_5 : decode cX4_whose 5 = .ok (.iconst 1, 1) := by decide +kernel
theorem dX4_whose_6 : decode cX4_whose 6 = .ok (.if_icmp .le 10, 3) := by decide +kernel
theorem dX4_whose_9 : decode cX4_whose 9 = .ok (.aload_n 0, 1) := by decide +kernel
theorem dX4_whose_10 : decode cX4_whose 10 = .ok (.bipush (-2), 2) := by decide +kernel
theorem dX4_whose_12 : decode cX4_whose 12 = .ok (.invokevirtual 58, 3) := by decide +kernel
theorem dX4_whose_15 : decode cX4_whose 15 = .ok (.ireturn, 1) := by decide +kernel
theorem dX4_whose_16 : decode cX4_whose 16 = .ok (.aload_n 0, 1) := by decide +kernel
theorem dX4_whose_17 : decode cX4_whose 17 = .ok (.invokevirtual 217, 3) := by decide +kernel
theorem dX4_whose_20 : decode cX4_whose 20 = .ok (.ifCond .ne 10, 3) := by decide +kernel
theorem dX4_whose_23 : decode cX4_whose 23 = .ok (.aload_n 0, 1) := by decide +kernel
theorem dX4_whose_24 : decode cX4_whose 24 = .ok (.bipush (-3), 2) := by decide +kernel
theorem dX4_whose_26 : decode cX4_whose 26 = .ok (.invokevirtual 58, 3) := by decide +kernel
theorem dX4_whose_29 : decode cX4_whose 29 = .ok (.ireturn, 1) := by decide +kernel
theorem dX4_whose_30 : decode cX4_whose 30 = .ok (.iconst 0, 1) := by decide +kernel
theorem dX4_whose_31 : decode cX4_whose 31 = .ok (.istore_n 2, 1) := by decide +kernel
theorem dX4_whose_32 : decode cX4_whose 32 = .ok (.iload_n 1, 1) := by decide +kernel
theorem dX4_whose_33 : decode cX4_whose 33 = .ok (.ifCond .ne 7, 3) := by decide +kernel
theorem dX4_whose_36 : decode cX4_whose 36 = .ok (.iconst 5, 1) := by decide +kernel
theorem dX4_whose_37 : decode cX4_whose 37 = .ok (.goto 10, 3) := by decide +kernel
theorem dX4_whose_40 : decode cX4_whose 40 = .ok (.getstatic 90, 3) := by decide +kernel
theorem dX4_whose_43 : decode cX4_whose 43 = .ok (.iconst 2, 1) := by decide +kernel
theorem dX4_whose_44 : decode cX4_whose 44 = .ok (.iaload, 1) := by decide +kernel
theorem dX4_whose_45 : decode cX4_whose 45 = .ok (.iconst 1, 1) := by decide +kernel
theorem dX4_whose_46 : decode cX4_whose 46 = .ok (.iadd, 1) := by decide +kernel
theorem dX4_whose_47 : decode cX4_whose 47 = .ok (.istore_n 3, 1) := by decide +kernel
theorem dX4_whose_48 : decode cX4_whose 48 = .ok (.iconst 0, 1) := by decide +kernel
theorem dX4_whose_49 : decode cX4_whose 49 = .ok (.istore 4, 2) := by decide +kernel
theorem dX4_whose_51 : decode cX4_whose 51 = .ok (.iload 4, 2) := by decide +kernel
theorem dX4_whose_53 : decode cX4_whose 53 = .ok (.iload_n 3, 1) := by decide +kernel
theorem dX4_whose_54 : decode cX4_whose 54 = .ok (.if_icmp .ge 65, 3) := by decide +kernel
theorem dX4_whose_57 : decode cX4_whose 57 = .ok (.iload_n 1, 1) := by decide +kernel
theorem dX4_whose_58 : decode cX4_whose 58 = .ok (.ifCond .ne 8, 3) := by decide +kernel
theorem dX4_whose_61 : decode cX4_whose 61 = .ok (.iload 4, 2) := by decide +kernel
theorem dX4_whose_63 : decode cX4_whose 63 = .ok (.goto 10, 3) := by decide +kernel
theorem dX4_whose_66 : decode cX4_whose 66 = .ok (.aload_n 0, 1) := by decide +kernel
theorem dX4_whose_67 : decode cX4_whose 67 = .ok (.getfield 10, 3) := by decide +kernel
theorem dX4_whose_70 : decode cX4_whose 70 = .ok (.getfield 105, 3) := by decide +kernel
theorem dX4_whose_73 : decode cX4_whose 73 = .ok (.istore 5, 2) := by decide +kernel
theorem dX4_whose_75 : decode cX4_whose 75 = .ok (.iload_n 1, 1) := by decide +kernel
theorem dX4_whose_76 : decode cX4_whose 76 = .ok (.ifCond .ne 15, 3) := by decide +kernel
theorem dX4_whose_79 : decode cX4_whose 79 = .ok (.aload_n 0, 1) := by decide +kernel
theorem dX4_whose_80 : decode cX4_whose 80 = .ok (.getfield 10, 3) := by decide +kernel
theorem dX4_whose_83 : decode cX4_whose 83 = .ok (.getfield 93, 3) := by decide +kernel
theorem dX4_whose_86 : decode cX4_whose 86 = .ok (.iconst 2, 1) := by decide +kernel
theorem dX4_whose_87 : decode cX4_whose 87 = .ok (.iaload, 1) := by decide +kernel
theorem dX4_whose_88 : decode cX4_whose 88 = .ok (.goto 5, 3) := by decide +kernel
theorem dX4_whose_91 : decode cX4_whose 91 = .ok (.iload 4, 2) := by decide +kernel
theorem dX4_whose_93 : decode cX4_whose 93 = .ok (.istore 6, 2) := by decide +kernel
theorem dX4_whose_95 : decode cX4_whose 95 = .ok (.aload_n 0, 1) := by decide +kernel
theorem dX4_whose_96 : decode cX4_whose 96 = .ok (.iload 5, 2) := by decide +kernel
theorem dX4_whose_98 : decode cX4_whose 98 = .ok (.iload 6, 2) := by decide +kernel
theorem dX4_whose_100 : decode cX4_whose 100 = .ok (.invokevirtual 220, 3) := by decide +kernel
theorem dX4_whose_103 : decode cX4_whose 103 = .ok (.ifCond .eq 10, 3) := by decide +kernel
theorem dX4_whose_106 : decode cX4_whose 106 = .ok (.iload_n 2, 1) := by decide +kernel
theorem dX4_whose_107 : decode cX4_whose 107 = .ok (.iconst 1, 1) := by decide +kernel
theorem dX4_whose_108 : decode cX4_whose 108 = .ok (.iload 4, 2) := by decide +kernel
theorem dX4_whose_110 : decode cX4_whose 110 = .ok (.ishl, 1) := by decide +kernel
theorem dX4_whose_111 : decode cX4_whose 111 = .ok (.ior, 1) := by decide +kernel
theorem dX4_whose_112 : decode cX4_whose 112 = .ok (.istore_n 2, 1) := by decide +kernel
theorem dX4_whose_113 : decode cX4_whose 113 = .ok (.iinc 4 1, 3) := by decide +kernel
theorem dX4_whose_116 : decode cX4_whose 116 = .ok (.goto (-65), 3) := by decide +kernel
theorem dX4_whose_119 : decode cX4_whose 119 = .ok (.iload_n 2, 1) := by decide +kernel
theorem dX4_whose_120 : decode cX4_whose 120 = .ok (.ireturn, 1) := by decide +kernel
set_option maxRecDepth 20000 in
theorem ggX4_limit_X0_left : GoodIn wsX4_limit wsX0_left := goodIn_r _ [6, 7, 42, 43, 44, 45, 46] (by decide +kernel) (by decide +kernel)
set_option maxRecDepth 20000 in
theorem gX4_limit_X0_left : GoodIn wsX4_limit (wsV RX4 144 RX0 yX0_left wsX0_left) := goodIn_app (goodIn_of _ (by decide +kernel)) ggX4_limit_X0_left
set_option maxRecDepth 20000 in
theorem ggX4_limit_X4_shortestOf : GoodIn wsX4_limit wsX4_shortestOf := goodIn_r _ [11, 12, 13, 10, 14] (by decide +kernel) (by decide +kernel)
set_option maxRecDepth 20000 in
theorem gX4_limit_X4_shortestOf : GoodIn wsX4_limit (va_wsS RX4 207 yX4_shortestOf wsX4_shortestOf) := goodIn_app (goodIn_of _ (by decide +kernel)) ggX4_limit_X4_shortestOf
set_option maxRecDepth 20000 in
theorem ggX4_limit_X4_longestOf : GoodIn wsX4_limit wsX4_longestOf := goodIn_r _ [17, 12, 13, 10, 14] (by decide +kernel) (by decide +kernel)
set_option maxRecDepth 20000 in
theorem gX4_limit_X4_longestOf : GoodIn wsX4_limit (va_wsS RX4 210 yX4_longestOf wsX4_longestOf) := goodIn_app (goodIn_of _ (by decide +kernel)) ggX4_limit_X4_longestOf
set_option maxRecDepth 20000 in
theorem ggX4_limit_X0_middle : GoodIn wsX4_limit wsX0_middle := goodIn_r _ [21, 7, 22, 3, 4, 5, 6, 23, 24, 25, 26, 13, 10, 14, 42, 43, 44, 45, 46] (by decide +kernel) (by decide +kernel)
set_option maxRecDepth 20000 in
theorem gX4_limit_X0_middle : GoodIn wsX4_limit (wsV RX4 224 RX0 yX0_middle wsX0_middle) := goodIn_app (goodIn_of _ (by decide +kernel)) ggX4_limit_X0_middle
set_option maxRecDepth 20000 in
theorem ggX4_limit_X4_refuse : GoodIn wsX4_limit wsX4_refuse := goodIn_r _ [30, 31, 32, 33, 34, 35, 36, 37, 38, 39, 40, 41] (by decide +kernel) (by decide +kernel)
set_option maxRecDepth 20000 in
theorem gX4_limit_X4_refuse : GoodIn wsX4_limit (wsV RX4 58 RX4 yX4_refuse wsX4_refuse) := goodIn_app (goodIn_of _ (by decide +kernel)) ggX4_limit_X4_refuse
theorem dX4_limit_0 : decode cX4_limit 0 = .ok (.aload_n 0, 1) := by decide +kernel
theorem dX4_limit_1 : decode cX4_limit 1 = .ok (.getfield 10, 3) := by decide +kernel
theorem dX4_limit_4 : decode cX4_limit 4 = .ok (.invokevirtual 144, 3) := by decide +kernel
theorem dX4_limit_7 : decode cX4_limit 7 = .ok (.lstore_n 2, 1) := by decide +kernel
theorem dX4_limit_8 : decode cX4_limit 8 = .ok (.iload_n 1, 1) := by decide +kernel
theorem dX4_limit_9 : decode cX4_limit 9 = .ok (.tableswitch 45 0 2 #[27, 32, 37], 27) := by decide +kernel
theorem dX4_limit_36 : decode cX4_limit 36 = .ok (.lload_n 2, 1) := by decide +kernel
theorem dX4_limit_37 : decode cX4_limit 37 = .ok (.invokestatic 207, 3) := by decide +kernel
theorem dX4_limit_40 : decode cX4_limit 40 = .ok (.ireturn, 1) := by decide +kernel
theorem dX4_limit_41 : decode cX4_limit 41 = .ok (.lload_n 2, 1) := by decide +kernel
theorem dX4_limit_42 : decode cX4_limit 42 = .ok (.invokestatic 210, 3) := by decide +kernel
theorem dX4_limit_45 : decode cX4_limit 45 = .ok (.ireturn, 1) := by decide +kernel
theorem dX4_limit_46 : decode cX4_limit 46 = .ok (.aload_n 0, 1) := by decide +kernel
theorem dX4_limit_47 : decode cX4_limit 47 = .ok (.getfield 10, 3) := by decide +kernel
theorem dX4_limit_50 : decode cX4_limit 50 = .ok (.invokevirtual 224, 3) := by decide +kernel
theorem dX4_limit_53 : decode cX4_limit 53 = .ok (.ireturn, 1) := by decide +kernel
theorem dX4_limit_54 : decode cX4_limit 54 = .ok (.aload_n 0, 1) := by decide +kernel
theorem dX4_limit_55 : decode cX4_limit 55 = .ok (.bipush (-2), 2) := by decide +kernel
theorem dX4_limit_57 : decode cX4_limit 57 = .ok (.invokevirtual 58, 3) := by decide +kernel
theorem dX4_limit_60 : decode cX4_limit 60 = .ok (.ireturn, 1) := by decide +kernel
set_option maxRecDepth 20000 in
theorem ggX4_costs_X4_refuseLong : GoodIn wsX4_costs wsX4_refuseLong := goodIn_r _ [7, 8, 9, 10, 11, 6, 12, 13, 47, 48, 49, 50, 51, 52, 53, 54, 55, 56] (by decide +kernel) (by decide +kernel)
set_option maxRecDepth 20000 in
theorem gX4_costs_X4_refuseLong : GoodIn wsX4_costs (wsV RX4 155 RX4 yX4_refuseLong wsX4_refuseLong) := goodIn_app (goodIn_of _ (by decide +kernel)) ggX4_costs_X4_refuseLong
set_option maxRecDepth 20000 in
theorem ggX4_costs_X4_isSecond : GoodIn wsX4_costs wsX4_isSecond := goodIn_r _ [16] (by decide +kernel) (by decide +kernel)
set_option maxRecDepth 20000 in
theorem gX4_costs_X4_isSecond : GoodIn wsX4_costs (va_wsS RX4 80 yX4_isSecond wsX4_isSecond) := goodIn_app (goodIn_of _ (by decide +kernel)) ggX4_costs_X4_isSecond
set_option maxRecDepth 20000 in
theorem ggX4_costs_X4_isPart : GoodIn wsX4_costs wsX4_isPart := goodIn_r _ [19] (by decide +kernel) (by decide +kernel)
set_option maxRecDepth 20000 in
theorem gX4_costs_X4_isPart : GoodIn wsX4_costs (va_wsS RX4 159 yX4_isPart wsX4_isPart) := goodIn_app (goodIn_of _ (by decide +kernel)) ggX4_costs_X4_isPart
set_option maxRecDepth 20000 in
theorem ggX4_costs_X0_left : GoodIn wsX4_costs wsX0_left := goodIn_r _ [24, 25, 57, 58, 59, 60, 61] (by decide +kernel) (by decide +kernel)
set_option maxRecDepth 20000 in
theorem gX4_costs_X0_left : GoodIn wsX4_costs (wsV RX4 144 RX0 yX0_left wsX0_left) := goodIn_app (goodIn_of _ (by decide +kernel)) ggX4_costs_X0_left
set_option maxRecDepth 20000 in
theorem ggX4_costs_X0_weightOf : GoodIn wsX4_costs wsX0_weightOf := goodIn_r _ [29, 25, 30, 6, 31, 57, 58, 59, 60, 61] (by decide +kernel) (by decide +kernel)
set_option maxRecDepth 20000 in
theorem gX4_costs_X0_weightOf : GoodIn wsX4_costs (wsV RX4 166 RX0 yX0_weightOf wsX0_weightOf) := goodIn_app (goodIn_of _ (by decide +kernel)) ggX4_costs_X0_weightOf
set_option maxRecDepth 20000 in
theorem ggX4_costs_X0_faultsAt : GoodIn wsX4_costs wsX0_faultsAt := goodIn_r _ [35, 25, 36, 37, 38, 39, 40, 30, 6, 31, 57, 58, 59, 60, 61] (by decide +kernel) (by decide +kernel)
set_option maxRecDepth 20000 in
theorem gX4_costs_X0_faultsAt : GoodIn wsX4_costs (wsV RX4 228 RX0 yX0_faultsAt wsX0_faultsAt) := goodIn_app (goodIn_of _ (by decide +kernel)) ggX4_costs_X0_faultsAt
set_option maxRecDepth 20000 in
theorem ggX4_costs_X4_fraction : GoodIn wsX4_costs wsX4_fraction := goodIn_r _ [43, 44, 45, 6, 46] (by decide +kernel) (by decide +kernel)
set_option maxRecDepth 20000 in
theorem gX4_costs_X4_fraction : GoodIn wsX4_costs (va_wsS RX4 169 yX4_fraction wsX4_fraction) := goodIn_app (goodIn_of _ (by decide +kernel)) ggX4_costs_X4_fraction
theorem dX4_costs_0 : decode cX4_costs 0 = .ok (.iload_n 1, 1) := by decide +kernel
theorem dX4_costs_1 : decode cX4_costs 1 = .ok (.ifCond .ge 10, 3) := by decide +kernel
theorem dX4_costs_4 : decode cX4_costs 4 = .ok (.aload_n 0, 1) := by decide +kernel
theorem dX4_costs_5 : decode cX4_costs 5 = .ok (.bipush (-4), 2) := by decide +kernel
theorem dX4_costs_7 : decode cX4_costs 7 = .ok (.invokevirtual 155, 3) := by decide +kernel
theorem dX4_costs_10 : decode cX4_costs 10 = .ok (.lreturn, 1) := by decide +kernel
theorem dX4_costs_11 : decode cX4_costs 11 = .ok (.iload_n 1, 1) := by decide +kernel
theorem dX4_costs_12 : decode cX4_costs 12 = .ok (.bipush 20, 2) := by decide +kernel
theorem dX4_costs_14 : decode cX4_costs 14 = .ok (.if_icmp .le 10, 3) := by decide +kernel
theorem dX4_costs_17 : decode cX4_costs 17 = .ok (.aload_n 0, 1) := by decide +kernel
theorem dX4_costs_18 : decode cX4_costs 18 = .ok (.bipush (-6), 2) := by decide +kernel
theorem dX4_costs_20 : decode cX4_costs 20 = .ok (.invokevirtual 155, 3) := by decide +kernel
theorem dX4_costs_23 : decode cX4_costs 23 = .ok (.lreturn, 1) := by decide +kernel
theorem dX4_costs_24 : decode cX4_costs 24 = .ok (.iload_n 2, 1) := by decide +kernel
theorem dX4_costs_25 : decode cX4_costs 25 = .ok (.invokestatic 80, 3) := by decide +kernel
theorem dX4_costs_28 : decode cX4_costs 28 = .ok (.ifCond .ne 9, 3) := by decide +kernel
theorem dX4_costs_31 : decode cX4_costs 31 = .ok (.aload_n 0, 1) := by decide +kernel
theorem dX4_costs_32 : decode cX4_costs 32 = .ok (.iconst (-1), 1) := by decide +kernel
theorem dX4_costs_33 : decode cX4_costs 33 = .ok (.invokevirtual 155, 3) := by decide +kernel
theorem dX4_costs_36 : decode cX4_costs 36 = .ok (.lreturn, 1) := by decide +kernel
theorem dX4_costs_37 : decode cX4_costs 37 = .ok (.iload_n 3, 1) := by decide +kernel
theorem dX4_costs_38 : decode cX4_costs 38 = .ok (.invokestatic 159, 3) := by decide +kernel
theorem dX4_costs_41 : decode cX4_costs 41 = .ok (.ifCond .ne 10, 3) := by decide +kernel
theorem dX4_costs_44 : decode cX4_costs 44 = .ok (.aload_n 0, 1) := by decide +kernel
theorem dX4_costs_45 : decode cX4_costs 45 = .ok (.bipush (-2), 2) := by decide +kernel
theorem dX4_costs_47 : decode cX4_costs 47 = .ok (.invokevirtual 155, 3) := by decide +kernel
theorem dX4_costs_50 : decode cX4_costs 50 = .ok (.lreturn, 1) := by decide +kernel
theorem dX4_costs_51 : decode cX4_costs 51 = .ok (.aload_n 0, 1) := by decide +kernel
theorem dX4_costs_52 : decode cX4_costs 52 = .ok (.getfield 10, 3) := by decide +kernel
theorem dX4_costs_55 : decode cX4_costs 55 = .ok (.invokevirtual 144, 3) := by decide +kernel
theorem dX4_costs_58 : decode cX4_costs 58 = .ok (.lstore 4, 2) := by decide +kernel
theorem dX4_costs_60 : decode cX4_costs 60 = .ok (.lload 4, 2) := by decide +kernel
theorem dX4_costs_62 : decode cX4_costs 62 = .ok (.lconst 0, 1) := by decide +kernel
theorem dX4_costs_63 : decode cX4_costs 63 = .ok (.lcmp, 1) := by decide +kernel
theorem dX4_costs_64 : decode cX4_costs 64 = .ok (.ifCond .ne 10, 3) := by decide +kernel
theorem dX4_costs_67 : decode cX4_costs 67 = .ok (.aload_n 0, 1) := by decide +kernel
theorem dX4_costs_68 : decode cX4_costs 68 = .ok (.bipush (-3), 2) := by decide +kernel
theorem dX4_costs_70 : decode cX4_costs 70 = .ok (.invokevirtual 155, 3) := by decide +kernel
theorem dX4_costs_73 : decode cX4_costs 73 = .ok (.lreturn, 1) := by decide +kernel
theorem dX4_costs_74 : decode cX4_costs 74 = .ok (.aload_n 0, 1) := by decide +kernel
theorem dX4_costs_75 : decode cX4_costs 75 = .ok (.getfield 10, 3) := by decide +kernel
theorem dX4_costs_78 : decode cX4_costs 78 = .ok (.lload 4, 2) := by decide +kernel
theorem dX4_costs_80 : decode cX4_costs 80 = .ok (.invokevirtual 166, 3) := by decide +kernel
theorem dX4_costs_83 : decode cX4_costs 83 = .ok (.i2l, 1) := by decide +kernel
theorem dX4_costs_84 : decode cX4_costs 84 = .ok (.lstore 6, 2) := by decide +kernel
theorem dX4_costs_86 : decode cX4_costs 86 = .ok (.aload_n 0, 1) := by decide +kernel
theorem dX4_costs_87 : decode cX4_costs 87 = .ok (.getfield 10, 3) := by decide +kernel
theorem dX4_costs_90 : decode cX4_costs 90 = .ok (.getfield 93, 3) := by decide +kernel
theorem dX4_costs_93 : decode cX4_costs 93 = .ok (.iconst 3, 1) := by decide +kernel
theorem dX4_costs_94 : decode cX4_costs 94 = .ok (.iaload, 1) := by decide +kernel
theorem dX4_costs_95 : decode cX4_costs 95 = .ok (.iload_n 1, 1) := by decide +kernel
theorem dX4_costs_96 : decode cX4_costs 96 = .ok (.imul, 1) := by decide +kernel
theorem dX4_costs_97 : decode cX4_costs 97 = .ok (.i2l, 1) := by decide +kernel
theorem dX4_costs_98 : decode cX4_costs 98 = .ok (.lload 6, 2) := by decide +kernel
theorem dX4_costs_100 : decode cX4_costs 100 = .ok (.lmul, 1) := by decide +kernel
theorem dX4_costs_101 : decode cX4_costs 101 = .ok (.aload_n 0, 1) := by decide +kernel
theorem dX4_costs_102 : decode cX4_costs 102 = .ok (.getfield 10, 3) := by decide +kernel
theorem dX4_costs_105 : decode cX4_costs 105 = .ok (.iload_n 2, 1) := by decide +kernel
theorem dX4_costs_106 : decode cX4_costs 106 = .ok (.lload 4, 2) := by decide +kernel
theorem dX4_costs_108 : decode cX4_costs 108 = .ok (.invokevirtual 228, 3) := by decide +kernel
theorem dX4_costs_111 : decode cX4_costs 111 = .ok (.ladd, 1) := by decide +kernel
theorem dX4_costs_112 : decode cX4_costs 112 = .ok (.lload 6, 2) := by decide +kernel
theorem dX4_costs_114 : decode cX4_costs 114 = .ok (.iload_n 3, 1) := by decide +kernel
theorem dX4_costs_115 : decode cX4_costs 115 = .ok (.invokestatic 169, 3) := by decide +kernel
theorem dX4_costs_118 : decode cX4_costs 118 = .ok (.lreturn, 1) := by decide +kernel
set_option maxRecDepth 20000 in
theorem ggX4_worth_X0_left : GoodIn wsX4_worth wsX0_left := goodIn_r _ [7, 8, 144, 145, 146, 147, 148] (by decide +kernel) (by decide +kernel)
set_option maxRecDepth 20000 in
theorem gX4_worth_X0_left : GoodIn wsX4_worth (wsV RX4 144 RX0 yX0_left wsX0_left) := goodIn_app (goodIn_of _ (by decide +kernel)) ggX4_worth_X0_left
set_option maxRecDepth 20000 in
theorem ggX4_worth_X4_refuse : GoodIn wsX4_worth wsX4_refuse := goodIn_r _ [13, 14, 134, 135, 136, 137, 138, 139, 140, 141, 142, 143] (by decide +kernel) (by decide +kernel)
set_option maxRecDepth 20000 in
theorem gX4_worth_X4_refuse : GoodIn wsX4_worth (wsV RX4 58 RX4 yX4_refuse wsX4_refuse) := goodIn_app (goodIn_of _ (by decide +kernel)) ggX4_worth_X4_refuse
set_option maxRecDepth 20000 in
theorem ggX4_worth_X0_weightOf : GoodIn wsX4_worth wsX0_weightOf := goodIn_r _ [18, 8, 19, 12, 20, 144, 145, 146, 147, 148] (by decide +kernel) (by decide +kernel)
set_option maxRecDepth 20000 in
theorem gX4_worth_X0_weightOf : GoodIn wsX4_worth (wsV RX4 166 RX0 yX0_weightOf wsX0_weightOf) := goodIn_app (goodIn_of _ (by decide +kernel)) ggX4_worth_X0_weightOf
set_option maxRecDepth 20000 in
theorem ggX4_worth_X0_leastFaults : GoodIn wsX4_worth wsX0_leastFaults := goodIn_r _ [24, 25, 26, 27, 6, 28, 29, 30, 31, 32, 8, 33, 34, 35, 36, 37, 19, 12, 20, 144, 145, 146, 147, 148] (by decide +kernel) (by decide +kernel)
set_option maxRecDepth 20000 in
theorem gX4_worth_X0_leastFaults : GoodIn wsX4_worth (wsV RX4 183 RX0 yX0_leastFaults wsX0_leastFaults) := goodIn_app (goodIn_of _ (by decide +kernel)) ggX4_worth_X0_leastFaults
set_option maxRecDepth 20000 in
theorem ggX4_worth_X4_faultsBehindStrip : GoodIn wsX4_worth wsX4_faultsBehindStrip := goodIn_r _ [41, 42, 1, 43, 44, 45, 46, 47, 48, 49, 50, 51, 52, 53, 12, 54, 55, 56, 57, 58, 59, 60, 61, 62, 63, 64, 65, 66, 67, 68, 35, 69, 70, 71, 72, 73, 74, 75, 76, 77, 78, 79, 80, 81, 82, 83, 84, 85, 34, 36, 86, 87, 88, 89, 90, 91, 92, 93, 94, 95, 96, 97, 98, 99, 100, 101, 102, 103, 104, 105, 106, 107, 108, 109, 110, 16, 17, 6, 18, 8, 19, 20, 111, 112, 113, 114, 115, 116, 117, 118, 119, 120, 121, 122, 123, 124, 125, 126, 127, 128, 129, 130, 131, 132, 133, 22, 23, 24, 25, 26, 27, 28, 29, 30, 31, 32, 33, 37, 134, 135, 136, 137, 138, 139, 140, 141, 142, 143, 144, 145, 146, 147, 148, 149, 150, 151, 152, 153, 154, 155] (by decide +kernel) (by decide +kernel)
set_option maxRecDepth 20000 in
theorem gX4_worth_X4_faultsBehindStrip : GoodIn wsX4_worth (wsV RX4 187 RX4 yX4_faultsBehindStrip wsX4_faultsBehindStrip) := goodIn_app (goodIn_of _ (by decide +kernel)) ggX4_worth_X4_faultsBehindStrip
theorem dX4_worth_0 : decode cX4_worth 0 = .ok (.aload_n 0, 1) := by decide +kernel
theorem dX4_worth_1 : decode cX4_worth 1 = .ok (.getfield 10, 3) := by decide +kernel
theorem dX4_worth_4 : decode cX4_worth 4 = .ok (.invokevirtual 144, 3) := by decide +kernel
theorem dX4_worth_7 : decode cX4_worth 7 = .ok (.lstore_n 1, 1) := by decide +kernel
theorem dX4_worth_8 : decode cX4_worth 8 = .ok (.lload_n 1, 1) := by decide +kernel
theorem dX4_worth_9 : decode cX4_worth 9 = .ok (.lconst 0, 1) := by decide +kernel
theorem dX4_worth_10 : decode cX4_worth 10 = .ok (.lcmp, 1) := by decide +kernel
theorem dX4_worth_11 : decode cX4_worth 11 = .ok (.ifCond .ne 10, 3) := by decide +kernel
theorem dX4_worth_14 : decode cX4_worth 14 = .ok (.aload_n 0, 1) := by decide +kernel
theorem dX4_worth_15 : decode cX4_worth 15 = .ok (.bipush (-3), 2) := by decide +kernel
theorem dX4_worth_17 : decode cX4_worth 17 = .ok (.invokevirtual 58, 3) := by decide +kernel
theorem dX4_worth_20 : decode cX4_worth 20 = .ok (.ireturn, 1) := by decide +kernel
theorem dX4_worth_21 : decode cX4_worth 21 = .ok (.aload_n 0, 1) := by decide +kernel
theorem dX4_worth_22 : decode cX4_worth 22 = .ok (.getfield 10, 3) := by decide +kernel
theorem dX4_worth_25 : decode cX4_worth 25 = .ok (.lload_n 1, 1) := by decide +kernel
theorem dX4_worth_26 : decode cX4_worth 26 = .ok (.invokevirtual 166, 3) := by decide +kernel
theorem dX4_worth_29 : decode cX4_worth 29 = .ok (.i2l, 1) := by decide +kernel
theorem dX4_worth_30 : decode cX4_worth 30 = .ok (.lstore_n 3, 1) := by decide +kernel
theorem dX4_worth_31 : decode cX4_worth 31 = .ok (.aload_n 0, 1) := by decide +kernel
theorem dX4_worth_32 : decode cX4_worth 32 = .ok (.getfield 10, 3) := by decide +kernel
theorem dX4_worth_35 : decode cX4_worth 35 = .ok (.lload_n 1, 1) := by decide +kernel
theorem dX4_worth_36 : decode cX4_worth 36 = .ok (.invokevirtual 183, 3) := by decide +kernel
theorem dX4_worth_39 : decode cX4_worth 39 = .ok (.aload_n 0, 1) := by decide +kernel
theorem dX4_worth_40 : decode cX4_worth 40 = .ok (.lload_n 1, 1) := by decide +kernel
theorem dX4_worth_41 : decode cX4_worth 41 = .ok (.invokevirtual 187, 3) := by decide +kernel
theorem dX4_worth_44 : decode cX4_worth 44 = .ok (.lsub, 1) := by decide +kernel
theorem dX4_worth_45 : decode cX4_worth 45 = .ok (.lstore 5, 2) := by decide +kernel
theorem dX4_worth_47 : decode cX4_worth 47 = .ok (.getstatic 90, 3) := by decide +kernel
theorem dX4_worth_50 : decode cX4_worth 50 = .ok (.iconst 3, 1) := by decide +kernel
theorem dX4_worth_51 : decode cX4_worth 51 = .ok (.iaload, 1) := by decide +kernel
theorem dX4_worth_52 : decode cX4_worth 52 = .ok (.istore 7, 2) := by decide +kernel
theorem dX4_worth_54 : decode cX4_worth 54 = .ok (.iload 7, 2) := by decide +kernel
theorem dX4_worth_56 : decode cX4_worth 56 = .ok (.ifCond .lt 20, 3) := by decide +kernel
theorem dX4_worth_59 : decode cX4_worth 59 = .ok (.iload 7, 2) := by decide +kernel
theorem dX4_worth_61 : decode cX4_worth 61 = .ok (.i2l, 1) := by decide +kernel
theorem dX4_worth_62 : decode cX4_worth 62 = .ok (.lload_n 3, 1) := by decide +kernel
theorem dX4_worth_63 : decode cX4_worth 63 = .ok (.lmul, 1) := by decide +kernel
theorem dX4_worth_64 : decode cX4_worth 64 = .ok (.lload 5, 2) := by decide +kernel
theorem dX4_worth_66 : decode cX4_worth 66 = .ok (.lcmp, 1) := by decide +kernel
theorem dX4_worth_67 : decode cX4_worth 67 = .ok (.ifCond .lt 9, 3) := by decide +kernel
theorem dX4_worth_70 : decode cX4_worth 70 = .ok (.iinc 7 (-1), 3) := by decide +kernel
theorem dX4_worth_73 : decode cX4_worth 73 = .ok (.goto (-19), 3) := by decide +kernel
theorem dX4_worth_76 : decode cX4_worth 76 = .ok (.iload 7, 2) := by decide +kernel
theorem dX4_worth_78 : decode cX4_worth 78 = .ok (.ifCond .lt 8, 3) := by decide +kernel
theorem dX4_worth_81 : decode cX4_worth 81 = .ok (.iload 7, 2) := by decide +kernel
theorem dX4_worth_83 : decode cX4_worth 83 = .ok (.goto 5, 3) := by decide +kernel
theorem dX4_worth_86 : decode cX4_worth 86 = .ok (.bipush (-9), 2) := by decide +kernel
theorem dX4_worth_88 : decode cX4_worth 88 = .ok (.ireturn, 1) := by decide +kernel
set_option maxRecDepth 20000 in
theorem ggX4_row_X4_refuse : GoodIn wsX4_row wsX4_refuse := goodIn_r _ [7, 8, 9, 10, 11, 12, 13, 14, 15, 16, 17, 18] (by decide +kernel) (by decide +kernel)
set_option maxRecDepth 20000 in
theorem gX4_row_X4_refuse : GoodIn wsX4_row (wsV RX4 58 RX4 yX4_refuse wsX4_refuse) := goodIn_app (goodIn_of _ (by decide +kernel)) ggX4_row_X4_refuse
theorem dX4_row_0 : decode cX4_row 0 = .ok (.iload_n 1, 1) := by decide +kernel
theorem dX4_row_1 : decode cX4_row 1 = .ok (.ifCond .ge 10, 3) := by decide +kernel
theorem dX4_row_4 : decode cX4_row 4 = .ok (.aload_n 0, 1) := by decide +kernel
theorem dX4_row_5 : decode cX4_row 5 = .ok (.bipush (-4), 2) := by decide +kernel
theorem dX4_row_7 : decode cX4_row 7 = .ok (.invokevirtual 58, 3) := by decide +kernel
theorem dX4_row_10 : decode cX4_row 10 = .ok (.ireturn, 1) := by decide +kernel
theorem dX4_row_11 : decode cX4_row 11 = .ok (.iload_n 1, 1) := by decide +kernel
theorem dX4_row_12 : decode cX4_row 12 = .ok (.bipush 99, 2) := by decide +kernel
theorem dX4_row_14 : decode cX4_row 14 = .ok (.if_icmp .gt 12, 3) := by decide +kernel
theorem dX4_row_17 : decode cX4_row 17 = .ok (.aload_n 0, 1) := by decide +kernel
theorem dX4_row_18 : decode cX4_row 18 = .ok (.getfield 51, 3) := by decide +kernel
theorem dX4_row_21 : decode cX4_row 21 = .ok (.bipush 12, 2) := by decide +kernel
theorem dX4_row_23 : decode cX4_row 23 = .ok (.if_icmp .lt 10, 3) := by decide +kernel
theorem dX4_row_26 : decode cX4_row 26 = .ok (.aload_n 0, 1) := by decide +kernel
theorem dX4_row_27 : decode cX4_row 27 = .ok (.bipush (-6), 2) := by decide +kernel
theorem dX4_row_29 : decode cX4_row 29 = .ok (.invokevirtual 58, 3) := by decide +kernel
theorem dX4_row_32 : decode cX4_row 32 = .ok (.ireturn, 1) := by decide +kernel
theorem dX4_row_33 : decode cX4_row 33 = .ok (.aload_n 0, 1) := by decide +kernel
theorem dX4_row_34 : decode cX4_row 34 = .ok (.getfield 47, 3) := by decide +kernel
theorem dX4_row_37 : decode cX4_row 37 = .ok (.aload_n 0, 1) := by decide +kernel
theorem dX4_row_38 : decode cX4_row 38 = .ok (.getfield 51, 3) := by decide +kernel
theorem dX4_row_41 : decode cX4_row 41 = .ok (.iload_n 1, 1) := by decide +kernel
theorem dX4_row_42 : decode cX4_row 42 = .ok (.iastore, 1) := by decide +kernel
theorem dX4_row_43 : decode cX4_row 43 = .ok (.aload_n 0, 1) := by decide +kernel
theorem dX4_row_44 : decode cX4_row 44 = .ok (.dup, 1) := by decide +kernel
theorem dX4_row_45 : decode cX4_row 45 = .ok (.getfield 51, 3) := by decide +kernel
theorem dX4_row_48 : decode cX4_row 48 = .ok (.iconst 1, 1) := by decide +kernel
theorem dX4_row_49 : decode cX4_row 49 = .ok (.iadd, 1) := by decide +kernel
theorem dX4_row_50 : decode cX4_row 50 = .ok (.putfield 51, 3) := by decide +kernel
theorem dX4_row_53 : decode cX4_row 53 = .ok (.aload_n 0, 1) := by decide +kernel
theorem dX4_row_54 : decode cX4_row 54 = .ok (.getfield 51, 3) := by decide +kernel
theorem dX4_row_57 : decode cX4_row 57 = .ok (.ireturn, 1) := by decide +kernel
set_option maxRecDepth 20000 in
theorem ggX4_stays_X0_left : GoodIn wsX4_stays wsX0_left := goodIn_r _ [7, 8, 80, 81, 82, 83, 84] (by decide +kernel) (by decide +kernel)
set_option maxRecDepth 20000 in
theorem gX4_stays_X0_left : GoodIn wsX4_stays (wsV RX4 144 RX0 yX0_left wsX0_left) := goodIn_app (goodIn_of _ (by decide +kernel)) ggX4_stays_X0_left
set_option maxRecDepth 20000 in
theorem ggX4_stays_X4_leftBehindTwo : GoodIn wsX4_stays wsX4_leftBehindTwo := goodIn_r _ [13, 2, 14, 1, 15, 16, 17, 12, 18, 19, 20, 21, 6, 22, 23, 8, 24, 25, 26, 27, 28, 29, 30, 31, 32, 33, 34, 35, 36, 37, 38, 39, 40, 41, 42, 43, 44, 45, 46, 47, 48, 49, 50, 51, 52, 53, 54, 55, 56, 57, 58, 59, 70, 71, 72, 73, 74, 75, 76, 77, 78, 79, 80, 81, 82, 83, 84, 85, 86] (by decide +kernel) (by decide +kernel)
set_option maxRecDepth 20000 in
theorem gX4_stays_X4_leftBehindTwo : GoodIn wsX4_stays (wsV RX4 232 RX4 yX4_leftBehindTwo wsX4_leftBehindTwo) := goodIn_app (goodIn_of _ (by decide +kernel)) ggX4_stays_X4_leftBehindTwo
set_option maxRecDepth 20000 in
theorem ggX4_stays_X4_size : GoodIn wsX4_stays wsX4_size := goodIn_r _ [62, 63, 64, 65, 66, 67, 68, 69] (by decide +kernel) (by decide +kernel)
set_option maxRecDepth 20000 in
theorem gX4_stays_X4_size : GoodIn wsX4_stays (va_wsS RX4 136 yX4_size wsX4_size) := goodIn_app (goodIn_of _ (by decide +kernel)) ggX4_stays_X4_size
theorem dX4_stays_0 : decode cX4_stays 0 = .ok (.aload_n 0, 1) := by decide +kernel
theorem dX4_stays_1 : decode cX4_stays 1 = .ok (.getfield 10, 3) := by decide +kernel
theorem dX4_stays_4 : decode cX4_stays 4 = .ok (.invokevirtual 144, 3) := by decide +kernel
theorem dX4_stays_7 : decode cX4_stays 7 = .ok (.lstore_n 1, 1) := by decide +kernel
theorem dX4_stays_8 : decode cX4_stays 8 = .ok (.iconst 0, 1) := by decide +kernel
theorem dX4_stays_9 : decode cX4_stays 9 = .ok (.istore_n 3, 1) := by decide +kernel
theorem dX4_stays_10 : decode cX4_stays 10 = .ok (.iload_n 3, 1) := by decide +kernel
theorem dX4_stays_11 : decode cX4_stays 11 = .ok (.aload_n 0, 1) := by decide +kernel
theorem dX4_stays_12 : decode cX4_stays 12 = .ok (.getfield 51, 3) := by decide +kernel
theorem dX4_stays_15 : decode cX4_stays 15 = .ok (.if_icmp .ge 30, 3) := by decide +kernel
theorem dX4_stays_18 : decode cX4_stays 18 = .ok (.aload_n 0, 1) := by decide +kernel
theorem dX4_stays_19 : decode cX4_stays 19 = .ok (.iload_n 3, 1) := by decide +kernel
theorem dX4_stays_20 : decode cX4_stays 20 = .ok (.lload_n 1, 1) := by decide +kernel
theorem dX4_stays_21 : decode cX4_stays 21 = .ok (.invokevirtual 232, 3) := by decide +kernel
theorem dX4_stays_24 : decode cX4_stays 24 = .ok (.lstore 4, 2) := by decide +kernel
theorem dX4_stays_26 : decode cX4_stays 26 = .ok (.lload 4, 2) := by decide +kernel
theorem dX4_stays_28 : decode cX4_stays 28 = .ok (.lconst 0, 1) := by decide +kernel
theorem dX4_stays_29 : decode cX4_stays 29 = .ok (.lcmp, 1) := by decide +kernel
theorem dX4_stays_30 : decode cX4_stays 30 = .ok (.ifCond .ne 6, 3) := by decide +kernel
theorem dX4_stays_33 : decode cX4_stays 33 = .ok (.goto 12, 3) := by decide +kernel
theorem dX4_stays_36 : decode cX4_stays 36 = .ok (.lload 4, 2) := by decide +kernel
theorem dX4_stays_38 : decode cX4_stays 38 = .ok (.lstore_n 1, 1) := by decide +kernel
theorem dX4_stays_39 : decode cX4_stays 39 = .ok (.iinc 3 2, 3) := by decide +kernel
theorem dX4_stays_42 : decode cX4_stays 42 = .ok (.goto (-32), 3) := by decide +kernel
theorem dX4_stays_45 : decode cX4_stays 45 = .ok (.lload_n 1, 1) := by decide +kernel
theorem dX4_stays_46 : decode cX4_stays 46 = .ok (.invokestatic 136, 3) := by decide +kernel
theorem dX4_stays_49 : decode cX4_stays 49 = .ok (.ireturn, 1) := by decide +kernel
set_option maxRecDepth 20000 in
theorem ggX4_judge_X0_left : GoodIn wsX4_judge wsX0_left := goodIn_r _ [7, 8, 70, 71, 72, 73, 74] (by decide +kernel) (by decide +kernel)
set_option maxRecDepth 20000 in
theorem gX4_judge_X0_left : GoodIn wsX4_judge (wsV RX4 144 RX0 yX0_left wsX0_left) := goodIn_app (goodIn_of _ (by decide +kernel)) ggX4_judge_X0_left
set_option maxRecDepth 20000 in
theorem ggX4_judge_X4_leftBehindTwo : GoodIn wsX4_judge wsX4_leftBehindTwo := goodIn_r _ [13, 2, 14, 1, 15, 16, 17, 12, 18, 19, 20, 21, 6, 22, 23, 8, 24, 25, 26, 27, 28, 29, 30, 31, 32, 33, 34, 35, 36, 37, 38, 39, 40, 41, 42, 43, 44, 45, 46, 47, 48, 49, 50, 51, 52, 53, 54, 55, 56, 57, 58, 59, 60, 61, 62, 63, 64, 65, 66, 67, 68, 69, 70, 71, 72, 73, 74, 75, 76] (by decide +kernel) (by decide +kernel)
set_option maxRecDepth 20000 in
theorem gX4_judge_X4_leftBehindTwo : GoodIn wsX4_judge (wsV RX4 232 RX4 yX4_leftBehindTwo wsX4_leftBehindTwo) := goodIn_app (goodIn_of _ (by decide +kernel)) ggX4_judge_X4_leftBehindTwo
theorem dX4_judge_0 : decode cX4_judge 0 = .ok (.aload_n 0, 1) := by decide +kernel
theorem dX4_judge_1 : decode cX4_judge 1 = .ok (.getfield 10, 3) := by decide +kernel
theorem dX4_judge_4 : decode cX4_judge 4 = .ok (.invokevirtual 144, 3) := by decide +kernel
theorem dX4_judge_7 : decode cX4_judge 7 = .ok (.lstore_n 1, 1) := by decide +kernel
theorem dX4_judge_8 : decode cX4_judge 8 = .ok (.bipush (-9), 2) := by decide +kernel
theorem dX4_judge_10 : decode cX4_judge 10 = .ok (.istore_n 3, 1) := by decide +kernel
theorem dX4_judge_11 : decode cX4_judge 11 = .ok (.iconst 0, 1) := by decide +kernel
theorem dX4_judge_12 : decode cX4_judge 12 = .ok (.istore 4, 2) := by decide +kernel
theorem dX4_judge_14 : decode cX4_judge 14 = .ok (.iload 4, 2) := by decide +kernel
theorem dX4_judge_16 : decode cX4_judge 16 = .ok (.aload_n 0, 1) := by decide +kernel
theorem dX4_judge_17 : decode cX4_judge 17 = .ok (.getfield 51, 3) := by decide +kernel
theorem dX4_judge_20 : decode cX4_judge 20 = .ok (.if_icmp .ge 34, 3) := by decide +kernel
theorem dX4_judge_23 : decode cX4_judge 23 = .ok (.iload_n 3, 1) := by decide +kernel
theorem dX4_judge_24 : decode cX4_judge 24 = .ok (.bipush (-9), 2) := by decide +kernel
theorem dX4_judge_26 : decode cX4_judge 26 = .ok (.if_icmp .ne 28, 3) := by decide +kernel
theorem dX4_judge_29 : decode cX4_judge 29 = .ok (.aload_n 0, 1) := by decide +kernel
theorem dX4_judge_30 : decode cX4_judge 30 = .ok (.iload 4, 2) := by decide +kernel
theorem dX4_judge_32 : decode cX4_judge 32 = .ok (.lload_n 1, 1) := by decide +kernel
theorem dX4_judge_33 : decode cX4_judge 33 = .ok (.invokevirtual 232, 3) := by decide +kernel
theorem dX4_judge_36 : decode cX4_judge 36 = .ok (.lstore_n 1, 1) := by decide +kernel
theorem dX4_judge_37 : decode cX4_judge 37 = .ok (.lload_n 1, 1) := by decide +kernel
theorem dX4_judge_38 : decode cX4_judge 38 = .ok (.lconst 0, 1) := by decide +kernel
theorem dX4_judge_39 : decode cX4_judge 39 = .ok (.lcmp, 1) := by decide +kernel
theorem dX4_judge_40 : decode cX4_judge 40 = .ok (.ifCond .ne 8, 3) := by decide +kernel
theorem dX4_judge_43 : decode cX4_judge 43 = .ok (.iload 4, 2) := by decide +kernel
theorem dX4_judge_45 : decode cX4_judge 45 = .ok (.iconst 2, 1) := by decide +kernel
theorem dX4_judge_46 : decode cX4_judge 46 = .ok (.idiv, 1) := by decide +kernel
theorem dX4_judge_47 : decode cX4_judge 47 = .ok (.istore_n 3, 1) := by decide +kernel
theorem dX4_judge_48 : decode cX4_judge 48 = .ok (.iinc 4 2, 3) := by decide +kernel
theorem dX4_judge_51 : decode cX4_judge 51 = .ok (.goto (-37), 3) := by decide +kernel
theorem dX4_judge_54 : decode cX4_judge 54 = .ok (.aload_n 0, 1) := by decide +kernel
theorem dX4_judge_55 : decode cX4_judge 55 = .ok (.iconst 0, 1) := by decide +kernel
theorem dX4_judge_56 : decode cX4_judge 56 = .ok (.putfield 51, 3) := by decide +kernel
theorem dX4_judge_59 : decode cX4_judge 59 = .ok (.iload_n 3, 1) := by decide +kernel
theorem dX4_judge_60 : decode cX4_judge 60 = .ok (.ireturn, 1) := by decide +kernel
set_option maxRecDepth 20000 in
theorem ggX4_lots_X4_refuse : GoodIn wsX4_lots wsX4_refuse := goodIn_r _ [12, 13, 124, 125, 126, 127, 128, 129, 130, 131, 132, 133] (by decide +kernel) (by decide +kernel)
set_option maxRecDepth 20000 in
theorem gX4_lots_X4_refuse : GoodIn wsX4_lots (wsV RX4 58 RX4 yX4_refuse wsX4_refuse) := goodIn_app (goodIn_of _ (by decide +kernel)) ggX4_lots_X4_refuse
set_option maxRecDepth 20000 in
theorem ggX4_lots_X0_left : GoodIn wsX4_lots wsX0_left := goodIn_r _ [18, 19, 134, 135, 136, 137, 138] (by decide +kernel) (by decide +kernel)
set_option maxRecDepth 20000 in
theorem gX4_lots_X0_left : GoodIn wsX4_lots (wsV RX4 144 RX0 yX0_left wsX0_left) := goodIn_app (goodIn_of _ (by decide +kernel)) ggX4_lots_X0_left
set_option maxRecDepth 20000 in
theorem ggX4_lots_X2_take : GoodIn wsX4_lots wsX2_take := goodIn_r _ [24, 25, 26, 27, 28, 29, 11, 30, 31, 32, 33, 23, 34, 35, 36, 37, 38, 39, 40, 41, 42, 43, 44, 45, 46, 47, 48, 49, 50, 51, 52, 53, 54, 55, 56, 57, 58, 59, 60, 61, 62, 63, 64, 65, 66, 67, 68, 69, 70, 139, 140, 141, 142, 143, 134, 135, 136, 137, 138, 144, 145] (by decide +kernel) (by decide +kernel)
set_option maxRecDepth 20000 in
theorem gX4_lots_X2_take : GoodIn wsX4_lots (wsV RX4 140 RX2 yX2_take wsX2_take) := goodIn_app (goodIn_of _ (by decide +kernel)) ggX4_lots_X2_take
set_option maxRecDepth 20000 in
theorem ggX4_lots_X2_plan : GoodIn wsX4_lots wsX2_plan := goodIn_r _ [74, 75, 11, 76, 77, 78, 79, 80, 81, 82, 83, 84, 85, 86, 23, 87, 88, 89, 90, 91, 92, 93, 94, 95, 96, 97, 98, 99, 100, 101, 102, 103, 104, 105, 106, 35, 25, 107, 108, 109, 110, 111, 17, 112, 19, 113, 114, 115, 116, 117, 118, 119, 120, 121, 69, 45, 70, 122, 72, 73, 139, 140, 141, 142, 143, 134, 135, 136, 137, 138] (by decide +kernel) (by decide +kernel)
set_option maxRecDepth 20000 in
theorem gX4_lots_X2_plan : GoodIn wsX4_lots (wsV RX4 194 RX2 yX2_plan wsX2_plan) := goodIn_app (goodIn_of _ (by decide +kernel)) ggX4_lots_X2_plan
set_option maxRecDepth 20000 in
theorem ggX4_lots_X4_holds : GoodIn wsX4_lots wsX4_holds := goodIn_r _ [90] (by decide +kernel) (by decide +kernel)
set_option maxRecDepth 20000 in
theorem gX4_lots_X4_holds : GoodIn wsX4_lots (va_wsS RX4 190 yX4_holds wsX4_holds) := goodIn_app (goodIn_of _ (by decide +kernel)) ggX4_lots_X4_holds
theorem dX4_lots_0 : decode cX4_lots 0 = .ok (.iload_n 1, 1) := by decide +kernel
theorem dX4_lots_1 : decode cX4_lots 1 = .ok (.iconst 1, 1) := by decide +kernel
theorem dX4_lots_2 : decode cX4_lots 2 = .ok (.if_icmp .ge 10, 3) := by decide +kernel
theorem dX4_lots_5 : decode cX4_lots 5 = .ok (.aload_n 0, 1) := by decide +kernel
theorem dX4_lots_6 : decode cX4_lots 6 = .ok (.bipush (-4), 2) := by decide +kernel
theorem dX4_lots_8 : decode cX4_lots 8 = .ok (.invokevirtual 58, 3) := by decide +kernel
theorem dX4_lots_11 : decode cX4_lots 11 = .ok (.ireturn, 1) := by decide +kernel
theorem dX4_lots_12 : decode cX4_lots 12 = .ok (.iload_n 1, 1) := by decide +kernel
theorem dX4_lots_13 : decode cX4_lots 13 = .ok (.bipush 20, 2) := by decide +kernel
theorem dX4_lots_15 : decode cX4_lots 15 = .ok (.if_icmp .le 10, 3) := by decide +kernel
theorem dX4_lots_18 : decode cX4_lots 18 = .ok (.aload_n 0, 1) := by decide +kernel
theorem dX4_lots_19 : decode cX4_lots 19 = .ok (.bipush (-6), 2) := by decide +kernel
theorem dX4_lots_21 : decode cX4_lots 21 = .ok (.invokevirtual 58, 3) := by decide +kernel
theorem dX4_lots_24 : decode cX4_lots 24 = .ok (.ireturn, 1) := by decide +kernel
theorem dX4_lots_25 : decode cX4_lots 25 = .ok (.aload_n 0, 1) := by decide +kernel
theorem dX4_lots_26 : decode cX4_lots 26 = .ok (.getfield 10, 3) := by decide +kernel
theorem dX4_lots_29 : decode cX4_lots 29 = .ok (.invokevirtual 144, 3) := by decide +kernel
theorem dX4_lots_32 : decode cX4_lots 32 = .ok (.lstore_n 3, 1) := by decide +kernel
theorem dX4_lots_33 : decode cX4_lots 33 = .ok (.aload_n 0, 1) := by decide +kernel
theorem dX4_lots_34 : decode cX4_lots 34 = .ok (.getfield 36, 3) := by decide +kernel
theorem dX4_lots_37 : decode cX4_lots 37 = .ok (.aload_n 0, 1) := by decide +kernel
theorem dX4_lots_38 : decode cX4_lots 38 = .ok (.getfield 10, 3) := by decide +kernel
theorem dX4_lots_41 : decode cX4_lots 41 = .ok (.aload_n 0, 1) := by decide +kernel
theorem dX4_lots_42 : decode cX4_lots 42 = .ok (.getfield 10, 3) := by decide +kernel
theorem dX4_lots_45 : decode cX4_lots 45 = .ok (.getfield 99, 3) := by decide +kernel
theorem dX4_lots_48 : decode cX4_lots 48 = .ok (.invokevirtual 140, 3) := by decide +kernel
theorem dX4_lots_51 : decode cX4_lots 51 = .ok (.aload_n 0, 1) := by decide +kernel
theorem dX4_lots_52 : decode cX4_lots 52 = .ok (.getfield 36, 3) := by decide +kernel
theorem dX4_lots_55 : decode cX4_lots 55 = .ok (.aload_n 0, 1) := by decide +kernel
theorem dX4_lots_56 : decode cX4_lots 56 = .ok (.getfield 10, 3) := by decide +kernel
theorem dX4_lots_59 : decode cX4_lots 59 = .ok (.lload_n 3, 1) := by decide +kernel
theorem dX4_lots_60 : decode cX4_lots 60 = .ok (.iconst 0, 1) := by decide +kernel
theorem dX4_lots_61 : decode cX4_lots 61 = .ok (.invokevirtual 194, 3) := by decide +kernel
theorem dX4_lots_64 : decode cX4_lots 64 = .ok (.iconst 0, 1) := by decide +kernel
theorem dX4_lots_65 : decode cX4_lots 65 = .ok (.istore 5, 2) := by decide +kernel
theorem dX4_lots_67 : decode cX4_lots 67 = .ok (.iload_n 2, 1) := by decide +kernel
theorem dX4_lots_68 : decode cX4_lots 68 = .ok (.istore 6, 2) := by decide +kernel
theorem dX4_lots_70 : decode cX4_lots 70 = .ok (.iconst 0, 1) := by decide +kernel
theorem dX4_lots_71 : decode cX4_lots 71 = .ok (.istore 7, 2) := by decide +kernel
theorem dX4_lots_73 : decode cX4_lots 73 = .ok (.iload 7, 2) := by decide +kernel
theorem dX4_lots_75 : decode cX4_lots 75 = .ok (.iload_n 1, 1) := by decide +kernel
theorem dX4_lots_76 : decode cX4_lots 76 = .ok (.if_icmp .ge 82, 3) := by decide +kernel
theorem dX4_lots_79 : decode cX4_lots 79 = .ok (.iload 6, 2) := by decide +kernel
theorem dX4_lots_81 : decode cX4_lots 81 = .ok (.ldc 235, 2) := by decide +kernel
theorem dX4_lots_83 : decode cX4_lots 83 = .ok (.imul, 1) := by decide +kernel
theorem dX4_lots_84 : decode cX4_lots 84 = .ok (.ldc 236, 2) := by decide +kernel
theorem dX4_lots_86 : decode cX4_lots 86 = .ok (.iadd, 1) := by decide +kernel
theorem dX4_lots_87 : decode cX4_lots 87 = .ok (.istore 6, 2) := by decide +kernel
theorem dX4_lots_89 : decode cX4_lots 89 = .ok (.iload 6, 2) := by decide +kernel
theorem dX4_lots_91 : decode cX4_lots 91 = .ok (.ldc 237, 2) := by decide +kernel
theorem dX4_lots_93 : decode cX4_lots 93 = .ok (.iand, 1) := by decide +kernel
theorem dX4_lots_94 : decode cX4_lots 94 = .ok (.sipush 256, 3) := by decide +kernel
theorem dX4_lots_97 : decode cX4_lots 97 = .ok (.idiv, 1) := by decide +kernel
theorem dX4_lots_98 : decode cX4_lots 98 = .ok (.bipush 40, 2) := by decide +kernel
theorem dX4_lots_100 : decode cX4_lots 100 = .ok (.irem, 1) := by decide +kernel
theorem dX4_lots_101 : decode cX4_lots 101 = .ok (.iconst 1, 1) := by decide +kernel
theorem dX4_lots_102 : decode cX4_lots 102 = .ok (.iadd, 1) := by decide +kernel
theorem dX4_lots_103 : decode cX4_lots 103 = .ok (.istore 8, 2) := by decide +kernel
theorem dX4_lots_105 : decode cX4_lots 105 = .ok (.lload_n 3, 1) := by decide +kernel
theorem dX4_lots_106 : decode cX4_lots 106 = .ok (.iload 8, 2) := by decide +kernel
theorem dX4_lots_108 : decode cX4_lots 108 = .ok (.invokestatic 190, 3) := by decide +kernel
theorem dX4_lots_111 : decode cX4_lots 111 = .ok (.ifCond .ne 6, 3) := by decide +kernel
theorem dX4_lots_114 : decode cX4_lots 114 = .ok (.goto 38, 3) := by decide +kernel
theorem dX4_lots_117 : decode cX4_lots 117 = .ok (.iload 5, 2) := by decide +kernel
theorem dX4_lots_119 : decode cX4_lots 119 = .ok (.aload_n 0, 1) := by decide +kernel
theorem dX4_lots_120 : decode cX4_lots 120 = .ok (.getfield 36, 3) := by decide +kernel
theorem dX4_lots_123 : decode cX4_lots 123 = .ok (.getfield 198, 3) := by decide +kernel
theorem dX4_lots_126 : decode cX4_lots 126 = .ok (.iload 8, 2) := by decide +kernel
theorem dX4_lots_128 : decode cX4_lots 128 = .ok (.iaload, 1) := by decide +kernel
theorem dX4_lots_129 : decode cX4_lots 129 = .ok (.bipush (-9), 2) := by decide +kernel
theorem dX4_lots_131 : decode cX4_lots 131 = .ok (.if_icmp .ne 8, 3) := by decide +kernel
theorem dX4_lots_134 : decode cX4_lots 134 = .ok (.bipush 12, 2) := by decide +kernel
theorem dX4_lots_136 : decode cX4_lots 136 = .ok (.goto 13, 3) := by decide +kernel
theorem dX4_lots_139 : decode cX4_lots 139 = .ok (.aload_n 0, 1) := by decide +kernel
theorem dX4_lots_140 : decode cX4_lots 140 = .ok (.getfield 36, 3) := by decide +kernel
theorem dX4_lots_143 : decode cX4_lots 143 = .ok (.getfield 198, 3) := by decide +kernel
theorem dX4_lots_146 : decode cX4_lots 146 = .ok (.iload 8, 2) := by decide +kernel
theorem dX4_lots_148 : decode cX4_lots 148 = .ok (.iaload, 1) := by decide +kernel
theorem dX4_lots_149 : decode cX4_lots 149 = .ok (.iadd, 1) := by decide +kernel
theorem dX4_lots_150 : decode cX4_lots 150 = .ok (.istore 5, 2) := by decide +kernel
theorem dX4_lots_152 : decode cX4_lots 152 = .ok (.iinc 7 1, 3) := by decide +kernel
theorem dX4_lots_155 : decode cX4_lots 155 = .ok (.goto (-82), 3) := by decide +kernel
theorem dX4_lots_158 : decode cX4_lots 158 = .ok (.iload 5, 2) := by decide +kernel
theorem dX4_lots_160 : decode cX4_lots 160 = .ok (.ireturn, 1) := by decide +kernel
set_option maxRecDepth 20000 in
theorem ggX4_image_X0_copyFrom : GoodIn wsX4_image wsX0_copyFrom := goodIn_r _ [8, 9, 10, 11, 12, 13, 39, 40, 41, 42, 43] (by decide +kernel) (by decide +kernel)
set_option maxRecDepth 20000 in
theorem gX4_image_X0_copyFrom : GoodIn wsX4_image (wsV RX4 69 RX0 yX0_copyFrom wsX0_copyFrom) := goodIn_app (goodIn_of _ (by decide +kernel)) ggX4_image_X0_copyFrom
set_option maxRecDepth 20000 in
theorem ggX4_image_X0_left : GoodIn wsX4_image wsX0_left := goodIn_r _ [17, 9, 39, 40, 41, 42, 43] (by decide +kernel) (by decide +kernel)
set_option maxRecDepth 20000 in
theorem gX4_image_X0_left : GoodIn wsX4_image (wsV RX4 144 RX0 yX0_left wsX0_left) := goodIn_app (goodIn_of _ (by decide +kernel)) ggX4_image_X0_left
set_option maxRecDepth 20000 in
theorem ggX4_image_X4_size : GoodIn wsX4_image wsX4_size := goodIn_r _ [21, 22, 23, 24, 25, 26, 27, 28] (by decide +kernel) (by decide +kernel)
set_option maxRecDepth 20000 in
theorem gX4_image_X4_size : GoodIn wsX4_image (va_wsS RX4 136 yX4_size wsX4_size) := goodIn_app (goodIn_of _ (by decide +kernel)) ggX4_image_X4_size
theorem dX4_image_0 : decode cX4_image 0 = .ok (.aload_n 0, 1) := by decide +kernel
theorem dX4_image_1 : decode cX4_image 1 = .ok (.getfield 19, 3) := by decide +kernel
theorem dX4_image_4 : decode cX4_image 4 = .ok (.aload_n 0, 1) := by decide +kernel
theorem dX4_image_5 : decode cX4_image 5 = .ok (.getfield 10, 3) := by decide +kernel
theorem dX4_image_8 : decode cX4_image 8 = .ok (.invokevirtual 69, 3) := by decide +kernel
theorem dX4_image_11 : decode cX4_image 11 = .ok (.aload_n 0, 1) := by decide +kernel
theorem dX4_image_12 : decode cX4_image 12 = .ok (.iconst 1, 1) := by decide +kernel
theorem dX4_image_13 : decode cX4_image 13 = .ok (.putfield 22, 3) := by decide +kernel
theorem dX4_image_16 : decode cX4_image 16 = .ok (.aload_n 0, 1) := by decide +kernel
theorem dX4_image_17 : decode cX4_image 17 = .ok (.getfield 10, 3) := by decide +kernel
theorem dX4_image_20 : decode cX4_image 20 = .ok (.invokevirtual 144, 3) := by decide +kernel
theorem dX4_image_23 : decode cX4_image 23 = .ok (.invokestatic 136, 3) := by decide +kernel
theorem dX4_image_26 : decode cX4_image 26 = .ok (.ireturn, 1) := by decide +kernel
set_option maxRecDepth 20000 in
theorem ggX4_on_X4_refuse : GoodIn wsX4_on wsX4_refuse := goodIn_r _ [8, 9, 34, 35, 36, 37, 38, 39, 40, 41, 42, 43] (by decide +kernel) (by decide +kernel)
set_option maxRecDepth 20000 in
theorem gX4_on_X4_refuse : GoodIn wsX4_on (wsV RX4 58 RX4 yX4_refuse wsX4_refuse) := goodIn_app (goodIn_of _ (by decide +kernel)) ggX4_on_X4_refuse
set_option maxRecDepth 20000 in
theorem ggX4_on_X0_copyFrom : GoodIn wsX4_on wsX0_copyFrom := goodIn_r _ [14, 15, 16, 17, 18, 19, 44, 45, 46, 47, 48] (by decide +kernel) (by decide +kernel)
set_option maxRecDepth 20000 in
theorem gX4_on_X0_copyFrom : GoodIn wsX4_on (wsV RX4 69 RX0 yX0_copyFrom wsX0_copyFrom) := goodIn_app (goodIn_of _ (by decide +kernel)) ggX4_on_X0_copyFrom
set_option maxRecDepth 20000 in
theorem ggX4_on_X0_left : GoodIn wsX4_on wsX0_left := goodIn_r _ [23, 15, 44, 45, 46, 47, 48] (by decide +kernel) (by decide +kernel)
set_option maxRecDepth 20000 in
theorem gX4_on_X0_left : GoodIn wsX4_on (wsV RX4 144 RX0 yX0_left wsX0_left) := goodIn_app (goodIn_of _ (by decide +kernel)) ggX4_on_X0_left
set_option maxRecDepth 20000 in
theorem ggX4_on_X4_size : GoodIn wsX4_on wsX4_size := goodIn_r _ [26, 27, 28, 29, 30, 31, 32, 33] (by decide +kernel) (by decide +kernel)
set_option maxRecDepth 20000 in
theorem gX4_on_X4_size : GoodIn wsX4_on (va_wsS RX4 136 yX4_size wsX4_size) := goodIn_app (goodIn_of _ (by decide +kernel)) ggX4_on_X4_size
theorem dX4_on_0 : decode cX4_on 0 = .ok (.aload_n 0, 1) := by decide +kernel
theorem dX4_on_1 : decode cX4_on 1 = .ok (.getfield 22, 3) := by decide +kernel
theorem dX4_on_4 : decode cX4_on 4 = .ok (.ifCond .ne 10, 3) := by decide +kernel
theorem dX4_on_7 : decode cX4_on 7 = .ok (.aload_n 0, 1) := by decide +kernel
theorem dX4_on_8 : decode cX4_on 8 = .ok (.bipush (-3), 2) := by decide +kernel
theorem dX4_on_10 : decode cX4_on 10 = .ok (.invokevirtual 58, 3) := by decide +kernel
theorem dX4_on_13 : decode cX4_on 13 = .ok (.ireturn, 1) := by decide +kernel
theorem dX4_on_14 : decode cX4_on 14 = .ok (.aload_n 0, 1) := by decide +kernel
theorem dX4_on_15 : decode cX4_on 15 = .ok (.getfield 10, 3) := by decide +kernel
theorem dX4_on_18 : decode cX4_on 18 = .ok (.aload_n 0, 1) := by decide +kernel
theorem dX4_on_19 : decode cX4_on 19 = .ok (.getfield 19, 3) := by decide +kernel
theorem dX4_on_22 : decode cX4_on 22 = .ok (.invokevirtual 69, 3) := by decide +kernel
theorem dX4_on_25 : decode cX4_on 25 = .ok (.aload_n 0, 1) := by decide +kernel
theorem dX4_on_26 : decode cX4_on 26 = .ok (.getfield 10, 3) := by decide +kernel
theorem dX4_on_29 : decode cX4_on 29 = .ok (.invokevirtual 144, 3) := by decide +kernel
theorem dX4_on_32 : decode cX4_on 32 = .ok (.invokestatic 136, 3) := by decide +kernel
theorem dX4_on_35 : decode cX4_on 35 = .ok (.ireturn, 1) := by decide +kernel
set_option maxRecDepth 20000 in
theorem ggX4_count_X0_left : GoodIn wsX4_count wsX0_left := goodIn_r _ [12, 13, 41, 42, 43, 44, 45] (by decide +kernel) (by decide +kernel)
set_option maxRecDepth 20000 in
theorem gX4_count_X0_left : GoodIn wsX4_count (wsV RX4 144 RX0 yX0_left wsX0_left) := goodIn_app (goodIn_of _ (by decide +kernel)) ggX4_count_X0_left
set_option maxRecDepth 20000 in
theorem ggX4_count_X4_size : GoodIn wsX4_count wsX4_size := goodIn_r _ [17, 18, 19, 20, 21, 22, 23, 24] (by decide +kernel) (by decide +kernel)
set_option maxRecDepth 20000 in
theorem gX4_count_X4_size : GoodIn wsX4_count (va_wsS RX4 136 yX4_size wsX4_size) := goodIn_app (goodIn_of _ (by decide +kernel)) ggX4_count_X4_size
set_option maxRecDepth 20000 in
theorem ggX4_count_X0_weightOf : GoodIn wsX4_count wsX0_weightOf := goodIn_r _ [28, 13, 29, 16, 30, 41, 42, 43, 44, 45] (by decide +kernel) (by decide +kernel)
set_option maxRecDepth 20000 in
theorem gX4_count_X0_weightOf : GoodIn wsX4_count (wsV RX4 166 RX0 yX0_weightOf wsX0_weightOf) := goodIn_app (goodIn_of _ (by decide +kernel)) ggX4_count_X0_weightOf
theorem dX4_count_0 : decode cX4_count 0 = .ok (.iload_n 1, 1) := by decide +kernel
theorem dX4_count_1 : decode cX4_count 1 = .ok (.iconst 3, 1) := by decide +kernel
theorem dX4_count_2 : decode cX4_count 2 = .ok (.if_icmp .lt 21, 3) := by decide +kernel
theorem dX4_count_5 : decode cX4_count 5 = .ok (.iload_n 1, 1) := by decide +kernel
theorem dX4_count_6 : decode cX4_count 6 = .ok (.bipush 8, 2) := by decide +kernel
theorem dX4_count_8 : decode cX4_count 8 = .ok (.if_icmp .ge 15, 3) := by decide +kernel
theorem dX4_count_11 : decode cX4_count 11 = .ok (.aload_n 0, 1) := by decide +kernel
theorem dX4_count_12 : decode cX4_count 12 = .ok (.getfield 10, 3) := by decide +kernel
theorem dX4_count_15 : decode cX4_count 15 = .ok (.getfield 93, 3) := by decide +kernel
theorem dX4_count_18 : decode cX4_count 18 = .ok (.iload_n 1, 1) := by decide +kernel
theorem dX4_count_19 : decode cX4_count 19 = .ok (.iconst 3, 1) := by decide +kernel
theorem dX4_count_20 : decode cX4_count 20 = .ok (.isub, 1) := by decide +kernel
theorem dX4_count_21 : decode cX4_count 21 = .ok (.iaload, 1) := by decide +kernel
theorem dX4_count_22 : decode cX4_count 22 = .ok (.ireturn, 1) := by decide +kernel
theorem dX4_count_23 : decode cX4_count 23 = .ok (.iload_n 1, 1) := by decide +kernel
theorem dX4_count_24 : decode cX4_count 24 = .ok (.bipush 10, 2) := by decide +kernel
theorem dX4_count_26 : decode cX4_count 26 = .ok (.if_icmp .le 19, 3) := by decide +kernel
theorem dX4_count_29 : decode cX4_count 29 = .ok (.iload_n 1, 1) := by decide +kernel
theorem dX4_count_30 : decode cX4_count 30 = .ok (.bipush 17, 2) := by decide +kernel
theorem dX4_count_32 : decode cX4_count 32 = .ok (.if_icmp .ge 13, 3) := by decide +kernel
theorem dX4_count_35 : decode cX4_count 35 = .ok (.aload_n 0, 1) := by decide +kernel
theorem dX4_count_36 : decode cX4_count 36 = .ok (.getfield 55, 3) := by decide +kernel
theorem dX4_count_39 : decode cX4_count 39 = .ok (.iload_n 1, 1) := by decide +kernel
theorem dX4_count_40 : decode cX4_count 40 = .ok (.bipush 10, 2) := by decide +kernel
theorem dX4_count_42 : decode cX4_count 42 = .ok (.isub, 1) := by decide +kernel
theorem dX4_count_43 : decode cX4_count 43 = .ok (.iaload, 1) := by decide +kernel
theorem dX4_count_44 : decode cX4_count 44 = .ok (.ireturn, 1) := by decide +kernel
theorem dX4_count_45 : decode cX4_count 45 = .ok (.iload_n 1, 1) := by decide +kernel
theorem dX4_count_46 : decode cX4_count 46 = .ok (.tableswitch 101 0 9 #[54, 65, 80, 101, 101, 101, 101, 101, 88, 93], 54) := by decide +kernel
theorem dX4_count_100 : decode cX4_count 100 = .ok (.aload_n 0, 1) := by decide +kernel
theorem dX4_count_101 : decode cX4_count 101 = .ok (.getfield 10, 3) := by decide +kernel
theorem dX4_count_104 : decode cX4_count 104 = .ok (.invokevirtual 144, 3) := by decide +kernel
theorem dX4_count_107 : decode cX4_count 107 = .ok (.invokestatic 136, 3) := by decide +kernel
theorem dX4_count_110 : decode cX4_count 110 = .ok (.ireturn, 1) := by decide +kernel
theorem dX4_count_111 : decode cX4_count 111 = .ok (.aload_n 0, 1) := by decide +kernel
theorem dX4_count_112 : decode cX4_count 112 = .ok (.getfield 10, 3) := by decide +kernel
theorem dX4_count_115 : decode cX4_count 115 = .ok (.aload_n 0, 1) := by decide +kernel
theorem dX4_count_116 : decode cX4_count 116 = .ok (.getfield 10, 3) := by decide +kernel
theorem dX4_count_119 : decode cX4_count 119 = .ok (.invokevirtual 144, 3) := by decide +kernel
theorem dX4_count_122 : decode cX4_count 122 = .ok (.invokevirtual 166, 3) := by decide +kernel
theorem dX4_count_125 : decode cX4_count 125 = .ok (.ireturn, 1) := by decide +kernel
theorem dX4_count_126 : decode cX4_count 126 = .ok (.aload_n 0, 1) := by decide +kernel
theorem dX4_count_127 : decode cX4_count 127 = .ok (.getfield 10, 3) := by decide +kernel
theorem dX4_count_130 : decode cX4_count 130 = .ok (.getfield 129, 3) := by decide +kernel
theorem dX4_count_133 : decode cX4_count 133 = .ok (.ireturn, 1) := by decide +kernel
theorem dX4_count_134 : decode cX4_count 134 = .ok (.aload_n 0, 1) := by decide +kernel
theorem dX4_count_135 : decode cX4_count 135 = .ok (.getfield 51, 3) := by decide +kernel
theorem dX4_count_138 : decode cX4_count 138 = .ok (.ireturn, 1) := by decide +kernel
theorem dX4_count_139 : decode cX4_count 139 = .ok (.aload_n 0, 1) := by decide +kernel
theorem dX4_count_140 : decode cX4_count 140 = .ok (.getfield 43, 3) := by decide +kernel
theorem dX4_count_143 : decode cX4_count 143 = .ok (.getfield 238, 3) := by decide +kernel
theorem dX4_count_146 : decode cX4_count 146 = .ok (.ireturn, 1) := by decide +kernel
theorem dX4_count_147 : decode cX4_count 147 = .ok (.bipush (-9), 2) := by decide +kernel
theorem dX4_count_149 : decode cX4_count 149 = .ok (.ireturn, 1) := by decide +kernel

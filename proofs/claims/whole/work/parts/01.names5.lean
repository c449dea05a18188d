theorem dX5_part_2 : decode cX5_part 2 = .ok (.iload_n 3, 1) := by decide +kernel
theorem dX5_part_3 : decode cX5_part 3 = .ok (.bipush 8, 2) := by decide +kernel
theorem dX5_part_5 : decode cX5_part 5 = .ok (.if_icmp .gt 23, 3) := by decide +kernel
theorem dX5_part_8 : decode cX5_part 8 = .ok (.aload_n 0, 1) := by decide +kernel
theorem dX5_part_9 : decode cX5_part 9 = .ok (.getfield 28, 3) := by decide +kernel
theorem dX5_part_12 : decode cX5_part 12 = .ok (.iload_n 3, 1) := by decide +kernel
theorem dX5_part_13 : decode cX5_part 13 = .ok (.iconst 0, 1) := by decide +kernel
theorem dX5_part_14 : decode cX5_part 14 = .ok (.iastore, 1) := by decide +kernel
theorem dX5_part_15 : decode cX5_part 15 = .ok (.aload_n 0, 1) := by decide +kernel
theorem dX5_part_16 : decode cX5_part 16 = .ok (.getfield 31, 3) := by decide +kernel
theorem dX5_part_19 : decode cX5_part 19 = .ok (.iload_n 3, 1) := by decide +kernel
theorem dX5_part_20 : decode cX5_part 20 = .ok (.iconst 0, 1) := by decide +kernel
theorem dX5_part_21 : decode cX5_part 21 = .ok (.iastore, 1) := by decide +kernel
theorem dX5_part_22 : decode cX5_part 22 = .ok (.iinc 3 1, 3) := by decide +kernel
theorem dX5_part_25 : decode cX5_part 25 = .ok (.goto (-23), 3) := by decide +kernel
theorem dX5_part_28 : decode cX5_part 28 = .ok (.iconst 1, 1) := by decide +kernel
theorem dX5_part_29 : decode cX5_part 29 = .ok (.istore_n 3, 1) := by decide +kernel
theorem dX5_part_30 : decode cX5_part 30 = .ok (.iload_n 3, 1) := by decide +kernel
theorem dX5_part_31 : decode cX5_part 31 = .ok (.bipush 40, 2) := by decide +kernel
theorem dX5_part_33 : decode cX5_part 33 = .ok (.if_icmp .gt 67, 3) := by decide +kernel
theorem dX5_part_36 : decode cX5_part 36 = .ok (.aload_n 0, 1) := by decide +kernel
theorem dX5_part_37 : decode cX5_part 37 = .ok (.getfield 25, 3) := by decide +kernel
theorem dX5_part_40 : decode cX5_part 40 = .ok (.iload_n 3, 1) := by decide +kernel
theorem dX5_part_41 : decode cX5_part 41 = .ok (.bipush (-9), 2) := by decide +kernel
theorem dX5_part_43 : decode cX5_part 43 = .ok (.iastore, 1) := by decide +kernel
theorem dX5_part_44 : decode cX5_part 44 = .ok (.aload_n 1, 1) := by decide +kernel
theorem dX5_part_45 : decode cX5_part 45 = .ok (.iload_n 3, 1) := by decide +kernel
theorem dX5_part_46 : decode cX5_part 46 = .ok (.iaload, 1) := by decide +kernel
theorem dX5_part_47 : decode cX5_part 47 = .ok (.ifCond .le 47, 3) := by decide +kernel
theorem dX5_part_50 : decode cX5_part 50 = .ok (.aload_n 0, 1) := by decide +kernel
theorem dX5_part_51 : decode cX5_part 51 = .ok (.getfield 25, 3) := by decide +kernel
theorem dX5_part_54 : decode cX5_part 54 = .ok (.iload_n 3, 1) := by decide +kernel
theorem dX5_part_55 : decode cX5_part 55 = .ok (.aload_n 0, 1) := by decide +kernel
theorem dX5_part_56 : decode cX5_part 56 = .ok (.iload_n 2, 1) := by decide +kernel
theorem dX5_part_57 : decode cX5_part 57 = .ok (.iload_n 3, 1) := by decide +kernel
theorem dX5_part_58 : decode cX5_part 58 = .ok (.invokevirtual 97, 3) := by decide +kernel
theorem dX5_part_61 : decode cX5_part 61 = .ok (.iastore, 1) := by decide +kernel
theorem dX5_part_62 : decode cX5_part 62 = .ok (.aload_n 0, 1) := by decide +kernel
theorem dX5_part_63 : decode cX5_part 63 = .ok (.getfield 28, 3) := by decide +kernel
theorem dX5_part_66 : decode cX5_part 66 = .ok (.aload_n 0, 1) := by decide +kernel
theorem dX5_part_67 : decode cX5_part 67 = .ok (.getfield 25, 3) := by decide +kernel
theorem dX5_part_70 : decode cX5_part 70 = .ok (.iload_n 3, 1) := by decide +kernel
theorem dX5_part_71 : decode cX5_part 71 = .ok (.iaload, 1) := by decide +kernel
theorem dX5_part_72 : decode cX5_part 72 = .ok (.dup2, 1) := by decide +kernel
theorem dX5_part_73 : decode cX5_part 73 = .ok (.iaload, 1) := by decide +kernel
theorem dX5_part_74 : decode cX5_part 74 = .ok (.iconst 1, 1) := by decide +kernel
theorem dX5_part_75 : decode cX5_part 75 = .ok (.iadd, 1) := by decide +kernel
theorem dX5_part_76 : decode cX5_part 76 = .ok (.iastore, 1) := by decide +kernel
theorem dX5_part_77 : decode cX5_part 77 = .ok (.aload_n 0, 1) := by decide +kernel
theorem dX5_part_78 : decode cX5_part 78 = .ok (.getfield 31, 3) := by decide +kernel
theorem dX5_part_81 : decode cX5_part 81 = .ok (.aload_n 0, 1) := by decide +kernel
theorem dX5_part_82 : decode cX5_part 82 = .ok (.getfield 25, 3) := by decide +kernel
theorem dX5_part_85 : decode cX5_part 85 = .ok (.iload_n 3, 1) := by decide +kernel
theorem dX5_part_86 : decode cX5_part 86 = .ok (.iaload, 1) := by decide +kernel
theorem dX5_part_87 : decode cX5_part 87 = .ok (.dup2, 1) := by decide +kernel
theorem dX5_part_88 : decode cX5_part 88 = .ok (.iaload, 1) := by decide +kernel
theorem dX5_part_89 : decode cX5_part 89 = .ok (.aload_n 1, 1) := by decide +kernel
theorem dX5_part_90 : decode cX5_part 90 = .ok (.iload_n 3, 1) := by decide +kernel
theorem dX5_part_91 : decode cX5_part 91 = .ok (.iaload, 1) := by decide +kernel
theorem dX5_part_92 : decode cX5_part 92 = .ok (.iadd, 1) := by decide +kernel
theorem dX5_part_93 : decode cX5_part 93 = .ok (.iastore, 1) := by decide +kernel
theorem dX5_part_94 : decode cX5_part 94 = .ok (.iinc 3 1, 3) := by decide +kernel
theorem dX5_part_97 : decode cX5_part 97 = .ok (.goto (-67), 3) := by decide +kernel
theorem dX5_part_100 : decode cX5_part 100 = .ok (.return_, 1) := by decide +kernel
set_option maxRecDepth 20000 in
theorem ggX5_tries_X5_part : GoodIn wsX5_tries wsX5_part := goodIn_r _ [7, 1, 8, 2, 9, 10, 11, 6, 12, 13, 14, 15, 16, 17, 18, 19, 20, 21, 22, 23, 24, 25, 26, 27, 28, 29, 30, 31, 32, 33, 34, 35, 36, 37, 38, 39, 40, 41, 42, 43, 44, 45, 46, 47, 48, 49, 50, 51] (by decide +kernel) (by decide +kernel)
set_option maxRecDepth 20000 in
theorem gX5_tries_X5_part : GoodIn wsX5_tries (wsV RX5 104 RX5 yX5_part wsX5_part) := goodIn_app (goodIn_of _ (by decide +kernel)) ggX5_tries_X5_part
theorem dX5_tries_0 : decode cX5_tries 0 = .ok (.aload_n 0, 1) := by decide +kernel
theorem dX5_tries_1 : decode cX5_tries 1 = .ok (.aload_n 1, 1) := by decide +kernel
theorem dX5_tries_2 : decode cX5_tries 2 = .ok (.iload_n 2, 1) := by decide +kernel
theorem dX5_tries_3 : decode cX5_tries 3 = .ok (.invokevirtual 104, 3) := by decide +kernel
theorem dX5_tries_6 : decode cX5_tries 6 = .ok (.aload_n 0, 1) := by decide +kernel
theorem dX5_tries_7 : decode cX5_tries 7 = .ok (.getfield 28, 3) := by decide +kernel
theorem dX5_tries_10 : decode cX5_tries 10 = .ok (.iload_n 3, 1) := by decide +kernel
theorem dX5_tries_11 : decode cX5_tries 11 = .ok (.iaload, 1) := by decide +kernel
theorem dX5_tries_12 : decode cX5_tries 12 = .ok (.ifCond .ne 5, 3) := by decide +kernel
theorem dX5_tries_15 : decode cX5_tries 15 = .ok (.iconst 0, 1) := by decide +kernel
theorem dX5_tries_16 : decode cX5_tries 16 = .ok (.ireturn, 1) := by decide +kernel
theorem dX5_tries_17 : decode cX5_tries 17 = .ok (.iconst 1, 1) := by decide +kernel
theorem dX5_tries_18 : decode cX5_tries 18 = .ok (.istore 4, 2) := by decide +kernel
theorem dX5_tries_20 : decode cX5_tries 20 = .ok (.iload 4, 2) := by decide +kernel
theorem dX5_tries_22 : decode cX5_tries 22 = .ok (.bipush 40, 2) := by decide +kernel
theorem dX5_tries_24 : decode cX5_tries 24 = .ok (.if_icmp .gt 32, 3) := by decide +kernel
theorem dX5_tries_27 : decode cX5_tries 27 = .ok (.aload_n 1, 1) := by decide +kernel
theorem dX5_tries_28 : decode cX5_tries 28 = .ok (.iload 4, 2) := by decide +kernel
theorem dX5_tries_30 : decode cX5_tries 30 = .ok (.aload_n 0, 1) := by decide +kernel
theorem dX5_tries_31 : decode cX5_tries 31 = .ok (.getfield 25, 3) := by decide +kernel
theorem dX5_tries_34 : decode cX5_tries 34 = .ok (.iload 4, 2) := by decide +kernel
theorem dX5_tries_36 : decode cX5_tries 36 = .ok (.iaload, 1) := by decide +kernel
theorem dX5_tries_37 : decode cX5_tries 37 = .ok (.iload_n 3, 1) := by decide +kernel
theorem dX5_tries_38 : decode cX5_tries 38 = .ok (.if_icmp .ne 10, 3) := by decide +kernel
theorem dX5_tries_41 : decode cX5_tries 41 = .ok (.aload_n 1, 1) := by decide +kernel
theorem dX5_tries_42 : decode cX5_tries 42 = .ok (.iload 4, 2) := by decide +kernel
theorem dX5_tries_44 : decode cX5_tries 44 = .ok (.iaload, 1) := by decide +kernel
theorem dX5_tries_45 : decode cX5_tries 45 = .ok (.goto 4, 3) := by decide +kernel
theorem dX5_tries_48 : decode cX5_tries 48 = .ok (.iconst 0, 1) := by decide +kernel
theorem dX5_tries_49 : decode cX5_tries 49 = .ok (.iastore, 1) := by decide +kernel
theorem dX5_tries_50 : decode cX5_tries 50 = .ok (.iinc 4 1, 3) := by decide +kernel
theorem dX5_tries_53 : decode cX5_tries 53 = .ok (.goto (-33), 3) := by decide +kernel
theorem dX5_tries_56 : decode cX5_tries 56 = .ok (.iconst 1, 1) := by decide +kernel
theorem dX5_tries_57 : decode cX5_tries 57 = .ok (.ireturn, 1) := by decide +kernel
set_option maxRecDepth 20000 in
theorem ggX5_isNever_X5_part : GoodIn wsX5_isNever wsX5_part := goodIn_r _ [7, 2, 8, 9, 10, 11, 12, 6, 13, 1, 14, 15, 16, 17, 18, 19, 20, 21, 22, 23, 24, 25, 26, 27, 28, 29, 30, 31, 32, 33, 34, 35, 36, 37, 38, 39, 40, 41, 42, 43, 44, 45, 46, 47, 48, 49, 50, 51] (by decide +kernel) (by decide +kernel)
set_option maxRecDepth 20000 in
theorem gX5_isNever_X5_part : GoodIn wsX5_isNever (wsV RX5 104 RX5 yX5_part wsX5_part) := goodIn_app (goodIn_of _ (by decide +kernel)) ggX5_isNever_X5_part
theorem dX5_isNever_0 : decode cX5_isNever 0 = .ok (.aload_n 0, 1) := by decide +kernel
theorem dX5_isNever_1 : decode cX5_isNever 1 = .ok (.aload_n 0, 1) := by decide +kernel
theorem dX5_isNever_2 : decode cX5_isNever 2 = .ok (.getfield 19, 3) := by decide +kernel
theorem dX5_isNever_5 : decode cX5_isNever 5 = .ok (.iload_n 1, 1) := by decide +kernel
theorem dX5_isNever_6 : decode cX5_isNever 6 = .ok (.invokevirtual 104, 3) := by decide +kernel
theorem dX5_isNever_9 : decode cX5_isNever 9 = .ok (.aload_n 0, 1) := by decide +kernel
theorem dX5_isNever_10 : decode cX5_isNever 10 = .ok (.getfield 28, 3) := by decide +kernel
theorem dX5_isNever_13 : decode cX5_isNever 13 = .ok (.iload_n 2, 1) := by decide +kernel
theorem dX5_isNever_14 : decode cX5_isNever 14 = .ok (.iaload, 1) := by decide +kernel
theorem dX5_isNever_15 : decode cX5_isNever 15 = .ok (.ifCond .ne 7, 3) := by decide +kernel
theorem dX5_isNever_18 : decode cX5_isNever 18 = .ok (.iconst 1, 1) := by decide +kernel
theorem dX5_isNever_19 : decode cX5_isNever 19 = .ok (.goto 4, 3) := by decide +kernel
theorem dX5_isNever_22 : decode cX5_isNever 22 = .ok (.iconst 0, 1) := by decide +kernel
theorem dX5_isNever_23 : decode cX5_isNever 23 = .ok (.ireturn, 1) := by decide +kernel
set_option maxRecDepth 20000 in
theorem ggX5_tryIt_X5_isNoSecond : GoodIn wsX5_tryIt wsX5_isNoSecond := goodIn_r _ [5] (by decide +kernel) (by decide +kernel)
set_option maxRecDepth 20000 in
theorem gX5_tryIt_X5_isNoSecond : GoodIn wsX5_tryIt (va_wsS RX5 93 yX5_isNoSecond wsX5_isNoSecond) := goodIn_app (goodIn_of _ (by decide +kernel)) ggX5_tryIt_X5_isNoSecond
set_option maxRecDepth 20000 in
theorem ggX5_tryIt_X5_isNoBand : GoodIn wsX5_tryIt wsX5_isNoBand := goodIn_r _ [9, 1, 55, 56, 57, 58, 59, 60, 61, 62, 63, 64, 65, 66, 67, 68, 69, 70, 71, 72, 73, 74] (by decide +kernel) (by decide +kernel)
set_option maxRecDepth 20000 in
theorem gX5_tryIt_X5_isNoBand : GoodIn wsX5_tryIt (wsV RX5 108 RX5 yX5_isNoBand wsX5_isNoBand) := goodIn_app (goodIn_of _ (by decide +kernel)) ggX5_tryIt_X5_isNoBand
set_option maxRecDepth 20000 in
theorem ggX5_tryIt_X5_no : GoodIn wsX5_tryIt wsX5_no := goodIn_r _ [13, 14, 55, 56, 57, 58, 59, 60, 61, 62, 63, 64, 65, 66, 67, 68, 69, 70, 71, 72, 73, 74] (by decide +kernel) (by decide +kernel)
set_option maxRecDepth 20000 in
theorem gX5_tryIt_X5_no : GoodIn wsX5_tryIt (wsV RX5 9 RX5 yX5_no wsX5_no) := goodIn_app (goodIn_of _ (by decide +kernel)) ggX5_tryIt_X5_no
set_option maxRecDepth 20000 in
theorem ggX5_tryIt_X5_isNever : GoodIn wsX5_tryIt wsX5_isNever := goodIn_r _ [18, 1, 19, 20, 21, 22, 4, 23, 24, 25, 26, 27, 28, 29, 30, 31, 32, 33, 34, 35, 36, 37, 38, 39, 40, 41, 42, 43, 44, 45, 46, 47, 55, 56, 57, 58, 59, 60, 61, 62, 63, 64, 65, 66, 67, 68, 69, 70, 71, 72, 73, 74] (by decide +kernel) (by decide +kernel)
set_option maxRecDepth 20000 in
theorem gX5_tryIt_X5_isNever : GoodIn wsX5_tryIt (wsV RX5 111 RX5 yX5_isNever wsX5_isNever) := goodIn_app (goodIn_of _ (by decide +kernel)) ggX5_tryIt_X5_isNever
set_option maxRecDepth 20000 in
theorem ggX5_tryIt_X5_tries : GoodIn wsX5_tryIt wsX5_tries := goodIn_r _ [51, 19, 25, 20, 21, 22, 4, 23, 24, 26, 27, 28, 29, 1, 30, 31, 32, 33, 34, 35, 36, 37, 38, 39, 40, 41, 42, 43, 44, 45, 46, 47, 55, 56, 57, 58, 59, 60, 61, 62, 63, 64, 65, 66, 67, 68, 69, 70, 71, 72, 73, 74] (by decide +kernel) (by decide +kernel)
set_option maxRecDepth 20000 in
theorem gX5_tryIt_X5_tries : GoodIn wsX5_tryIt (wsV RX5 115 RX5 yX5_tries wsX5_tries) := goodIn_app (goodIn_of _ (by decide +kernel)) ggX5_tryIt_X5_tries
set_option maxRecDepth 20000 in
theorem ggX5_tryIt_X5_left : GoodIn wsX5_tryIt wsX5_left := goodIn_r _ [54] (by decide +kernel) (by decide +kernel)
set_option maxRecDepth 20000 in
theorem gX5_tryIt_X5_left : GoodIn wsX5_tryIt (va_wsS RX5 67 yX5_left wsX5_left) := goodIn_app (goodIn_of _ (by decide +kernel)) ggX5_tryIt_X5_left
theorem dX5_tryIt_0 : decode cX5_tryIt 0 = .ok (.iload_n 1, 1) := by decide +kernel
theorem dX5_tryIt_1 : decode cX5_tryIt 1 = .ok (.invokestatic 93, 3) := by decide +kernel
theorem dX5_tryIt_4 : decode cX5_tryIt 4 = .ok (.ifCond .ne 11, 3) := by decide +kernel
theorem dX5_tryIt_7 : decode cX5_tryIt 7 = .ok (.aload_n 0, 1) := by decide +kernel
theorem dX5_tryIt_8 : decode cX5_tryIt 8 = .ok (.iload_n 2, 1) := by decide +kernel
theorem dX5_tryIt_9 : decode cX5_tryIt 9 = .ok (.invokevirtual 108, 3) := by decide +kernel
theorem dX5_tryIt_12 : decode cX5_tryIt 12 = .ok (.ifCond .eq 9, 3) := by decide +kernel
theorem dX5_tryIt_15 : decode cX5_tryIt 15 = .ok (.aload_n 0, 1) := by decide +kernel
theorem dX5_tryIt_16 : decode cX5_tryIt 16 = .ok (.iconst (-1), 1) := by decide +kernel
theorem dX5_tryIt_17 : decode cX5_tryIt 17 = .ok (.invokevirtual 9, 3) := by decide +kernel
theorem dX5_tryIt_20 : decode cX5_tryIt 20 = .ok (.ireturn, 1) := by decide +kernel
theorem dX5_tryIt_21 : decode cX5_tryIt 21 = .ok (.aload_n 0, 1) := by decide +kernel
theorem dX5_tryIt_22 : decode cX5_tryIt 22 = .ok (.iload_n 1, 1) := by decide +kernel
theorem dX5_tryIt_23 : decode cX5_tryIt 23 = .ok (.iload_n 2, 1) := by decide +kernel
theorem dX5_tryIt_24 : decode cX5_tryIt 24 = .ok (.invokevirtual 111, 3) := by decide +kernel
theorem dX5_tryIt_27 : decode cX5_tryIt 27 = .ok (.ifCond .eq 10, 3) := by decide +kernel
theorem dX5_tryIt_30 : decode cX5_tryIt 30 = .ok (.aload_n 0, 1) := by decide +kernel
theorem dX5_tryIt_31 : decode cX5_tryIt 31 = .ok (.bipush (-3), 2) := by decide +kernel
theorem dX5_tryIt_33 : decode cX5_tryIt 33 = .ok (.invokevirtual 9, 3) := by decide +kernel
theorem dX5_tryIt_36 : decode cX5_tryIt 36 = .ok (.ireturn, 1) := by decide +kernel
theorem dX5_tryIt_37 : decode cX5_tryIt 37 = .ok (.aload_n 0, 1) := by decide +kernel
theorem dX5_tryIt_38 : decode cX5_tryIt 38 = .ok (.getfield 19, 3) := by decide +kernel
theorem dX5_tryIt_41 : decode cX5_tryIt 41 = .ok (.bipush 48, 2) := by decide +kernel
theorem dX5_tryIt_43 : decode cX5_tryIt 43 = .ok (.iaload, 1) := by decide +kernel
theorem dX5_tryIt_44 : decode cX5_tryIt 44 = .ok (.bipush 99, 2) := by decide +kernel
theorem dX5_tryIt_46 : decode cX5_tryIt 46 = .ok (.if_icmp .ne 10, 3) := by decide +kernel
theorem dX5_tryIt_49 : decode cX5_tryIt 49 = .ok (.aload_n 0, 1) := by decide +kernel
theorem dX5_tryIt_50 : decode cX5_tryIt 50 = .ok (.bipush (-6), 2) := by decide +kernel
theorem dX5_tryIt_52 : decode cX5_tryIt 52 = .ok (.invokevirtual 9, 3) := by decide +kernel
theorem dX5_tryIt_55 : decode cX5_tryIt 55 = .ok (.ireturn, 1) := by decide +kernel
theorem dX5_tryIt_56 : decode cX5_tryIt 56 = .ok (.aload_n 0, 1) := by decide +kernel
theorem dX5_tryIt_57 : decode cX5_tryIt 57 = .ok (.aload_n 0, 1) := by decide +kernel
theorem dX5_tryIt_58 : decode cX5_tryIt 58 = .ok (.getfield 19, 3) := by decide +kernel
theorem dX5_tryIt_61 : decode cX5_tryIt 61 = .ok (.iload_n 1, 1) := by decide +kernel
theorem dX5_tryIt_62 : decode cX5_tryIt 62 = .ok (.iload_n 2, 1) := by decide +kernel
theorem dX5_tryIt_63 : decode cX5_tryIt 63 = .ok (.invokevirtual 115, 3) := by decide +kernel
theorem dX5_tryIt_66 : decode cX5_tryIt 66 = .ok (.pop, 1) := by decide +kernel
theorem dX5_tryIt_67 : decode cX5_tryIt 67 = .ok (.aload_n 0, 1) := by decide +kernel
theorem dX5_tryIt_68 : decode cX5_tryIt 68 = .ok (.getfield 19, 3) := by decide +kernel
theorem dX5_tryIt_71 : decode cX5_tryIt 71 = .ok (.bipush 48, 2) := by decide +kernel
theorem dX5_tryIt_73 : decode cX5_tryIt 73 = .ok (.dup2, 1) := by decide +kernel
theorem dX5_tryIt_74 : decode cX5_tryIt 74 = .ok (.iaload, 1) := by decide +kernel
theorem dX5_tryIt_75 : decode cX5_tryIt 75 = .ok (.iconst 1, 1) := by decide +kernel
theorem dX5_tryIt_76 : decode cX5_tryIt 76 = .ok (.iadd, 1) := by decide +kernel
theorem dX5_tryIt_77 : decode cX5_tryIt 77 = .ok (.iastore, 1) := by decide +kernel
theorem dX5_tryIt_78 : decode cX5_tryIt 78 = .ok (.aload_n 0, 1) := by decide +kernel
theorem dX5_tryIt_79 : decode cX5_tryIt 79 = .ok (.getfield 19, 3) := by decide +kernel
theorem dX5_tryIt_82 : decode cX5_tryIt 82 = .ok (.invokestatic 67, 3) := by decide +kernel
theorem dX5_tryIt_85 : decode cX5_tryIt 85 = .ok (.ireturn, 1) := by decide +kernel
set_option maxRecDepth 20000 in
theorem ggX5_partsOf_X5_part : GoodIn wsX5_partsOf wsX5_part := goodIn_r _ [6, 1, 7, 8, 9, 10, 11, 5, 12, 13, 14, 15, 16, 17, 18, 19, 20, 21, 22, 23, 24, 25, 26, 27, 28, 29, 30, 31, 32, 33, 34, 35, 36, 37, 38, 39, 40, 41, 42, 43, 44, 45, 46, 47, 48, 49, 50, 51] (by decide +kernel) (by decide +kernel)
set_option maxRecDepth 20000 in
theorem gX5_partsOf_X5_part : GoodIn wsX5_partsOf (wsV RX5 104 RX5 yX5_part wsX5_part) := goodIn_app (goodIn_of _ (by decide +kernel)) ggX5_partsOf_X5_part
theorem dX5_partsOf_0 : decode cX5_partsOf 0 = .ok (.aload_n 0, 1) := by decide +kernel
theorem dX5_partsOf_1 : decode cX5_partsOf 1 = .ok (.aload_n 1, 1) := by decide +kernel
theorem dX5_partsOf_2 : decode cX5_partsOf 2 = .ok (.iload_n 2, 1) := by decide +kernel
theorem dX5_partsOf_3 : decode cX5_partsOf 3 = .ok (.invokevirtual 104, 3) := by decide +kernel
theorem dX5_partsOf_6 : decode cX5_partsOf 6 = .ok (.iconst 0, 1) := by decide +kernel
theorem dX5_partsOf_7 : decode cX5_partsOf 7 = .ok (.istore_n 3, 1) := by decide +kernel
theorem dX5_partsOf_8 : decode cX5_partsOf 8 = .ok (.iconst 0, 1) := by decide +kernel
theorem dX5_partsOf_9 : decode cX5_partsOf 9 = .ok (.istore 4, 2) := by decide +kernel
theorem dX5_partsOf_11 : decode cX5_partsOf 11 = .ok (.iload 4, 2) := by decide +kernel
theorem dX5_partsOf_13 : decode cX5_partsOf 13 = .ok (.bipush 8, 2) := by decide +kernel
theorem dX5_partsOf_15 : decode cX5_partsOf 15 = .ok (.if_icmp .gt 27, 3) := by decide +kernel
theorem dX5_partsOf_18 : decode cX5_partsOf 18 = .ok (.iload_n 3, 1) := by decide +kernel
theorem dX5_partsOf_19 : decode cX5_partsOf 19 = .ok (.aload_n 0, 1) := by decide +kernel
theorem dX5_partsOf_20 : decode cX5_partsOf 20 = .ok (.getfield 28, 3) := by decide +kernel
theorem dX5_partsOf_23 : decode cX5_partsOf 23 = .ok (.iload 4, 2) := by decide +kernel
theorem dX5_partsOf_25 : decode cX5_partsOf 25 = .ok (.iaload, 1) := by decide +kernel
theorem dX5_partsOf_26 : decode cX5_partsOf 26 = .ok (.ifCond .le 7, 3) := by decide +kernel
theorem dX5_partsOf_29 : decode cX5_partsOf 29 = .ok (.iconst 1, 1) := by decide +kernel
theorem dX5_partsOf_30 : decode cX5_partsOf 30 = .ok (.goto 4, 3) := by decide +kernel
theorem dX5_partsOf_33 : decode cX5_partsOf 33 = .ok (.iconst 0, 1) := by decide +kernel
theorem dX5_partsOf_34 : decode cX5_partsOf 34 = .ok (.iadd, 1) := by decide +kernel
theorem dX5_partsOf_35 : decode cX5_partsOf 35 = .ok (.istore_n 3, 1) := by decide +kernel
theorem dX5_partsOf_36 : decode cX5_partsOf 36 = .ok (.iinc 4 1, 3) := by decide +kernel
theorem dX5_partsOf_39 : decode cX5_partsOf 39 = .ok (.goto (-28), 3) := by decide +kernel
theorem dX5_partsOf_42 : decode cX5_partsOf 42 = .ok (.iload_n 3, 1) := by decide +kernel
theorem dX5_partsOf_43 : decode cX5_partsOf 43 = .ok (.ireturn, 1) := by decide +kernel
set_option maxRecDepth 20000 in
theorem ggX5_worstOf_X5_part : GoodIn wsX5_worstOf wsX5_part := goodIn_r _ [10, 1, 11, 12, 13, 14, 15, 9, 16, 17, 2, 3, 4, 5, 18, 19, 20, 21, 22, 23, 24, 25, 26, 27, 28, 29, 30, 31, 32, 33, 34, 35, 36, 37, 38, 39, 40, 41, 42, 43, 44, 45, 46, 47, 48, 49, 50, 51] (by decide +kernel) (by decide +kernel)
set_option maxRecDepth 20000 in
theorem gX5_worstOf_X5_part : GoodIn wsX5_worstOf (wsV RX5 104 RX5 yX5_part wsX5_part) := goodIn_app (goodIn_of _ (by decide +kernel)) ggX5_worstOf_X5_part
theorem dX5_worstOf_0 : decode cX5_worstOf 0 = .ok (.aload_n 0, 1) := by decide +kernel
theorem dX5_worstOf_1 : decode cX5_worstOf 1 = .ok (.aload_n 1, 1) := by decide +kernel
theorem dX5_worstOf_2 : decode cX5_worstOf 2 = .ok (.iload_n 2, 1) := by decide +kernel
theorem dX5_worstOf_3 : decode cX5_worstOf 3 = .ok (.invokevirtual 104, 3) := by decide +kernel
theorem dX5_worstOf_6 : decode cX5_worstOf 6 = .ok (.iconst 0, 1) := by decide +kernel
theorem dX5_worstOf_7 : decode cX5_worstOf 7 = .ok (.istore_n 3, 1) := by decide +kernel
theorem dX5_worstOf_8 : decode cX5_worstOf 8 = .ok (.iconst 0, 1) := by decide +kernel
theorem dX5_worstOf_9 : decode cX5_worstOf 9 = .ok (.istore 4, 2) := by decide +kernel
theorem dX5_worstOf_11 : decode cX5_worstOf 11 = .ok (.iload 4, 2) := by decide +kernel
theorem dX5_worstOf_13 : decode cX5_worstOf 13 = .ok (.bipush 8, 2) := by decide +kernel
theorem dX5_worstOf_15 : decode cX5_worstOf 15 = .ok (.if_icmp .gt 21, 3) := by decide +kernel
theorem dX5_worstOf_18 : decode cX5_worstOf 18 = .ok (.iload_n 3, 1) := by decide +kernel
theorem dX5_worstOf_19 : decode cX5_worstOf 19 = .ok (.aload_n 0, 1) := by decide +kernel
theorem dX5_worstOf_20 : decode cX5_worstOf 20 = .ok (.getfield 28, 3) := by decide +kernel
theorem dX5_worstOf_23 : decode cX5_worstOf 23 = .ok (.iload 4, 2) := by decide +kernel
theorem dX5_worstOf_25 : decode cX5_worstOf 25 = .ok (.iaload, 1) := by decide +kernel
theorem dX5_worstOf_26 : decode cX5_worstOf 26 = .ok (.invokestatic 90, 3) := by decide +kernel
theorem dX5_worstOf_29 : decode cX5_worstOf 29 = .ok (.istore_n 3, 1) := by decide +kernel
theorem dX5_worstOf_30 : decode cX5_worstOf 30 = .ok (.iinc 4 1, 3) := by decide +kernel
theorem dX5_worstOf_33 : decode cX5_worstOf 33 = .ok (.goto (-22), 3) := by decide +kernel
theorem dX5_worstOf_36 : decode cX5_worstOf 36 = .ok (.iload_n 3, 1) := by decide +kernel
theorem dX5_worstOf_37 : decode cX5_worstOf 37 = .ok (.ireturn, 1) := by decide +kernel
set_option maxRecDepth 20000 in
theorem ggX5_meanOf_X5_part : GoodIn wsX5_meanOf wsX5_part := goodIn_r _ [7, 2, 1, 8, 9, 10, 11, 6, 12, 13, 14, 15, 16, 17, 18, 19, 20, 21, 22, 23, 24, 25, 26, 27, 28, 29, 30, 31, 32, 33, 34, 35, 36, 37, 38, 39, 40, 41, 42, 43, 44, 45, 46, 47, 48, 49, 50, 51] (by decide +kernel) (by decide +kernel)
set_option maxRecDepth 20000 in
theorem gX5_meanOf_X5_part : GoodIn wsX5_meanOf (wsV RX5 104 RX5 yX5_part wsX5_part) := goodIn_app (goodIn_of _ (by decide +kernel)) ggX5_meanOf_X5_part
theorem dX5_meanOf_0 : decode cX5_meanOf 0 = .ok (.aload_n 0, 1) := by decide +kernel
theorem dX5_meanOf_1 : decode cX5_meanOf 1 = .ok (.aload_n 1, 1) := by decide +kernel
theorem dX5_meanOf_2 : decode cX5_meanOf 2 = .ok (.iload_n 2, 1) := by decide +kernel
theorem dX5_meanOf_3 : decode cX5_meanOf 3 = .ok (.invokevirtual 104, 3) := by decide +kernel
theorem dX5_meanOf_6 : decode cX5_meanOf 6 = .ok (.iconst 0, 1) := by decide +kernel
theorem dX5_meanOf_7 : decode cX5_meanOf 7 = .ok (.istore_n 3, 1) := by decide +kernel
theorem dX5_meanOf_8 : decode cX5_meanOf 8 = .ok (.iconst 0, 1) := by decide +kernel
theorem dX5_meanOf_9 : decode cX5_meanOf 9 = .ok (.istore 4, 2) := by decide +kernel
theorem dX5_meanOf_11 : decode cX5_meanOf 11 = .ok (.iload 4, 2) := by decide +kernel
theorem dX5_meanOf_13 : decode cX5_meanOf 13 = .ok (.bipush 8, 2) := by decide +kernel
theorem dX5_meanOf_15 : decode cX5_meanOf 15 = .ok (.if_icmp .gt 27, 3) := by decide +kernel
theorem dX5_meanOf_18 : decode cX5_meanOf 18 = .ok (.iload_n 3, 1) := by decide +kernel
theorem dX5_meanOf_19 : decode cX5_meanOf 19 = .ok (.aload_n 0, 1) := by decide +kernel
theorem dX5_meanOf_20 : decode cX5_meanOf 20 = .ok (.getfield 31, 3) := by decide +kernel
theorem dX5_meanOf_23 : decode cX5_meanOf 23 = .ok (.iload 4, 2) := by decide +kernel
theorem dX5_meanOf_25 : decode cX5_meanOf 25 = .ok (.iaload, 1) := by decide +kernel
theorem dX5_meanOf_26 : decode cX5_meanOf 26 = .ok (.aload_n 0, 1) := by decide +kernel
theorem dX5_meanOf_27 : decode cX5_meanOf 27 = .ok (.getfield 28, 3) := by decide +kernel
theorem dX5_meanOf_30 : decode cX5_meanOf 30 = .ok (.iload 4, 2) := by decide +kernel
theorem dX5_meanOf_32 : decode cX5_meanOf 32 = .ok (.iaload, 1) := by decide +kernel
theorem dX5_meanOf_33 : decode cX5_meanOf 33 = .ok (.imul, 1) := by decide +kernel
theorem dX5_meanOf_34 : decode cX5_meanOf 34 = .ok (.iadd, 1) := by decide +kernel
theorem dX5_meanOf_35 : decode cX5_meanOf 35 = .ok (.istore_n 3, 1) := by decide +kernel
theorem dX5_meanOf_36 : decode cX5_meanOf 36 = .ok (.iinc 4 1, 3) := by decide +kernel
theorem dX5_meanOf_39 : decode cX5_meanOf 39 = .ok (.goto (-28), 3) := by decide +kernel
theorem dX5_meanOf_42 : decode cX5_meanOf 42 = .ok (.iload_n 3, 1) := by decide +kernel
theorem dX5_meanOf_43 : decode cX5_meanOf 43 = .ok (.ireturn, 1) := by decide +kernel
set_option maxRecDepth 20000 in
theorem ggX5_parts_X5_isNoSecond : GoodIn wsX5_parts wsX5_isNoSecond := goodIn_r _ [5] (by decide +kernel) (by decide +kernel)
set_option maxRecDepth 20000 in
theorem gX5_parts_X5_isNoSecond : GoodIn wsX5_parts (va_wsS RX5 93 yX5_isNoSecond wsX5_isNoSecond) := goodIn_app (goodIn_of _ (by decide +kernel)) ggX5_parts_X5_isNoSecond
set_option maxRecDepth 20000 in
theorem ggX5_parts_X5_no : GoodIn wsX5_parts wsX5_no := goodIn_r _ [9, 10, 44, 45, 46, 47, 48, 49, 50, 51, 52, 53, 54, 55, 56, 57, 58, 59, 60, 61, 62, 63] (by decide +kernel) (by decide +kernel)
set_option maxRecDepth 20000 in
theorem gX5_parts_X5_no : GoodIn wsX5_parts (wsV RX5 9 RX5 yX5_no wsX5_no) := goodIn_app (goodIn_of _ (by decide +kernel)) ggX5_parts_X5_no
set_option maxRecDepth 20000 in
theorem ggX5_parts_X5_partsOf : GoodIn wsX5_parts wsX5_partsOf := goodIn_r _ [14, 15, 16, 17, 18, 4, 19, 20, 21, 22, 23, 24, 25, 1, 26, 27, 28, 29, 30, 31, 32, 33, 34, 35, 36, 37, 38, 39, 40, 41, 42, 43, 44, 45, 46, 47, 48, 49, 50, 51, 52, 53, 54, 55, 56, 57, 58, 59, 60, 61, 62, 63] (by decide +kernel) (by decide +kernel)
set_option maxRecDepth 20000 in
theorem gX5_parts_X5_partsOf : GoodIn wsX5_parts (wsV RX5 119 RX5 yX5_partsOf wsX5_partsOf) := goodIn_app (goodIn_of _ (by decide +kernel)) ggX5_parts_X5_partsOf
theorem dX5_parts_0 : decode cX5_parts 0 = .ok (.iload_n 1, 1) := by decide +kernel
theorem dX5_parts_1 : decode cX5_parts 1 = .ok (.invokestatic 93, 3) := by decide +kernel
theorem dX5_parts_4 : decode cX5_parts 4 = .ok (.ifCond .eq 11, 3) := by decide +kernel
theorem dX5_parts_7 : decode cX5_parts 7 = .ok (.aload_n 0, 1) := by decide +kernel
theorem dX5_parts_8 : decode cX5_parts 8 = .ok (.iconst (-1), 1) := by decide +kernel
theorem dX5_parts_9 : decode cX5_parts 9 = .ok (.invokevirtual 9, 3) := by decide +kernel
theorem dX5_parts_12 : decode cX5_parts 12 = .ok (.goto 12, 3) := by decide +kernel
theorem dX5_parts_15 : decode cX5_parts 15 = .ok (.aload_n 0, 1) := by decide +kernel
theorem dX5_parts_16 : decode cX5_parts 16 = .ok (.aload_n 0, 1) := by decide +kernel
theorem dX5_parts_17 : decode cX5_parts 17 = .ok (.getfield 19, 3) := by decide +kernel
theorem dX5_parts_20 : decode cX5_parts 20 = .ok (.iload_n 1, 1) := by decide +kernel
theorem dX5_parts_21 : decode cX5_parts 21 = .ok (.invokevirtual 119, 3) := by decide +kernel
theorem dX5_parts_24 : decode cX5_parts 24 = .ok (.ireturn, 1) := by decide +kernel
set_option maxRecDepth 20000 in
theorem ggX5_worst_X5_isNoSecond : GoodIn wsX5_worst wsX5_isNoSecond := goodIn_r _ [5] (by decide +kernel) (by decide +kernel)
set_option maxRecDepth 20000 in
theorem gX5_worst_X5_isNoSecond : GoodIn wsX5_worst (va_wsS RX5 93 yX5_isNoSecond wsX5_isNoSecond) := goodIn_app (goodIn_of _ (by decide +kernel)) ggX5_worst_X5_isNoSecond
set_option maxRecDepth 20000 in
theorem ggX5_worst_X5_no : GoodIn wsX5_worst wsX5_no := goodIn_r _ [9, 10, 44, 45, 46, 47, 48, 49, 50, 51, 52, 53, 54, 55, 56, 57, 58, 59, 60, 61, 62, 63] (by decide +kernel) (by decide +kernel)
set_option maxRecDepth 20000 in
theorem gX5_worst_X5_no : GoodIn wsX5_worst (wsV RX5 9 RX5 yX5_no wsX5_no) := goodIn_app (goodIn_of _ (by decide +kernel)) ggX5_worst_X5_no
set_option maxRecDepth 20000 in
theorem ggX5_worst_X5_worstOf : GoodIn wsX5_worst wsX5_worstOf := goodIn_r _ [14, 15, 16, 17, 18, 19, 20, 21, 22, 4, 23, 24, 25, 26, 27, 28, 29, 1, 30, 31, 32, 33, 34, 35, 36, 37, 38, 39, 40, 41, 42, 43, 44, 45, 46, 47, 48, 49, 50, 51, 52, 53, 54, 55, 56, 57, 58, 59, 60, 61, 62, 63] (by decide +kernel) (by decide +kernel)
set_option maxRecDepth 20000 in
theorem gX5_worst_X5_worstOf : GoodIn wsX5_worst (wsV RX5 123 RX5 yX5_worstOf wsX5_worstOf) := goodIn_app (goodIn_of _ (by decide +kernel)) ggX5_worst_X5_worstOf
theorem dX5_worst_0 : decode cX5_worst 0 = .ok (.iload_n 1, 1) := by decide +kernel
theorem dX5_worst_1 : decode cX5_worst 1 = .ok (.invokestatic 93, 3) := by decide +kernel
theorem dX5_worst_4 : decode cX5_worst 4 = .ok (.ifCond .eq 11, 3) := by decide +kernel
theorem dX5_worst_7 : decode cX5_worst 7 = .ok (.aload_n 0, 1) := by decide +kernel
theorem dX5_worst_8 : decode cX5_worst 8 = .ok (.iconst (-1), 1) := by decide +kernel
theorem dX5_worst_9 : decode cX5_worst 9 = .ok (.invokevirtual 9, 3) := by decide +kernel
theorem dX5_worst_12 : decode cX5_worst 12 = .ok (.goto 12, 3) := by decide +kernel
theorem dX5_worst_15 : decode cX5_worst 15 = .ok (.aload_n 0, 1) := by decide +kernel
theorem dX5_worst_16 : decode cX5_worst 16 = .ok (.aload_n 0, 1) := by decide +kernel
theorem dX5_worst_17 : decode cX5_worst 17 = .ok (.getfield 19, 3) := by decide +kernel
theorem dX5_worst_20 : decode cX5_worst 20 = .ok (.iload_n 1, 1) := by decide +kernel
theorem dX5_worst_21 : decode cX5_worst 21 = .ok (.invokevirtual 123, 3) := by decide +kernel
theorem dX5_worst_24 : decode cX5_worst 24 = .ok (.ireturn, 1) := by decide +kernel
theorem dX5_isNoPart_0 : decode cX5_isNoPart 0 = .ok (.iload_n 0, 1) := by decide +kernel
theorem dX5_isNoPart_1 : decode cX5_isNoPart 1 = .ok (.ifCond .eq 12, 3) := by decide +kernel
theorem dX5_isNoPart_4 : decode cX5_isNoPart 4 = .ok (.iload_n 0, 1) := by decide +kernel
theorem dX5_isNoPart_5 : decode cX5_isNoPart 5 = .ok (.iconst 1, 1) := by decide +kernel
theorem dX5_isNoPart_6 : decode cX5_isNoPart 6 = .ok (.if_icmp .eq 7, 3) := by decide +kernel
theorem dX5_isNoPart_9 : decode cX5_isNoPart 9 = .ok (.iconst 1, 1) := by decide +kernel
theorem dX5_isNoPart_10 : decode cX5_isNoPart 10 = .ok (.goto 4, 3) := by decide +kernel
theorem dX5_isNoPart_13 : decode cX5_isNoPart 13 = .ok (.iconst 0, 1) := by decide +kernel
theorem dX5_isNoPart_14 : decode cX5_isNoPart 14 = .ok (.ireturn, 1) := by decide +kernel
theorem dX5_fraction_0 : decode cX5_fraction 0 = .ok (.lload_n 0, 1) := by decide +kernel
theorem dX5_fraction_1 : decode cX5_fraction 1 = .ok (.lstore 5, 2) := by decide +kernel
theorem dX5_fraction_3 : decode cX5_fraction 3 = .ok (.lload_n 2, 1) := by decide +kernel
theorem dX5_fraction_4 : decode cX5_fraction 4 = .ok (.lstore 7, 2) := by decide +kernel
theorem dX5_fraction_6 : decode cX5_fraction 6 = .ok (.lload 7, 2) := by decide +kernel
theorem dX5_fraction_8 : decode cX5_fraction 8 = .ok (.lconst 0, 1) := by decide +kernel
theorem dX5_fraction_9 : decode cX5_fraction 9 = .ok (.lcmp, 1) := by decide +kernel
theorem dX5_fraction_10 : decode cX5_fraction 10 = .ok (.ifCond .eq 21, 3) := by decide +kernel
theorem dX5_fraction_13 : decode cX5_fraction 13 = .ok (.lload 5, 2) := by decide +kernel
theorem dX5_fraction_15 : decode cX5_fraction 15 = .ok (.lload 7, 2) := by decide +kernel
theorem dX5_fraction_17 : decode cX5_fraction 17 = .ok (.lrem, 1) := by decide +kernel
theorem dX5_fraction_18 : decode cX5_fraction 18 = .ok (.lstore 9, 2) := by decide +kernel
theorem dX5_fraction_20 : decode cX5_fraction 20 = .ok (.lload 7, 2) := by decide +kernel
theorem dX5_fraction_22 : decode cX5_fraction 22 = .ok (.lstore 5, 2) := by decide +kernel
theorem dX5_fraction_24 : decode cX5_fraction 24 = .ok (.lload 9, 2) := by decide +kernel
theorem dX5_fraction_26 : decode cX5_fraction 26 = .ok (.lstore 7, 2) := by decide +kernel
theorem dX5_fraction_28 : decode cX5_fraction 28 = .ok (.goto (-22), 3) := by decide +kernel
theorem dX5_fraction_31 : decode cX5_fraction 31 = .ok (.lload 5, 2) := by decide +kernel
theorem dX5_fraction_33 : decode cX5_fraction 33 = .ok (.lconst 0, 1) := by decide +kernel
theorem dX5_fraction_34 : decode cX5_fraction 34 = .ok (.lcmp, 1) := by decide +kernel
theorem dX5_fraction_35 : decode cX5_fraction 35 = .ok (.ifCond .ne 9, 3) := by decide +kernel
theorem dX5_fraction_38 : decode cX5_fraction 38 = .ok (.iload 4, 2) := by decide +kernel
theorem dX5_fraction_40 : decode cX5_fraction 40 = .ok (.i2l, 1) := by decide +kernel
theorem dX5_fraction_41 : decode cX5_fraction 41 = .ok (.goto 19, 3) := by decide +kernel
theorem dX5_fraction_44 : decode cX5_fraction 44 = .ok (.iload 4, 2) := by decide +kernel
theorem dX5_fraction_46 : decode cX5_fraction 46 = .ok (.ifCond .ne 10, 3) := by decide +kernel
theorem dX5_fraction_49 : decode cX5_fraction 49 = .ok (.lload_n 0, 1) := by decide +kernel
theorem dX5_fraction_50 : decode cX5_fraction 50 = .ok (.lload 5, 2) := by decide +kernel
theorem dX5_fraction_52 : decode cX5_fraction 52 = .ok (.ldiv, 1) := by decide +kernel
theorem dX5_fraction_53 : decode cX5_fraction 53 = .ok (.goto 7, 3) := by decide +kernel
theorem dX5_fraction_56 : decode cX5_fraction 56 = .ok (.lload_n 2, 1) := by decide +kernel
theorem dX5_fraction_57 : decode cX5_fraction 57 = .ok (.lload 5, 2) := by decide +kernel
theorem dX5_fraction_59 : decode cX5_fraction 59 = .ok (.ldiv, 1) := by decide +kernel
theorem dX5_fraction_60 : decode cX5_fraction 60 = .ok (.lreturn, 1) := by decide +kernel
set_option maxRecDepth 20000 in
theorem ggX5_mean_X5_isNoSecond : GoodIn wsX5_mean wsX5_isNoSecond := goodIn_r _ [5] (by decide +kernel) (by decide +kernel)
set_option maxRecDepth 20000 in
theorem gX5_mean_X5_isNoSecond : GoodIn wsX5_mean (va_wsS RX5 93 yX5_isNoSecond wsX5_isNoSecond) := goodIn_app (goodIn_of _ (by decide +kernel)) ggX5_mean_X5_isNoSecond
set_option maxRecDepth 20000 in
theorem ggX5_mean_X5_noLong : GoodIn wsX5_mean wsX5_noLong := goodIn_r _ [9, 10, 11, 12, 13, 4, 14, 15, 58, 59, 60, 61, 62, 63, 64, 65, 66, 67, 68, 69, 70, 71, 72, 73, 74, 75, 76, 77] (by decide +kernel) (by decide +kernel)
set_option maxRecDepth 20000 in
theorem gX5_mean_X5_noLong : GoodIn wsX5_mean (wsV RX5 126 RX5 yX5_noLong wsX5_noLong) := goodIn_app (goodIn_of _ (by decide +kernel)) ggX5_mean_X5_noLong
set_option maxRecDepth 20000 in
theorem ggX5_mean_X5_isNoPart : GoodIn wsX5_mean wsX5_isNoPart := goodIn_r _ [18] (by decide +kernel) (by decide +kernel)
set_option maxRecDepth 20000 in
theorem gX5_mean_X5_isNoPart : GoodIn wsX5_mean (va_wsS RX5 130 yX5_isNoPart wsX5_isNoPart) := goodIn_app (goodIn_of _ (by decide +kernel)) ggX5_mean_X5_isNoPart
set_option maxRecDepth 20000 in
theorem ggX5_mean_X5_meanOf : GoodIn wsX5_mean wsX5_meanOf := goodIn_r _ [22, 23, 24, 25, 26, 27, 4, 28, 29, 30, 31, 32, 33, 1, 34, 35, 36, 37, 38, 39, 40, 41, 42, 43, 44, 45, 46, 47, 48, 49, 50, 51, 58, 59, 60, 61, 62, 63, 64, 65, 66, 67, 68, 69, 70, 71, 72, 73, 74, 75, 76, 77] (by decide +kernel) (by decide +kernel)
set_option maxRecDepth 20000 in
theorem gX5_mean_X5_meanOf : GoodIn wsX5_mean (wsV RX5 133 RX5 yX5_meanOf wsX5_meanOf) := goodIn_app (goodIn_of _ (by decide +kernel)) ggX5_mean_X5_meanOf
set_option maxRecDepth 20000 in
theorem ggX5_mean_X5_weight : GoodIn wsX5_mean wsX5_weight := goodIn_r _ [54] (by decide +kernel) (by decide +kernel)
set_option maxRecDepth 20000 in
theorem gX5_mean_X5_weight : GoodIn wsX5_mean (va_wsS RX5 71 yX5_weight wsX5_weight) := goodIn_app (goodIn_of _ (by decide +kernel)) ggX5_mean_X5_weight
set_option maxRecDepth 20000 in
theorem ggX5_mean_X5_fraction : GoodIn wsX5_mean wsX5_fraction := goodIn_r _ [57] (by decide +kernel) (by decide +kernel)
set_option maxRecDepth 20000 in
theorem gX5_mean_X5_fraction : GoodIn wsX5_mean (va_wsS RX5 136 yX5_fraction wsX5_fraction) := goodIn_app (goodIn_of _ (by decide +kernel)) ggX5_mean_X5_fraction
theorem dX5_mean_0 : decode cX5_mean 0 = .ok (.iload_n 1, 1) := by decide +kernel
theorem dX5_mean_1 : decode cX5_mean 1 = .ok (.invokestatic 93, 3) := by decide +kernel
theorem dX5_mean_4 : decode cX5_mean 4 = .ok (.ifCond .eq 9, 3) := by decide +kernel
theorem dX5_mean_7 : decode cX5_mean 7 = .ok (.aload_n 0, 1) := by decide +kernel
theorem dX5_mean_8 : decode cX5_mean 8 = .ok (.iconst (-1), 1) := by decide +kernel
theorem dX5_mean_9 : decode cX5_mean 9 = .ok (.invokevirtual 126, 3) := by decide +kernel
theorem dX5_mean_12 : decode cX5_mean 12 = .ok (.lreturn, 1) := by decide +kernel
theorem dX5_mean_13 : decode cX5_mean 13 = .ok (.iload_n 2, 1) := by decide +kernel
theorem dX5_mean_14 : decode cX5_mean 14 = .ok (.invokestatic 130, 3) := by decide +kernel
theorem dX5_mean_17 : decode cX5_mean 17 = .ok (.ifCond .eq 10, 3) := by decide +kernel
theorem dX5_mean_20 : decode cX5_mean 20 = .ok (.aload_n 0, 1) := by decide +kernel
theorem dX5_mean_21 : decode cX5_mean 21 = .ok (.bipush (-2), 2) := by decide +kernel
theorem dX5_mean_23 : decode cX5_mean 23 = .ok (.invokevirtual 126, 3) := by decide +kernel
theorem dX5_mean_26 : decode cX5_mean 26 = .ok (.lreturn, 1) := by decide +kernel
theorem dX5_mean_27 : decode cX5_mean 27 = .ok (.aload_n 0, 1) := by decide +kernel
theorem dX5_mean_28 : decode cX5_mean 28 = .ok (.aload_n 0, 1) := by decide +kernel
theorem dX5_mean_29 : decode cX5_mean 29 = .ok (.getfield 19, 3) := by decide +kernel
theorem dX5_mean_32 : decode cX5_mean 32 = .ok (.iload_n 1, 1) := by decide +kernel
theorem dX5_mean_33 : decode cX5_mean 33 = .ok (.invokevirtual 133, 3) := by decide +kernel
theorem dX5_mean_36 : decode cX5_mean 36 = .ok (.i2l, 1) := by decide +kernel
theorem dX5_mean_37 : decode cX5_mean 37 = .ok (.aload_n 0, 1) := by decide +kernel
theorem dX5_mean_38 : decode cX5_mean 38 = .ok (.getfield 19, 3) := by decide +kernel
theorem dX5_mean_41 : decode cX5_mean 41 = .ok (.invokestatic 71, 3) := by decide +kernel
theorem dX5_mean_44 : decode cX5_mean 44 = .ok (.i2l, 1) := by decide +kernel
theorem dX5_mean_45 : decode cX5_mean 45 = .ok (.iload_n 2, 1) := by decide +kernel
theorem dX5_mean_46 : decode cX5_mean 46 = .ok (.invokestatic 136, 3) := by decide +kernel
theorem dX5_mean_49 : decode cX5_mean 49 = .ok (.lreturn, 1) := by decide +kernel
set_option maxRecDepth 20000 in
theorem ggX5_valueBy_X5_worstOf : GoodIn wsX5_valueBy wsX5_worstOf := goodIn_r _ [5, 6, 7, 8, 9, 10, 11, 12, 13, 4, 14, 15, 16, 17, 18, 19, 20, 21, 22, 23, 24, 25, 26, 27, 28, 29, 30, 31, 32, 33, 34, 35, 44, 45, 46, 47, 48, 49, 50, 51, 52, 53, 54, 55, 56, 57, 58, 59, 60, 61, 62, 63] (by decide +kernel) (by decide +kernel)
set_option maxRecDepth 20000 in
theorem gX5_valueBy_X5_worstOf : GoodIn wsX5_valueBy (wsV RX5 123 RX5 yX5_worstOf wsX5_worstOf) := goodIn_app (goodIn_of _ (by decide +kernel)) ggX5_valueBy_X5_worstOf
set_option maxRecDepth 20000 in
theorem ggX5_valueBy_X5_meanOf : GoodIn wsX5_valueBy wsX5_meanOf := goodIn_r _ [39, 15, 6, 11, 12, 13, 4, 14, 16, 17, 18, 19, 20, 21, 7, 8, 9, 10, 22, 23, 24, 25, 26, 27, 28, 29, 30, 31, 32, 33, 34, 35, 44, 45, 46, 47, 48, 49, 50, 51, 52, 53, 54, 55, 56, 57, 58, 59, 60, 61, 62, 63] (by decide +kernel) (by decide +kernel)
set_option maxRecDepth 20000 in
theorem gX5_valueBy_X5_meanOf : GoodIn wsX5_valueBy (wsV RX5 133 RX5 yX5_meanOf wsX5_meanOf) := goodIn_app (goodIn_of _ (by decide +kernel)) ggX5_valueBy_X5_meanOf
set_option maxRecDepth 20000 in
theorem ggX5_valueBy_X5_partsOf : GoodIn wsX5_valueBy wsX5_partsOf := goodIn_r _ [43, 6, 11, 12, 13, 4, 14, 15, 16, 17, 18, 19, 20, 21, 7, 8, 9, 10, 22, 23, 24, 25, 26, 27, 28, 29, 30, 31, 32, 33, 34, 35, 44, 45, 46, 47, 48, 49, 50, 51, 52, 53, 54, 55, 56, 57, 58, 59, 60, 61, 62, 63] (by decide +kernel) (by decide +kernel)
set_option maxRecDepth 20000 in
theorem gX5_valueBy_X5_partsOf : GoodIn wsX5_valueBy (wsV RX5 119 RX5 yX5_partsOf wsX5_partsOf) := goodIn_app (goodIn_of _ (by decide +kernel)) ggX5_valueBy_X5_partsOf
theorem dX5_valueBy_0 : decode cX5_valueBy 0 = .ok (.iload_n 2, 1) := by decide +kernel
theorem dX5_valueBy_1 : decode cX5_valueBy 1 = .ok (.ifCond .ne 12, 3) := by decide +kernel
theorem dX5_valueBy_4 : decode cX5_valueBy 4 = .ok (.aload_n 0, 1) := by decide +kernel
theorem dX5_valueBy_5 : decode cX5_valueBy 5 = .ok (.aload_n 1, 1) := by decide +kernel
theorem dX5_valueBy_6 : decode cX5_valueBy 6 = .ok (.iload_n 3, 1) := by decide +kernel
theorem dX5_valueBy_7 : decode cX5_valueBy 7 = .ok (.invokevirtual 123, 3) := by decide +kernel
theorem dX5_valueBy_10 : decode cX5_valueBy 10 = .ok (.goto 24, 3) := by decide +kernel
theorem dX5_valueBy_13 : decode cX5_valueBy 13 = .ok (.iload_n 2, 1) := by decide +kernel
theorem dX5_valueBy_14 : decode cX5_valueBy 14 = .ok (.iconst 1, 1) := by decide +kernel
theorem dX5_valueBy_15 : decode cX5_valueBy 15 = .ok (.if_icmp .ne 12, 3) := by decide +kernel
theorem dX5_valueBy_18 : decode cX5_valueBy 18 = .ok (.aload_n 0, 1) := by decide +kernel
theorem dX5_valueBy_19 : decode cX5_valueBy 19 = .ok (.aload_n 1, 1) := by decide +kernel
theorem dX5_valueBy_20 : decode cX5_valueBy 20 = .ok (.iload_n 3, 1) := by decide +kernel
theorem dX5_valueBy_21 : decode cX5_valueBy 21 = .ok (.invokevirtual 133, 3) := by decide +kernel
theorem dX5_valueBy_24 : decode cX5_valueBy 24 = .ok (.goto 10, 3) := by decide +kernel
theorem dX5_valueBy_27 : decode cX5_valueBy 27 = .ok (.aload_n 0, 1) := by decide +kernel
theorem dX5_valueBy_28 : decode cX5_valueBy 28 = .ok (.aload_n 1, 1) := by decide +kernel
theorem dX5_valueBy_29 : decode cX5_valueBy 29 = .ok (.iload_n 3, 1) := by decide +kernel
theorem dX5_valueBy_30 : decode cX5_valueBy 30 = .ok (.invokevirtual 119, 3) := by decide +kernel
theorem dX5_valueBy_33 : decode cX5_valueBy 33 = .ok (.ineg, 1) := by decide +kernel
theorem dX5_valueBy_34 : decode cX5_valueBy 34 = .ok (.ireturn, 1) := by decide +kernel
set_option maxRecDepth 20000 in
theorem ggX5_bestBy_X5_valueBy : GoodIn wsX5_bestBy wsX5_valueBy := goodIn_r _ [9, 10, 11, 12, 8, 13, 14, 15, 16, 3, 17, 18, 19, 20, 21, 22, 23, 24, 25, 26, 27, 28, 29, 30, 31, 32, 33, 34, 35, 36, 37, 38, 39, 1, 2, 4, 40, 41, 42, 43, 44, 45, 46, 47, 48, 49, 50, 51, 52, 53, 54, 55, 56, 57, 58, 59, 60, 61, 62, 63, 64, 65, 66, 67] (by decide +kernel) (by decide +kernel)
set_option maxRecDepth 20000 in
theorem gX5_bestBy_X5_valueBy : GoodIn wsX5_bestBy (wsV RX5 140 RX5 yX5_valueBy wsX5_valueBy) := goodIn_app (goodIn_of _ (by decide +kernel)) ggX5_bestBy_X5_valueBy
theorem dX5_bestBy_0 : decode cX5_bestBy 0 = .ok (.iconst 1, 1) := by decide +kernel
theorem dX5_bestBy_1 : decode cX5_bestBy 1 = .ok (.istore_n 3, 1) := by decide +kernel
theorem dX5_bestBy_2 : decode cX5_bestBy 2 = .ok (.aload_n 0, 1) := by decide +kernel
theorem dX5_bestBy_3 : decode cX5_bestBy 3 = .ok (.aload_n 1, 1) := by decide +kernel
theorem dX5_bestBy_4 : decode cX5_bestBy 4 = .ok (.iload_n 2, 1) := by decide +kernel
theorem dX5_bestBy_5 : decode cX5_bestBy 5 = .ok (.iconst 1, 1) := by decide +kernel
theorem dX5_bestBy_6 : decode cX5_bestBy 6 = .ok (.invokevirtual 140, 3) := by decide +kernel
theorem dX5_bestBy_9 : decode cX5_bestBy 9 = .ok (.istore 4, 2) := by decide +kernel
theorem dX5_bestBy_11 : decode cX5_bestBy 11 = .ok (.iconst 2, 1) := by decide +kernel
theorem dX5_bestBy_12 : decode cX5_bestBy 12 = .ok (.istore 5, 2) := by decide +kernel
theorem dX5_bestBy_14 : decode cX5_bestBy 14 = .ok (.iload 5, 2) := by decide +kernel
theorem dX5_bestBy_16 : decode cX5_bestBy 16 = .ok (.bipush 40, 2) := by decide +kernel
theorem dX5_bestBy_18 : decode cX5_bestBy 18 = .ok (.if_icmp .gt 42, 3) := by decide +kernel
theorem dX5_bestBy_21 : decode cX5_bestBy 21 = .ok (.aload_n 0, 1) := by decide +kernel
theorem dX5_bestBy_22 : decode cX5_bestBy 22 = .ok (.aload_n 1, 1) := by decide +kernel
theorem dX5_bestBy_23 : decode cX5_bestBy 23 = .ok (.iload_n 2, 1) := by decide +kernel
theorem dX5_bestBy_24 : decode cX5_bestBy 24 = .ok (.iload 5, 2) := by decide +kernel
theorem dX5_bestBy_26 : decode cX5_bestBy 26 = .ok (.invokevirtual 140, 3) := by decide +kernel
theorem dX5_bestBy_29 : decode cX5_bestBy 29 = .ok (.istore 6, 2) := by decide +kernel
theorem dX5_bestBy_31 : decode cX5_bestBy 31 = .ok (.iload 6, 2) := by decide +kernel
theorem dX5_bestBy_33 : decode cX5_bestBy 33 = .ok (.iload 4, 2) := by decide +kernel
theorem dX5_bestBy_35 : decode cX5_bestBy 35 = .ok (.if_icmp .ge 8, 3) := by decide +kernel
theorem dX5_bestBy_38 : decode cX5_bestBy 38 = .ok (.iload 5, 2) := by decide +kernel
theorem dX5_bestBy_40 : decode cX5_bestBy 40 = .ok (.goto 4, 3) := by decide +kernel
theorem dX5_bestBy_43 : decode cX5_bestBy 43 = .ok (.iload_n 3, 1) := by decide +kernel
theorem dX5_bestBy_44 : decode cX5_bestBy 44 = .ok (.istore_n 3, 1) := by decide +kernel
theorem dX5_bestBy_45 : decode cX5_bestBy 45 = .ok (.iload 4, 2) := by decide +kernel
theorem dX5_bestBy_47 : decode cX5_bestBy 47 = .ok (.iload 6, 2) := by decide +kernel
theorem dX5_bestBy_49 : decode cX5_bestBy 49 = .ok (.invokestatic 74, 3) := by decide +kernel
theorem dX5_bestBy_52 : decode cX5_bestBy 52 = .ok (.istore 4, 2) := by decide +kernel
theorem dX5_bestBy_54 : decode cX5_bestBy 54 = .ok (.iinc 5 1, 3) := by decide +kernel
theorem dX5_bestBy_57 : decode cX5_bestBy 57 = .ok (.goto (-43), 3) := by decide +kernel
theorem dX5_bestBy_60 : decode cX5_bestBy 60 = .ok (.iload_n 3, 1) := by decide +kernel
theorem dX5_bestBy_61 : decode cX5_bestBy 61 = .ok (.ireturn, 1) := by decide +kernel
set_option maxRecDepth 20000 in
theorem ggX5_best_X5_no : GoodIn wsX5_best wsX5_no := goodIn_r _ [6, 7, 64, 65, 66, 67, 68, 69, 70, 71, 72, 73, 74, 75, 76, 77, 78, 79, 80, 81, 82, 83] (by decide +kernel) (by decide +kernel)
set_option maxRecDepth 20000 in
theorem gX5_best_X5_no : GoodIn wsX5_best (wsV RX5 9 RX5 yX5_no wsX5_no) := goodIn_app (goodIn_of _ (by decide +kernel)) ggX5_best_X5_no
set_option maxRecDepth 20000 in
theorem ggX5_best_X5_isEmpty : GoodIn wsX5_best wsX5_isEmpty := goodIn_r _ [11, 1, 12, 13, 5, 14, 64, 65, 66, 67, 68, 69, 70, 71, 72, 73, 74, 75, 76, 77, 78, 79, 80, 81, 82, 83] (by decide +kernel) (by decide +kernel)
set_option maxRecDepth 20000 in
theorem gX5_best_X5_isEmpty : GoodIn wsX5_best (wsV RX5 144 RX5 yX5_isEmpty wsX5_isEmpty) := goodIn_app (goodIn_of _ (by decide +kernel)) ggX5_best_X5_isEmpty
set_option maxRecDepth 20000 in
theorem ggX5_best_X5_bestBy : GoodIn wsX5_best wsX5_bestBy := goodIn_r _ [18, 19, 20, 21, 22, 23, 24, 25, 5, 26, 27, 28, 29, 30, 31, 32, 33, 34, 35, 36, 37, 38, 39, 40, 41, 42, 43, 44, 1, 45, 46, 47, 48, 49, 50, 51, 52, 53, 54, 55, 56, 57, 58, 59, 60, 61, 62, 63, 64, 65, 66, 67, 68, 69, 70, 71, 72, 73, 74, 75, 76, 77, 78, 79, 80, 81, 82, 83] (by decide +kernel) (by decide +kernel)
set_option maxRecDepth 20000 in
theorem gX5_best_X5_bestBy : GoodIn wsX5_best (wsV RX5 148 RX5 yX5_bestBy wsX5_bestBy) := goodIn_app (goodIn_of _ (by decide +kernel)) ggX5_best_X5_bestBy
theorem dX5_best_0 : decode cX5_best 0 = .ok (.iload_n 1, 1) := by decide +kernel
theorem dX5_best_1 : decode cX5_best 1 = .ok (.ifCond .lt 8, 3) := by decide +kernel
theorem dX5_best_4 : decode cX5_best 4 = .ok (.iload_n 1, 1) := by decide +kernel
theorem dX5_best_5 : decode cX5_best 5 = .ok (.iconst 2, 1) := by decide +kernel
theorem dX5_best_6 : decode cX5_best 6 = .ok (.if_icmp .le 10, 3) := by decide +kernel
theorem dX5_best_9 : decode cX5_best 9 = .ok (.aload_n 0, 1) := by decide +kernel
theorem dX5_best_10 : decode cX5_best 10 = .ok (.bipush (-2), 2) := by decide +kernel
theorem dX5_best_12 : decode cX5_best 12 = .ok (.invokevirtual 9, 3) := by decide +kernel
theorem dX5_best_15 : decode cX5_best 15 = .ok (.ireturn, 1) := by decide +kernel
theorem dX5_best_16 : decode cX5_best 16 = .ok (.aload_n 0, 1) := by decide +kernel
theorem dX5_best_17 : decode cX5_best 17 = .ok (.invokevirtual 144, 3) := by decide +kernel
theorem dX5_best_20 : decode cX5_best 20 = .ok (.ifCond .eq 12, 3) := by decide +kernel
theorem dX5_best_23 : decode cX5_best 23 = .ok (.aload_n 0, 1) := by decide +kernel
theorem dX5_best_24 : decode cX5_best 24 = .ok (.bipush (-3), 2) := by decide +kernel
theorem dX5_best_26 : decode cX5_best 26 = .ok (.invokevirtual 9, 3) := by decide +kernel
theorem dX5_best_29 : decode cX5_best 29 = .ok (.goto 12, 3) := by decide +kernel
theorem dX5_best_32 : decode cX5_best 32 = .ok (.aload_n 0, 1) := by decide +kernel
theorem dX5_best_33 : decode cX5_best 33 = .ok (.aload_n 0, 1) := by decide +kernel
theorem dX5_best_34 : decode cX5_best 34 = .ok (.getfield 19, 3) := by decide +kernel
theorem dX5_best_37 : decode cX5_best 37 = .ok (.iload_n 1, 1) := by decide +kernel
theorem dX5_best_38 : decode cX5_best 38 = .ok (.invokevirtual 148, 3) := by decide +kernel
theorem dX5_best_41 : decode cX5_best 41 = .ok (.ireturn, 1) := by decide +kernel
set_option maxRecDepth 20000 in
theorem ggX5_bestOf_X5_isNoPart : GoodIn wsX5_bestOf wsX5_isNoPart := goodIn_r _ [9] (by decide +kernel) (by decide +kernel)
set_option maxRecDepth 20000 in
theorem gX5_bestOf_X5_isNoPart : GoodIn wsX5_bestOf (va_wsS RX5 130 yX5_isNoPart wsX5_isNoPart) := goodIn_app (goodIn_of _ (by decide +kernel)) ggX5_bestOf_X5_isNoPart
set_option maxRecDepth 20000 in
theorem ggX5_bestOf_X5_noLong : GoodIn wsX5_bestOf wsX5_noLong := goodIn_r _ [13, 14, 15, 16, 17, 8, 18, 19, 75, 76, 77, 78, 79, 80, 81, 82, 83, 84, 85, 86, 87, 88, 89, 90, 91, 92, 93, 94] (by decide +kernel) (by decide +kernel)
set_option maxRecDepth 20000 in
theorem gX5_bestOf_X5_noLong : GoodIn wsX5_bestOf (wsV RX5 126 RX5 yX5_noLong wsX5_noLong) := goodIn_app (goodIn_of _ (by decide +kernel)) ggX5_bestOf_X5_noLong
set_option maxRecDepth 20000 in
theorem ggX5_bestOf_X5_isEmpty : GoodIn wsX5_bestOf wsX5_isEmpty := goodIn_r _ [23, 1, 24, 25, 8, 26, 75, 76, 77, 78, 79, 80, 81, 82, 83, 84, 85, 86, 87, 88, 89, 90, 91, 92, 93, 94] (by decide +kernel) (by decide +kernel)
set_option maxRecDepth 20000 in
theorem gX5_bestOf_X5_isEmpty : GoodIn wsX5_bestOf (wsV RX5 144 RX5 yX5_isEmpty wsX5_isEmpty) := goodIn_app (goodIn_of _ (by decide +kernel)) ggX5_bestOf_X5_isEmpty
set_option maxRecDepth 20000 in
theorem ggX5_bestOf_X5_bestBy : GoodIn wsX5_bestOf wsX5_bestBy := goodIn_r _ [30, 31, 32, 4, 33, 34, 35, 36, 8, 37, 38, 39, 40, 41, 42, 43, 44, 45, 46, 47, 48, 49, 50, 51, 52, 53, 54, 55, 1, 2, 3, 5, 56, 57, 58, 59, 60, 61, 62, 63, 64, 65, 66, 67, 68, 69, 70, 71, 75, 76, 77, 78, 79, 80, 81, 82, 83, 84, 85, 86, 87, 88, 89, 90, 91, 92, 93, 94] (by decide +kernel) (by decide +kernel)
set_option maxRecDepth 20000 in
theorem gX5_bestOf_X5_bestBy : GoodIn wsX5_bestOf (wsV RX5 148 RX5 yX5_bestBy wsX5_bestBy) := goodIn_app (goodIn_of _ (by decide +kernel)) ggX5_bestOf_X5_bestBy
set_option maxRecDepth 20000 in
theorem ggX5_bestOf_X5_valueBy : GoodIn wsX5_bestOf wsX5_valueBy := goodIn_r _ [37, 38, 39, 40, 8, 41, 42, 43, 44, 4, 45, 46, 47, 48, 49, 50, 51, 52, 53, 54, 55, 1, 2, 3, 5, 56, 57, 58, 59, 60, 61, 62, 63, 31, 32, 33, 64, 65, 66, 67, 68, 69, 70, 71, 75, 76, 77, 78, 79, 80, 81, 82, 83, 84, 85, 86, 87, 88, 89, 90, 91, 92, 93, 94] (by decide +kernel) (by decide +kernel)
set_option maxRecDepth 20000 in
theorem gX5_bestOf_X5_valueBy : GoodIn wsX5_bestOf (wsV RX5 140 RX5 yX5_valueBy wsX5_valueBy) := goodIn_app (goodIn_of _ (by decide +kernel)) ggX5_bestOf_X5_valueBy
set_option maxRecDepth 20000 in
theorem ggX5_bestOf_X5_weight : GoodIn wsX5_bestOf wsX5_weight := goodIn_r _ [26] (by decide +kernel) (by decide +kernel)
set_option maxRecDepth 20000 in
theorem gX5_bestOf_X5_weight : GoodIn wsX5_bestOf (va_wsS RX5 71 yX5_weight wsX5_weight) := goodIn_app (goodIn_of _ (by decide +kernel)) ggX5_bestOf_X5_weight
set_option maxRecDepth 20000 in
theorem ggX5_bestOf_X5_fraction : GoodIn wsX5_bestOf wsX5_fraction := goodIn_r _ [74] (by decide +kernel) (by decide +kernel)
set_option maxRecDepth 20000 in
theorem gX5_bestOf_X5_fraction : GoodIn wsX5_bestOf (va_wsS RX5 136 yX5_fraction wsX5_fraction) := goodIn_app (goodIn_of _ (by decide +kernel)) ggX5_bestOf_X5_fraction
theorem dX5_bestOf_0 : decode cX5_bestOf 0 = .ok (.iload_n 1, 1) := by decide +kernel
theorem dX5_bestOf_1 : decode cX5_bestOf 1 = .ok (.ifCond .lt 15, 3) := by decide +kernel
theorem dX5_bestOf_4 : decode cX5_bestOf 4 = .ok (.iload_n 1, 1) := by decide +kernel
theorem dX5_bestOf_5 : decode cX5_bestOf 5 = .ok (.iconst 2, 1) := by decide +kernel
theorem dX5_bestOf_6 : decode cX5_bestOf 6 = .ok (.if_icmp .gt 10, 3) := by decide +kernel
theorem dX5_bestOf_9 : decode cX5_bestOf 9 = .ok (.iload_n 2, 1) := by decide +kernel
theorem dX5_bestOf_10 : decode cX5_bestOf 10 = .ok (.invokestatic 130, 3) := by decide +kernel
theorem dX5_bestOf_13 : decode cX5_bestOf 13 = .ok (.ifCond .eq 10, 3) := by decide +kernel
theorem dX5_bestOf_16 : decode cX5_bestOf 16 = .ok (.aload_n 0, 1) := by decide +kernel
theorem dX5_bestOf_17 : decode cX5_bestOf 17 = .ok (.bipush (-2), 2) := by decide +kernel
theorem dX5_bestOf_19 : decode cX5_bestOf 19 = .ok (.invokevirtual 126, 3) := by decide +kernel
theorem dX5_bestOf_22 : decode cX5_bestOf 22 = .ok (.lreturn, 1) := by decide +kernel
theorem dX5_bestOf_23 : decode cX5_bestOf 23 = .ok (.aload_n 0, 1) := by decide +kernel
theorem dX5_bestOf_24 : decode cX5_bestOf 24 = .ok (.invokevirtual 144, 3) := by decide +kernel
theorem dX5_bestOf_27 : decode cX5_bestOf 27 = .ok (.ifCond .eq 10, 3) := by decide +kernel
theorem dX5_bestOf_30 : decode cX5_bestOf 30 = .ok (.aload_n 0, 1) := by decide +kernel
theorem dX5_bestOf_31 : decode cX5_bestOf 31 = .ok (.bipush (-3), 2) := by decide +kernel
theorem dX5_bestOf_33 : decode cX5_bestOf 33 = .ok (.invokevirtual 126, 3) := by decide +kernel
theorem dX5_bestOf_36 : decode cX5_bestOf 36 = .ok (.lreturn, 1) := by decide +kernel
theorem dX5_bestOf_37 : decode cX5_bestOf 37 = .ok (.aload_n 0, 1) := by decide +kernel
theorem dX5_bestOf_38 : decode cX5_bestOf 38 = .ok (.aload_n 0, 1) := by decide +kernel
theorem dX5_bestOf_39 : decode cX5_bestOf 39 = .ok (.getfield 19, 3) := by decide +kernel
theorem dX5_bestOf_42 : decode cX5_bestOf 42 = .ok (.iload_n 1, 1) := by decide +kernel
theorem dX5_bestOf_43 : decode cX5_bestOf 43 = .ok (.aload_n 0, 1) := by decide +kernel
theorem dX5_bestOf_44 : decode cX5_bestOf 44 = .ok (.aload_n 0, 1) := by decide +kernel
theorem dX5_bestOf_45 : decode cX5_bestOf 45 = .ok (.getfield 19, 3) := by decide +kernel
theorem dX5_bestOf_48 : decode cX5_bestOf 48 = .ok (.iload_n 1, 1) := by decide +kernel
theorem dX5_bestOf_49 : decode cX5_bestOf 49 = .ok (.invokevirtual 148, 3) := by decide +kernel
theorem dX5_bestOf_52 : decode cX5_bestOf 52 = .ok (.invokevirtual 140, 3) := by decide +kernel
theorem dX5_bestOf_55 : decode cX5_bestOf 55 = .ok (.invokestatic 83, 3) := by decide +kernel
theorem dX5_bestOf_58 : decode cX5_bestOf 58 = .ok (.istore_n 3, 1) := by decide +kernel
theorem dX5_bestOf_59 : decode cX5_bestOf 59 = .ok (.iload_n 3, 1) := by decide +kernel
theorem dX5_bestOf_60 : decode cX5_bestOf 60 = .ok (.i2l, 1) := by decide +kernel
theorem dX5_bestOf_61 : decode cX5_bestOf 61 = .ok (.iload_n 1, 1) := by decide +kernel
theorem dX5_bestOf_62 : decode cX5_bestOf 62 = .ok (.iconst 1, 1) := by decide +kernel
theorem dX5_bestOf_63 : decode cX5_bestOf 63 = .ok (.if_icmp .ne 14, 3) := by decide +kernel
theorem dX5_bestOf_66 : decode cX5_bestOf 66 = .ok (.aload_n 0, 1) := by decide +kernel
theorem dX5_bestOf_67 : decode cX5_bestOf 67 = .ok (.getfield 19, 3) := by decide +kernel
theorem dX5_bestOf_70 : decode cX5_bestOf 70 = .ok (.invokestatic 71, 3) := by decide +kernel
theorem dX5_bestOf_73 : decode cX5_bestOf 73 = .ok (.i2l, 1) := by decide +kernel
theorem dX5_bestOf_74 : decode cX5_bestOf 74 = .ok (.goto 4, 3) := by decide +kernel
theorem dX5_bestOf_77 : decode cX5_bestOf 77 = .ok (.lconst 1, 1) := by decide +kernel
theorem dX5_bestOf_78 : decode cX5_bestOf 78 = .ok (.iload_n 2, 1) := by decide +kernel
theorem dX5_bestOf_79 : decode cX5_bestOf 79 = .ok (.invokestatic 136, 3) := by decide +kernel
theorem dX5_bestOf_82 : decode cX5_bestOf 82 = .ok (.lreturn, 1) := by decide +kernel
set_option maxRecDepth 20000 in
theorem ggX5_bestKind_X5_isEmpty : GoodIn wsX5_bestKind wsX5_isEmpty := goodIn_r _ [6, 1, 7, 8, 5, 9, 64, 65, 66, 67, 68, 69, 70, 71, 72, 73, 74, 75, 76, 77, 78, 79, 80, 81, 82, 83] (by decide +kernel) (by decide +kernel)
set_option maxRecDepth 20000 in
theorem gX5_bestKind_X5_isEmpty : GoodIn wsX5_bestKind (wsV RX5 144 RX5 yX5_isEmpty wsX5_isEmpty) := goodIn_app (goodIn_of _ (by decide +kernel)) ggX5_bestKind_X5_isEmpty
set_option maxRecDepth 20000 in
theorem ggX5_bestKind_X5_no : GoodIn wsX5_bestKind wsX5_no := goodIn_r _ [13, 14, 64, 65, 66, 67, 68, 69, 70, 71, 72, 73, 74, 75, 76, 77, 78, 79, 80, 81, 82, 83] (by decide +kernel) (by decide +kernel)
set_option maxRecDepth 20000 in
theorem gX5_bestKind_X5_no : GoodIn wsX5_bestKind (wsV RX5 9 RX5 yX5_no wsX5_no) := goodIn_app (goodIn_of _ (by decide +kernel)) ggX5_bestKind_X5_no
set_option maxRecDepth 20000 in
theorem ggX5_bestKind_X5_bestBy : GoodIn wsX5_bestKind wsX5_bestBy := goodIn_r _ [18, 19, 20, 21, 22, 23, 24, 25, 5, 26, 27, 28, 29, 30, 31, 32, 33, 34, 35, 36, 37, 38, 39, 40, 41, 42, 43, 44, 1, 45, 46, 47, 48, 49, 50, 51, 52, 53, 54, 55, 56, 57, 58, 59, 60, 61, 62, 63, 64, 65, 66, 67, 68, 69, 70, 71, 72, 73, 74, 75, 76, 77, 78, 79, 80, 81, 82, 83] (by decide +kernel) (by decide +kernel)
set_option maxRecDepth 20000 in
theorem gX5_bestKind_X5_bestBy : GoodIn wsX5_bestKind (wsV RX5 148 RX5 yX5_bestBy wsX5_bestBy) := goodIn_app (goodIn_of _ (by decide +kernel)) ggX5_bestKind_X5_bestBy
set_option maxRecDepth 20000 in
theorem ggX5_bestKind_X5_worstOf : GoodIn wsX5_bestKind wsX5_worstOf := goodIn_r _ [30, 31, 32, 33, 21, 34, 35, 36, 37, 5, 38, 39, 40, 41, 42, 43, 44, 1, 45, 46, 47, 48, 49, 50, 51, 52, 53, 54, 55, 19, 20, 22, 64, 65, 66, 67, 68, 69, 70, 71, 72, 73, 74, 75, 76, 77, 78, 79, 80, 81, 82, 83] (by decide +kernel) (by decide +kernel)
set_option maxRecDepth 20000 in
theorem gX5_bestKind_X5_worstOf : GoodIn wsX5_bestKind (wsV RX5 123 RX5 yX5_worstOf wsX5_worstOf) := goodIn_app (goodIn_of _ (by decide +kernel)) ggX5_bestKind_X5_worstOf
theorem dX5_bestKind_0 : decode cX5_bestKind 0 = .ok (.aload_n 0, 1) := by decide +kernel
theorem dX5_bestKind_1 : decode cX5_bestKind 1 = .ok (.invokevirtual 144, 3) := by decide +kernel
theorem dX5_bestKind_4 : decode cX5_bestKind 4 = .ok (.ifCond .eq 10, 3) := by decide +kernel
theorem dX5_bestKind_7 : decode cX5_bestKind 7 = .ok (.aload_n 0, 1) := by decide +kernel
theorem dX5_bestKind_8 : decode cX5_bestKind 8 = .ok (.bipush (-3), 2) := by decide +kernel
theorem dX5_bestKind_10 : decode cX5_bestKind 10 = .ok (.invokevirtual 9, 3) := by decide +kernel
theorem dX5_bestKind_13 : decode cX5_bestKind 13 = .ok (.ireturn, 1) := by decide +kernel
theorem dX5_bestKind_14 : decode cX5_bestKind 14 = .ok (.aload_n 0, 1) := by decide +kernel
theorem dX5_bestKind_15 : decode cX5_bestKind 15 = .ok (.getfield 19, 3) := by decide +kernel
theorem dX5_bestKind_18 : decode cX5_bestKind 18 = .ok (.bipush 46, 2) := by decide +kernel
theorem dX5_bestKind_20 : decode cX5_bestKind 20 = .ok (.iaload, 1) := by decide +kernel
theorem dX5_bestKind_21 : decode cX5_bestKind 21 = .ok (.istore_n 1, 1) := by decide +kernel
theorem dX5_bestKind_22 : decode cX5_bestKind 22 = .ok (.iconst 0, 1) := by decide +kernel
theorem dX5_bestKind_23 : decode cX5_bestKind 23 = .ok (.istore_n 2, 1) := by decide +kernel
theorem dX5_bestKind_24 : decode cX5_bestKind 24 = .ok (.iconst 0, 1) := by decide +kernel
theorem dX5_bestKind_25 : decode cX5_bestKind 25 = .ok (.istore_n 3, 1) := by decide +kernel
theorem dX5_bestKind_26 : decode cX5_bestKind 26 = .ok (.iconst 0, 1) := by decide +kernel
theorem dX5_bestKind_27 : decode cX5_bestKind 27 = .ok (.istore 4, 2) := by decide +kernel
theorem dX5_bestKind_29 : decode cX5_bestKind 29 = .ok (.iload 4, 2) := by decide +kernel
theorem dX5_bestKind_31 : decode cX5_bestKind 31 = .ok (.iconst 4, 1) := by decide +kernel
theorem dX5_bestKind_32 : decode cX5_bestKind 32 = .ok (.if_icmp .ge 54, 3) := by decide +kernel
theorem dX5_bestKind_35 : decode cX5_bestKind 35 = .ok (.aload_n 0, 1) := by decide +kernel
theorem dX5_bestKind_36 : decode cX5_bestKind 36 = .ok (.getfield 19, 3) := by decide +kernel
theorem dX5_bestKind_39 : decode cX5_bestKind 39 = .ok (.bipush 46, 2) := by decide +kernel
theorem dX5_bestKind_41 : decode cX5_bestKind 41 = .ok (.iload 4, 2) := by decide +kernel
theorem dX5_bestKind_43 : decode cX5_bestKind 43 = .ok (.iastore, 1) := by decide +kernel
theorem dX5_bestKind_44 : decode cX5_bestKind 44 = .ok (.aload_n 0, 1) := by decide +kernel
theorem dX5_bestKind_45 : decode cX5_bestKind 45 = .ok (.aload_n 0, 1) := by decide +kernel
theorem dX5_bestKind_46 : decode cX5_bestKind 46 = .ok (.getfield 19, 3) := by decide +kernel
theorem dX5_bestKind_49 : decode cX5_bestKind 49 = .ok (.aload_n 0, 1) := by decide +kernel
theorem dX5_bestKind_50 : decode cX5_bestKind 50 = .ok (.aload_n 0, 1) := by decide +kernel
theorem dX5_bestKind_51 : decode cX5_bestKind 51 = .ok (.getfield 19, 3) := by decide +kernel
theorem dX5_bestKind_54 : decode cX5_bestKind 54 = .ok (.iconst 0, 1) := by decide +kernel
theorem dX5_bestKind_55 : decode cX5_bestKind 55 = .ok (.invokevirtual 148, 3) := by decide +kernel
theorem dX5_bestKind_58 : decode cX5_bestKind 58 = .ok (.invokevirtual 123, 3) := by decide +kernel
theorem dX5_bestKind_61 : decode cX5_bestKind 61 = .ok (.istore 5, 2) := by decide +kernel
theorem dX5_bestKind_63 : decode cX5_bestKind 63 = .ok (.iload 4, 2) := by decide +kernel
theorem dX5_bestKind_65 : decode cX5_bestKind 65 = .ok (.ifCond .eq 9, 3) := by decide +kernel
theorem dX5_bestKind_68 : decode cX5_bestKind 68 = .ok (.iload 5, 2) := by decide +kernel
theorem dX5_bestKind_70 : decode cX5_bestKind 70 = .ok (.iload_n 3, 1) := by decide +kernel
theorem dX5_bestKind_71 : decode cX5_bestKind 71 = .ok (.if_icmp .ge 9, 3) := by decide +kernel
theorem dX5_bestKind_74 : decode cX5_bestKind 74 = .ok (.iload 4, 2) := by decide +kernel
theorem dX5_bestKind_76 : decode cX5_bestKind 76 = .ok (.istore_n 2, 1) := by decide +kernel
theorem dX5_bestKind_77 : decode cX5_bestKind 77 = .ok (.iload 5, 2) := by decide +kernel
theorem dX5_bestKind_79 : decode cX5_bestKind 79 = .ok (.istore_n 3, 1) := by decide +kernel
theorem dX5_bestKind_80 : decode cX5_bestKind 80 = .ok (.iinc 4 1, 3) := by decide +kernel
theorem dX5_bestKind_83 : decode cX5_bestKind 83 = .ok (.goto (-54), 3) := by decide +kernel
theorem dX5_bestKind_86 : decode cX5_bestKind 86 = .ok (.aload_n 0, 1) := by decide +kernel
theorem dX5_bestKind_87 : decode cX5_bestKind 87 = .ok (.getfield 19, 3) := by decide +kernel
theorem dX5_bestKind_90 : decode cX5_bestKind 90 = .ok (.bipush 46, 2) := by decide +kernel
theorem dX5_bestKind_92 : decode cX5_bestKind 92 = .ok (.iload_n 1, 1) := by decide +kernel
theorem dX5_bestKind_93 : decode cX5_bestKind 93 = .ok (.iastore, 1) := by decide +kernel
theorem dX5_bestKind_94 : decode cX5_bestKind 94 = .ok (.iload_n 2, 1) := by decide +kernel
theorem dX5_bestKind_95 : decode cX5_bestKind 95 = .ok (.ireturn, 1) := by decide +kernel
theorem dX5_faultsAt_0 : decode cX5_faultsAt 0 = .ok (.iconst 0, 1) := by decide +kernel
theorem dX5_faultsAt_1 : decode cX5_faultsAt 1 = .ok (.istore_n 3, 1) := by decide +kernel
theorem dX5_faultsAt_2 : decode cX5_faultsAt 2 = .ok (.iconst 1, 1) := by decide +kernel
theorem dX5_faultsAt_3 : decode cX5_faultsAt 3 = .ok (.istore 4, 2) := by decide +kernel
theorem dX5_faultsAt_5 : decode cX5_faultsAt 5 = .ok (.iload 4, 2) := by decide +kernel
theorem dX5_faultsAt_7 : decode cX5_faultsAt 7 = .ok (.bipush 40, 2) := by decide +kernel
theorem dX5_faultsAt_9 : decode cX5_faultsAt 9 = .ok (.if_icmp .gt 32, 3) := by decide +kernel
theorem dX5_faultsAt_12 : decode cX5_faultsAt 12 = .ok (.iload_n 3, 1) := by decide +kernel
theorem dX5_faultsAt_13 : decode cX5_faultsAt 13 = .ok (.aload_n 1, 1) := by decide +kernel
theorem dX5_faultsAt_14 : decode cX5_faultsAt 14 = .ok (.iload 4, 2) := by decide +kernel
theorem dX5_faultsAt_16 : decode cX5_faultsAt 16 = .ok (.iaload, 1) := by decide +kernel
theorem dX5_faultsAt_17 : decode cX5_faultsAt 17 = .ok (.aload_n 0, 1) := by decide +kernel
theorem dX5_faultsAt_18 : decode cX5_faultsAt 18 = .ok (.getfield 19, 3) := by decide +kernel
theorem dX5_faultsAt_21 : decode cX5_faultsAt 21 = .ok (.bipush 45, 2) := by decide +kernel
theorem dX5_faultsAt_23 : decode cX5_faultsAt 23 = .ok (.iaload, 1) := by decide +kernel
theorem dX5_faultsAt_24 : decode cX5_faultsAt 24 = .ok (.imul, 1) := by decide +kernel
theorem dX5_faultsAt_25 : decode cX5_faultsAt 25 = .ok (.iload_n 2, 1) := by decide +kernel
theorem dX5_faultsAt_26 : decode cX5_faultsAt 26 = .ok (.iload 4, 2) := by decide +kernel
theorem dX5_faultsAt_28 : decode cX5_faultsAt 28 = .ok (.isub, 1) := by decide +kernel
theorem dX5_faultsAt_29 : decode cX5_faultsAt 29 = .ok (.invokestatic 83, 3) := by decide +kernel
theorem dX5_faultsAt_32 : decode cX5_faultsAt 32 = .ok (.imul, 1) := by decide +kernel
theorem dX5_faultsAt_33 : decode cX5_faultsAt 33 = .ok (.iadd, 1) := by decide +kernel
theorem dX5_faultsAt_34 : decode cX5_faultsAt 34 = .ok (.istore_n 3, 1) := by decide +kernel
theorem dX5_faultsAt_35 : decode cX5_faultsAt 35 = .ok (.iinc 4 1, 3) := by decide +kernel
theorem dX5_faultsAt_38 : decode cX5_faultsAt 38 = .ok (.goto (-33), 3) := by decide +kernel
theorem dX5_faultsAt_41 : decode cX5_faultsAt 41 = .ok (.iload_n 3, 1) := by decide +kernel
theorem dX5_faultsAt_42 : decode cX5_faultsAt 42 = .ok (.ireturn, 1) := by decide +kernel
set_option maxRecDepth 20000 in
theorem ggX5_giveBy_X5_faultsAt : GoodIn wsX5_giveBy wsX5_faultsAt := goodIn_r _ [5, 6, 7, 8, 9, 10, 11, 12, 13, 14, 15, 16, 17, 18, 19, 20, 21, 22, 23, 24, 25, 26, 27, 28, 29, 30] (by decide +kernel) (by decide +kernel)
set_option maxRecDepth 20000 in
theorem gX5_giveBy_X5_faultsAt : GoodIn wsX5_giveBy (wsV RX5 151 RX5 yX5_faultsAt wsX5_faultsAt) := goodIn_app (goodIn_of _ (by decide +kernel)) ggX5_giveBy_X5_faultsAt
theorem dX5_giveBy_0 : decode cX5_giveBy 0 = .ok (.iconst 1, 1) := by decide +kernel
theorem dX5_giveBy_1 : decode cX5_giveBy 1 = .ok (.istore_n 2, 1) := by decide +kernel
theorem dX5_giveBy_2 : decode cX5_giveBy 2 = .ok (.iconst 2, 1) := by decide +kernel
theorem dX5_giveBy_3 : decode cX5_giveBy 3 = .ok (.istore_n 3, 1) := by decide +kernel
theorem dX5_giveBy_4 : decode cX5_giveBy 4 = .ok (.iload_n 3, 1) := by decide +kernel
theorem dX5_giveBy_5 : decode cX5_giveBy 5 = .ok (.bipush 40, 2) := by decide +kernel
theorem dX5_giveBy_7 : decode cX5_giveBy 7 = .ok (.if_icmp .gt 30, 3) := by decide +kernel
theorem dX5_giveBy_10 : decode cX5_giveBy 10 = .ok (.aload_n 0, 1) := by decide +kernel
theorem dX5_giveBy_11 : decode cX5_giveBy 11 = .ok (.aload_n 1, 1) := by decide +kernel
theorem dX5_giveBy_12 : decode cX5_giveBy 12 = .ok (.iload_n 3, 1) := by decide +kernel
theorem dX5_giveBy_13 : decode cX5_giveBy 13 = .ok (.invokevirtual 151, 3) := by decide +kernel
theorem dX5_giveBy_16 : decode cX5_giveBy 16 = .ok (.aload_n 0, 1) := by decide +kernel
theorem dX5_giveBy_17 : decode cX5_giveBy 17 = .ok (.aload_n 1, 1) := by decide +kernel
theorem dX5_giveBy_18 : decode cX5_giveBy 18 = .ok (.iload_n 2, 1) := by decide +kernel
theorem dX5_giveBy_19 : decode cX5_giveBy 19 = .ok (.invokevirtual 151, 3) := by decide +kernel
theorem dX5_giveBy_22 : decode cX5_giveBy 22 = .ok (.if_icmp .ge 7, 3) := by decide +kernel
theorem dX5_giveBy_25 : decode cX5_giveBy 25 = .ok (.iload_n 3, 1) := by decide +kernel
theorem dX5_giveBy_26 : decode cX5_giveBy 26 = .ok (.goto 4, 3) := by decide +kernel
theorem dX5_giveBy_29 : decode cX5_giveBy 29 = .ok (.iload_n 2, 1) := by decide +kernel
theorem dX5_giveBy_30 : decode cX5_giveBy 30 = .ok (.istore_n 2, 1) := by decide +kernel
theorem dX5_giveBy_31 : decode cX5_giveBy 31 = .ok (.iinc 3 1, 3) := by decide +kernel
theorem dX5_giveBy_34 : decode cX5_giveBy 34 = .ok (.goto (-30), 3) := by decide +kernel
theorem dX5_giveBy_37 : decode cX5_giveBy 37 = .ok (.iload_n 2, 1) := by decide +kernel
theorem dX5_giveBy_38 : decode cX5_giveBy 38 = .ok (.ireturn, 1) := by decide +kernel
set_option maxRecDepth 20000 in
theorem ggX5_give_X5_isEmpty : GoodIn wsX5_give wsX5_isEmpty := goodIn_r _ [6, 1, 7, 8, 5, 9, 27, 28, 29, 30, 31, 32, 33, 34, 35, 36, 37, 38, 39, 40, 41, 42, 43, 44, 45, 46] (by decide +kernel) (by decide +kernel)
set_option maxRecDepth 20000 in
theorem gX5_give_X5_isEmpty : GoodIn wsX5_give (wsV RX5 144 RX5 yX5_isEmpty wsX5_isEmpty) := goodIn_app (goodIn_of _ (by decide +kernel)) ggX5_give_X5_isEmpty
set_option maxRecDepth 20000 in
theorem ggX5_give_X5_no : GoodIn wsX5_give wsX5_no := goodIn_r _ [13, 14, 27, 28, 29, 30, 31, 32, 33, 34, 35, 36, 37, 38, 39, 40, 41, 42, 43, 44, 45, 46] (by decide +kernel) (by decide +kernel)
set_option maxRecDepth 20000 in
theorem gX5_give_X5_no : GoodIn wsX5_give (wsV RX5 9 RX5 yX5_no wsX5_no) := goodIn_app (goodIn_of _ (by decide +kernel)) ggX5_give_X5_no
set_option maxRecDepth 20000 in
theorem ggX5_give_X5_giveBy : GoodIn wsX5_give wsX5_giveBy := goodIn_r _ [18, 19, 20, 21, 5, 22, 1, 23, 24, 25, 26, 27, 28, 29, 30, 31, 32, 33, 34, 35, 36, 37, 38, 39, 40, 41, 42, 43, 44, 45, 46] (by decide +kernel) (by decide +kernel)
set_option maxRecDepth 20000 in
theorem gX5_give_X5_giveBy : GoodIn wsX5_give (wsV RX5 154 RX5 yX5_giveBy wsX5_giveBy) := goodIn_app (goodIn_of _ (by decide +kernel)) ggX5_give_X5_giveBy
theorem dX5_give_0 : decode cX5_give 0 = .ok (.aload_n 0, 1) := by decide +kernel
theorem dX5_give_1 : decode cX5_give 1 = .ok (.invokevirtual 144, 3) := by decide +kernel
theorem dX5_give_4 : decode cX5_give 4 = .ok (.ifCond .eq 12, 3) := by decide +kernel
theorem dX5_give_7 : decode cX5_give 7 = .ok (.aload_n 0, 1) := by decide +kernel
theorem dX5_give_8 : decode cX5_give 8 = .ok (.bipush (-3), 2) := by decide +kernel
theorem dX5_give_10 : decode cX5_give 10 = .ok (.invokevirtual 9, 3) := by decide +kernel
theorem dX5_give_13 : decode cX5_give 13 = .ok (.goto 11, 3) := by decide +kernel
theorem dX5_give_16 : decode cX5_give 16 = .ok (.aload_n 0, 1) := by decide +kernel
theorem dX5_give_17 : decode cX5_give 17 = .ok (.aload_n 0, 1) := by decide +kernel
theorem dX5_give_18 : decode cX5_give 18 = .ok (.getfield 19, 3) := by decide +kernel
theorem dX5_give_21 : decode cX5_give 21 = .ok (.invokevirtual 154, 3) := by decide +kernel
theorem dX5_give_24 : decode cX5_give 24 = .ok (.ireturn, 1) := by decide +kernel
set_option maxRecDepth 20000 in
theorem ggX5_faults_X5_isNoPart : GoodIn wsX5_faults wsX5_isNoPart := goodIn_r _ [5] (by decide +kernel) (by decide +kernel)
set_option maxRecDepth 20000 in
theorem gX5_faults_X5_isNoPart : GoodIn wsX5_faults (va_wsS RX5 130 yX5_isNoPart wsX5_isNoPart) := goodIn_app (goodIn_of _ (by decide +kernel)) ggX5_faults_X5_isNoPart
set_option maxRecDepth 20000 in
theorem ggX5_faults_X5_noLong : GoodIn wsX5_faults wsX5_noLong := goodIn_r _ [9, 10, 11, 12, 13, 4, 14, 15, 38, 39, 40, 41, 42, 43, 44, 45, 46, 47, 48, 49, 50, 51, 52, 53, 54, 55, 56, 57] (by decide +kernel) (by decide +kernel)
set_option maxRecDepth 20000 in
theorem gX5_faults_X5_noLong : GoodIn wsX5_faults (wsV RX5 126 RX5 yX5_noLong wsX5_noLong) := goodIn_app (goodIn_of _ (by decide +kernel)) ggX5_faults_X5_noLong
set_option maxRecDepth 20000 in
theorem ggX5_faults_X5_isEmpty : GoodIn wsX5_faults wsX5_isEmpty := goodIn_r _ [19, 1, 20, 21, 4, 22, 38, 39, 40, 41, 42, 43, 44, 45, 46, 47, 48, 49, 50, 51, 52, 53, 54, 55, 56, 57] (by decide +kernel) (by decide +kernel)
set_option maxRecDepth 20000 in
theorem gX5_faults_X5_isEmpty : GoodIn wsX5_faults (wsV RX5 144 RX5 yX5_isEmpty wsX5_isEmpty) := goodIn_app (goodIn_of _ (by decide +kernel)) ggX5_faults_X5_isEmpty
set_option maxRecDepth 20000 in
theorem ggX5_faults_X5_giveBy : GoodIn wsX5_faults wsX5_giveBy := goodIn_r _ [26, 27, 28, 29, 4, 30, 1, 31, 32, 33, 34, 38, 39, 40, 41, 42, 43, 44, 45, 46, 47, 48, 49, 50, 51, 52, 53, 54, 55, 56, 57] (by decide +kernel) (by decide +kernel)
set_option maxRecDepth 20000 in
theorem gX5_faults_X5_giveBy : GoodIn wsX5_faults (wsV RX5 154 RX5 yX5_giveBy wsX5_giveBy) := goodIn_app (goodIn_of _ (by decide +kernel)) ggX5_faults_X5_giveBy
set_option maxRecDepth 20000 in
theorem ggX5_faults_X5_faultsAt : GoodIn wsX5_faults wsX5_faultsAt := goodIn_r _ [30, 1, 31, 32, 33, 34, 38, 39, 40, 41, 42, 43, 44, 45, 46, 47, 48, 49, 50, 51, 52, 53, 54, 55, 56, 57] (by decide +kernel) (by decide +kernel)
set_option maxRecDepth 20000 in
theorem gX5_faults_X5_faultsAt : GoodIn wsX5_faults (wsV RX5 151 RX5 yX5_faultsAt wsX5_faultsAt) := goodIn_app (goodIn_of _ (by decide +kernel)) ggX5_faults_X5_faultsAt
set_option maxRecDepth 20000 in
theorem ggX5_faults_X5_weight : GoodIn wsX5_faults wsX5_weight := goodIn_r _ [22] (by decide +kernel) (by decide +kernel)
set_option maxRecDepth 20000 in
theorem gX5_faults_X5_weight : GoodIn wsX5_faults (va_wsS RX5 71 yX5_weight wsX5_weight) := goodIn_app (goodIn_of _ (by decide +kernel)) ggX5_faults_X5_weight
set_option maxRecDepth 20000 in
theorem ggX5_faults_X5_fraction : GoodIn wsX5_faults wsX5_fraction := goodIn_r _ [37] (by decide +kernel) (by decide +kernel)
set_option maxRecDepth 20000 in
theorem gX5_faults_X5_fraction : GoodIn wsX5_faults (va_wsS RX5 136 yX5_fraction wsX5_fraction) := goodIn_app (goodIn_of _ (by decide +kernel)) ggX5_faults_X5_fraction
theorem dX5_faults_0 : decode cX5_faults 0 = .ok (.iload_n 1, 1) := by decide +kernel
theorem dX5_faults_1 : decode cX5_faults 1 = .ok (.invokestatic 130, 3) := by decide +kernel
theorem dX5_faults_4 : decode cX5_faults 4 = .ok (.ifCond .eq 10, 3) := by decide +kernel
theorem dX5_faults_7 : decode cX5_faults 7 = .ok (.aload_n 0, 1) := by decide +kernel
theorem dX5_faults_8 : decode cX5_faults 8 = .ok (.bipush (-2), 2) := by decide +kernel
theorem dX5_faults_10 : decode cX5_faults 10 = .ok (.invokevirtual 126, 3) := by decide +kernel
theorem dX5_faults_13 : decode cX5_faults 13 = .ok (.lreturn, 1) := by decide +kernel
theorem dX5_faults_14 : decode cX5_faults 14 = .ok (.aload_n 0, 1) := by decide +kernel
theorem dX5_faults_15 : decode cX5_faults 15 = .ok (.invokevirtual 144, 3) := by decide +kernel
theorem dX5_faults_18 : decode cX5_faults 18 = .ok (.ifCond .eq 10, 3) := by decide +kernel
theorem dX5_faults_21 : decode cX5_faults 21 = .ok (.aload_n 0, 1) := by decide +kernel
theorem dX5_faults_22 : decode cX5_faults 22 = .ok (.bipush (-3), 2) := by decide +kernel
theorem dX5_faults_24 : decode cX5_faults 24 = .ok (.invokevirtual 126, 3) := by decide +kernel
theorem dX5_faults_27 : decode cX5_faults 27 = .ok (.lreturn, 1) := by decide +kernel
theorem dX5_faults_28 : decode cX5_faults 28 = .ok (.aload_n 0, 1) := by decide +kernel
theorem dX5_faults_29 : decode cX5_faults 29 = .ok (.aload_n 0, 1) := by decide +kernel
theorem dX5_faults_30 : decode cX5_faults 30 = .ok (.getfield 19, 3) := by decide +kernel
theorem dX5_faults_33 : decode cX5_faults 33 = .ok (.aload_n 0, 1) := by decide +kernel
theorem dX5_faults_34 : decode cX5_faults 34 = .ok (.aload_n 0, 1) := by decide +kernel
theorem dX5_faults_35 : decode cX5_faults 35 = .ok (.getfield 19, 3) := by decide +kernel
theorem dX5_faults_38 : decode cX5_faults 38 = .ok (.invokevirtual 154, 3) := by decide +kernel
theorem dX5_faults_41 : decode cX5_faults 41 = .ok (.invokevirtual 151, 3) := by decide +kernel
theorem dX5_faults_44 : decode cX5_faults 44 = .ok (.i2l, 1) := by decide +kernel
theorem dX5_faults_45 : decode cX5_faults 45 = .ok (.aload_n 0, 1) := by decide +kernel
theorem dX5_faults_46 : decode cX5_faults 46 = .ok (.getfield 19, 3) := by decide +kernel
theorem dX5_faults_49 : decode cX5_faults 49 = .ok (.invokestatic 71, 3) := by decide +kernel
theorem dX5_faults_52 : decode cX5_faults 52 = .ok (.i2l, 1) := by decide +kernel
theorem dX5_faults_53 : decode cX5_faults 53 = .ok (.iload_n 1, 1) := by decide +kernel
theorem dX5_faults_54 : decode cX5_faults 54 = .ok (.invokestatic 136, 3) := by decide +kernel
theorem dX5_faults_57 : decode cX5_faults 57 = .ok (.lreturn, 1) := by decide +kernel
set_option maxRecDepth 20000 in
theorem ggX5_faultsBehind_X5_bestBy : GoodIn wsX5_faultsBehind wsX5_bestBy := goodIn_r _ [7, 8, 9, 10, 11, 12, 13, 14, 6, 15, 16, 17, 18, 19, 20, 21, 22, 23, 24, 25, 26, 27, 28, 29, 30, 31, 32, 33, 1, 34, 35, 36, 37, 38, 39, 40, 41, 42, 43, 44, 45, 46, 47, 48, 49, 50, 51, 52, 68, 69, 70, 71, 72, 73, 74, 75, 76, 77, 78, 79, 80, 81, 82, 83, 84, 85, 86, 87] (by decide +kernel) (by decide +kernel)
set_option maxRecDepth 20000 in
theorem gX5_faultsBehind_X5_bestBy : GoodIn wsX5_faultsBehind (wsV RX5 148 RX5 yX5_bestBy wsX5_bestBy) := goodIn_app (goodIn_of _ (by decide +kernel)) ggX5_faultsBehind_X5_bestBy
set_option maxRecDepth 20000 in
theorem ggX5_faultsBehind_X5_move : GoodIn wsX5_faultsBehind wsX5_move := goodIn_r _ [55] (by decide +kernel) (by decide +kernel)
set_option maxRecDepth 20000 in
theorem gX5_faultsBehind_X5_move : GoodIn wsX5_faultsBehind (va_wsS RX5 63 yX5_move wsX5_move) := goodIn_app (goodIn_of _ (by decide +kernel)) ggX5_faultsBehind_X5_move
set_option maxRecDepth 20000 in
theorem ggX5_faultsBehind_X5_tries : GoodIn wsX5_faultsBehind wsX5_tries := goodIn_r _ [59, 20, 29, 24, 25, 26, 6, 27, 28, 30, 31, 32, 33, 1, 21, 22, 10, 23, 34, 35, 36, 37, 38, 39, 40, 41, 42, 43, 44, 8, 9, 11, 68, 69, 70, 71, 72, 73, 74, 75, 76, 77, 78, 79, 80, 81, 82, 83, 84, 85, 86, 87] (by decide +kernel) (by decide +kernel)
set_option maxRecDepth 20000 in
theorem gX5_faultsBehind_X5_tries : GoodIn wsX5_faultsBehind (wsV RX5 115 RX5 yX5_tries wsX5_tries) := goodIn_app (goodIn_of _ (by decide +kernel)) ggX5_faultsBehind_X5_tries
set_option maxRecDepth 20000 in
theorem ggX5_faultsBehind_X5_giveBy : GoodIn wsX5_faultsBehind wsX5_giveBy := goodIn_r _ [63, 64, 65, 66, 6, 67, 1, 34, 35, 10, 36, 68, 69, 70, 71, 72, 73, 74, 75, 76, 77, 78, 79, 80, 81, 82, 83, 84, 85, 86, 87] (by decide +kernel) (by decide +kernel)
set_option maxRecDepth 20000 in
theorem gX5_faultsBehind_X5_giveBy : GoodIn wsX5_faultsBehind (wsV RX5 154 RX5 yX5_giveBy wsX5_giveBy) := goodIn_app (goodIn_of _ (by decide +kernel)) ggX5_faultsBehind_X5_giveBy
set_option maxRecDepth 20000 in
theorem ggX5_faultsBehind_X5_faultsAt : GoodIn wsX5_faultsBehind wsX5_faultsAt := goodIn_r _ [67, 1, 34, 35, 10, 36, 68, 69, 70, 71, 72, 73, 74, 75, 76, 77, 78, 79, 80, 81, 82, 83, 84, 85, 86, 87] (by decide +kernel) (by decide +kernel)
set_option maxRecDepth 20000 in
theorem gX5_faultsBehind_X5_faultsAt : GoodIn wsX5_faultsBehind (wsV RX5 151 RX5 yX5_faultsAt wsX5_faultsAt) := goodIn_app (goodIn_of _ (by decide +kernel)) ggX5_faultsBehind_X5_faultsAt
theorem dX5_faultsBehind_0 : decode cX5_faultsBehind 0 = .ok (.aload_n 0, 1) := by decide +kernel
theorem dX5_faultsBehind_1 : decode cX5_faultsBehind 1 = .ok (.aload_n 0, 1) := by decide +kernel
theorem dX5_faultsBehind_2 : decode cX5_faultsBehind 2 = .ok (.getfield 19, 3) := by decide +kernel
theorem dX5_faultsBehind_5 : decode cX5_faultsBehind 5 = .ok (.iconst 0, 1) := by decide +kernel
theorem dX5_faultsBehind_6 : decode cX5_faultsBehind 6 = .ok (.invokevirtual 148, 3) := by decide +kernel
theorem dX5_faultsBehind_9 : decode cX5_faultsBehind 9 = .ok (.istore_n 1, 1) := by decide +kernel
theorem dX5_faultsBehind_10 : decode cX5_faultsBehind 10 = .ok (.iconst 0, 1) := by decide +kernel
theorem dX5_faultsBehind_11 : decode cX5_faultsBehind 11 = .ok (.istore_n 2, 1) := by decide +kernel
theorem dX5_faultsBehind_12 : decode cX5_faultsBehind 12 = .ok (.iconst 0, 1) := by decide +kernel
theorem dX5_faultsBehind_13 : decode cX5_faultsBehind 13 = .ok (.istore_n 3, 1) := by decide +kernel
theorem dX5_faultsBehind_14 : decode cX5_faultsBehind 14 = .ok (.iload_n 3, 1) := by decide +kernel
theorem dX5_faultsBehind_15 : decode cX5_faultsBehind 15 = .ok (.bipush 8, 2) := by decide +kernel
theorem dX5_faultsBehind_17 : decode cX5_faultsBehind 17 = .ok (.if_icmp .gt 52, 3) := by decide +kernel
theorem dX5_faultsBehind_20 : decode cX5_faultsBehind 20 = .ok (.aload_n 0, 1) := by decide +kernel
theorem dX5_faultsBehind_21 : decode cX5_faultsBehind 21 = .ok (.getfield 19, 3) := by decide +kernel
theorem dX5_faultsBehind_24 : decode cX5_faultsBehind 24 = .ok (.aload_n 0, 1) := by decide +kernel
theorem dX5_faultsBehind_25 : decode cX5_faultsBehind 25 = .ok (.getfield 34, 3) := by decide +kernel
theorem dX5_faultsBehind_28 : decode cX5_faultsBehind 28 = .ok (.invokestatic 63, 3) := by decide +kernel
theorem dX5_faultsBehind_31 : decode cX5_faultsBehind 31 = .ok (.aload_n 0, 1) := by decide +kernel
theorem dX5_faultsBehind_32 : decode cX5_faultsBehind 32 = .ok (.aload_n 0, 1) := by decide +kernel
theorem dX5_faultsBehind_33 : decode cX5_faultsBehind 33 = .ok (.getfield 34, 3) := by decide +kernel
theorem dX5_faultsBehind_36 : decode cX5_faultsBehind 36 = .ok (.iload_n 1, 1) := by decide +kernel
theorem dX5_faultsBehind_37 : decode cX5_faultsBehind 37 = .ok (.iload_n 3, 1) := by decide +kernel
theorem dX5_faultsBehind_38 : decode cX5_faultsBehind 38 = .ok (.invokevirtual 115, 3) := by decide +kernel
theorem dX5_faultsBehind_41 : decode cX5_faultsBehind 41 = .ok (.ifCond .eq 22, 3) := by decide +kernel
theorem dX5_faultsBehind_44 : decode cX5_faultsBehind 44 = .ok (.iload_n 2, 1) := by decide +kernel
theorem dX5_faultsBehind_45 : decode cX5_faultsBehind 45 = .ok (.aload_n 0, 1) := by decide +kernel
theorem dX5_faultsBehind_46 : decode cX5_faultsBehind 46 = .ok (.aload_n 0, 1) := by decide +kernel
theorem dX5_faultsBehind_47 : decode cX5_faultsBehind 47 = .ok (.getfield 34, 3) := by decide +kernel
theorem dX5_faultsBehind_50 : decode cX5_faultsBehind 50 = .ok (.aload_n 0, 1) := by decide +kernel
theorem dX5_faultsBehind_51 : decode cX5_faultsBehind 51 = .ok (.aload_n 0, 1) := by decide +kernel
theorem dX5_faultsBehind_52 : decode cX5_faultsBehind 52 = .ok (.getfield 34, 3) := by decide +kernel
theorem dX5_faultsBehind_55 : decode cX5_faultsBehind 55 = .ok (.invokevirtual 154, 3) := by decide +kernel
theorem dX5_faultsBehind_58 : decode cX5_faultsBehind 58 = .ok (.invokevirtual 151, 3) := by decide +kernel
theorem dX5_faultsBehind_61 : decode cX5_faultsBehind 61 = .ok (.iadd, 1) := by decide +kernel
theorem dX5_faultsBehind_62 : decode cX5_faultsBehind 62 = .ok (.istore_n 2, 1) := by decide +kernel
theorem dX5_faultsBehind_63 : decode cX5_faultsBehind 63 = .ok (.iinc 3 1, 3) := by decide +kernel
theorem dX5_faultsBehind_66 : decode cX5_faultsBehind 66 = .ok (.goto (-52), 3) := by decide +kernel
theorem dX5_faultsBehind_69 : decode cX5_faultsBehind 69 = .ok (.iload_n 2, 1) := by decide +kernel
theorem dX5_faultsBehind_70 : decode cX5_faultsBehind 70 = .ok (.ireturn, 1) := by decide +kernel
set_option maxRecDepth 20000 in
theorem ggX5_goOn_X5_isEmpty : GoodIn wsX5_goOn wsX5_isEmpty := goodIn_r _ [6, 1, 7, 8, 5, 9, 84, 85, 86, 87, 88, 89, 90, 91, 92, 93, 94, 95, 96, 97, 98, 99, 100, 101, 102, 103] (by decide +kernel) (by decide +kernel)
set_option maxRecDepth 20000 in
theorem gX5_goOn_X5_isEmpty : GoodIn wsX5_goOn (wsV RX5 144 RX5 yX5_isEmpty wsX5_isEmpty) := goodIn_app (goodIn_of _ (by decide +kernel)) ggX5_goOn_X5_isEmpty
set_option maxRecDepth 20000 in
theorem ggX5_goOn_X5_no : GoodIn wsX5_goOn wsX5_no := goodIn_r _ [13, 14, 84, 85, 86, 87, 88, 89, 90, 91, 92, 93, 94, 95, 96, 97, 98, 99, 100, 101, 102, 103] (by decide +kernel) (by decide +kernel)
set_option maxRecDepth 20000 in
theorem gX5_goOn_X5_no : GoodIn wsX5_goOn (wsV RX5 9 RX5 yX5_no wsX5_no) := goodIn_app (goodIn_of _ (by decide +kernel)) ggX5_goOn_X5_no
set_option maxRecDepth 20000 in
theorem ggX5_goOn_X5_weight : GoodIn wsX5_goOn wsX5_weight := goodIn_r _ [9] (by decide +kernel) (by decide +kernel)
set_option maxRecDepth 20000 in
theorem gX5_goOn_X5_weight : GoodIn wsX5_goOn (va_wsS RX5 71 yX5_weight wsX5_weight) := goodIn_app (goodIn_of _ (by decide +kernel)) ggX5_goOn_X5_weight
set_option maxRecDepth 20000 in
theorem ggX5_goOn_X5_faultsBehind : GoodIn wsX5_goOn wsX5_faultsBehind := goodIn_r _ [18, 1, 19, 20, 21, 22, 5, 23, 24, 25, 26, 27, 28, 29, 30, 31, 32, 33, 34, 35, 36, 37, 38, 39, 40, 41, 42, 43, 44, 45, 46, 47, 48, 49, 50, 51, 52, 53, 54, 55, 56, 57, 58, 59, 60, 61, 62, 63, 64, 65, 66, 67, 68, 69, 70, 71, 72, 73, 74, 75, 76, 77, 78, 79, 80, 81, 82, 83, 84, 85, 86, 87, 88, 89, 90, 91, 92, 93, 94, 95, 96, 97, 98, 99, 100, 101, 102, 103] (by decide +kernel) (by decide +kernel)
set_option maxRecDepth 20000 in
theorem gX5_goOn_X5_faultsBehind : GoodIn wsX5_goOn (wsV RX5 157 RX5 yX5_faultsBehind wsX5_faultsBehind) := goodIn_app (goodIn_of _ (by decide +kernel)) ggX5_goOn_X5_faultsBehind
set_option maxRecDepth 20000 in
theorem ggX5_goOn_X5_giveBy : GoodIn wsX5_goOn wsX5_giveBy := goodIn_r _ [79, 80, 81, 82, 5, 83, 1, 50, 51, 26, 52, 84, 85, 86, 87, 88, 89, 90, 91, 92, 93, 94, 95, 96, 97, 98, 99, 100, 101, 102, 103] (by decide +kernel) (by decide +kernel)
set_option maxRecDepth 20000 in
theorem gX5_goOn_X5_giveBy : GoodIn wsX5_goOn (wsV RX5 154 RX5 yX5_giveBy wsX5_giveBy) := goodIn_app (goodIn_of _ (by decide +kernel)) ggX5_goOn_X5_giveBy
set_option maxRecDepth 20000 in
theorem ggX5_goOn_X5_faultsAt : GoodIn wsX5_goOn wsX5_faultsAt := goodIn_r _ [83, 1, 50, 51, 26, 52, 84, 85, 86, 87, 88, 89, 90, 91, 92, 93, 94, 95, 96, 97, 98, 99, 100, 101, 102, 103] (by decide +kernel) (by decide +kernel)
set_option maxRecDepth 20000 in
theorem gX5_goOn_X5_faultsAt : GoodIn wsX5_goOn (wsV RX5 151 RX5 yX5_faultsAt wsX5_faultsAt) := goodIn_app (goodIn_of _ (by decide +kernel)) ggX5_goOn_X5_faultsAt
theorem dX5_goOn_0 : decode cX5_goOn 0 = .ok (.aload_n 0, 1) := by decide +kernel
theorem dX5_goOn_1 : decode cX5_goOn 1 = .ok (.invokevirtual 144, 3) := by decide +kernel
theorem dX5_goOn_4 : decode cX5_goOn 4 = .ok (.ifCond .eq 10, 3) := by decide +kernel
theorem dX5_goOn_7 : decode cX5_goOn 7 = .ok (.aload_n 0, 1) := by decide +kernel
theorem dX5_goOn_8 : decode cX5_goOn 8 = .ok (.bipush (-3), 2) := by decide +kernel
theorem dX5_goOn_10 : decode cX5_goOn 10 = .ok (.invokevirtual 9, 3) := by decide +kernel
theorem dX5_goOn_13 : decode cX5_goOn 13 = .ok (.ireturn, 1) := by decide +kernel
theorem dX5_goOn_14 : decode cX5_goOn 14 = .ok (.aload_n 0, 1) := by decide +kernel
theorem dX5_goOn_15 : decode cX5_goOn 15 = .ok (.getfield 19, 3) := by decide +kernel
theorem dX5_goOn_18 : decode cX5_goOn 18 = .ok (.bipush 44, 2) := by decide +kernel
theorem dX5_goOn_20 : decode cX5_goOn 20 = .ok (.iaload, 1) := by decide +kernel
theorem dX5_goOn_21 : decode cX5_goOn 21 = .ok (.aload_n 0, 1) := by decide +kernel
theorem dX5_goOn_22 : decode cX5_goOn 22 = .ok (.getfield 19, 3) := by decide +kernel
theorem dX5_goOn_25 : decode cX5_goOn 25 = .ok (.invokestatic 71, 3) := by decide +kernel
theorem dX5_goOn_28 : decode cX5_goOn 28 = .ok (.imul, 1) := by decide +kernel
theorem dX5_goOn_29 : decode cX5_goOn 29 = .ok (.aload_n 0, 1) := by decide +kernel
theorem dX5_goOn_30 : decode cX5_goOn 30 = .ok (.invokevirtual 157, 3) := by decide +kernel
theorem dX5_goOn_33 : decode cX5_goOn 33 = .ok (.iadd, 1) := by decide +kernel
theorem dX5_goOn_34 : decode cX5_goOn 34 = .ok (.aload_n 0, 1) := by decide +kernel
theorem dX5_goOn_35 : decode cX5_goOn 35 = .ok (.aload_n 0, 1) := by decide +kernel
theorem dX5_goOn_36 : decode cX5_goOn 36 = .ok (.getfield 19, 3) := by decide +kernel
theorem dX5_goOn_39 : decode cX5_goOn 39 = .ok (.aload_n 0, 1) := by decide +kernel
theorem dX5_goOn_40 : decode cX5_goOn 40 = .ok (.aload_n 0, 1) := by decide +kernel
theorem dX5_goOn_41 : decode cX5_goOn 41 = .ok (.getfield 19, 3) := by decide +kernel
theorem dX5_goOn_44 : decode cX5_goOn 44 = .ok (.invokevirtual 154, 3) := by decide +kernel
theorem dX5_goOn_47 : decode cX5_goOn 47 = .ok (.invokevirtual 151, 3) := by decide +kernel
theorem dX5_goOn_50 : decode cX5_goOn 50 = .ok (.if_icmp .ge 7, 3) := by decide +kernel
theorem dX5_goOn_53 : decode cX5_goOn 53 = .ok (.iconst 1, 1) := by decide +kernel
theorem dX5_goOn_54 : decode cX5_goOn 54 = .ok (.goto 4, 3) := by decide +kernel
theorem dX5_goOn_57 : decode cX5_goOn 57 = .ok (.iconst 0, 1) := by decide +kernel
theorem dX5_goOn_58 : decode cX5_goOn 58 = .ok (.ireturn, 1) := by decide +kernel
set_option maxRecDepth 20000 in
theorem ggX5_goOnCosts_X5_isNoPart : GoodIn wsX5_goOnCosts wsX5_isNoPart := goodIn_r _ [5] (by decide +kernel) (by decide +kernel)
set_option maxRecDepth 20000 in
theorem gX5_goOnCosts_X5_isNoPart : GoodIn wsX5_goOnCosts (va_wsS RX5 130 yX5_isNoPart wsX5_isNoPart) := goodIn_app (goodIn_of _ (by decide +kernel)) ggX5_goOnCosts_X5_isNoPart
set_option maxRecDepth 20000 in
theorem ggX5_goOnCosts_X5_noLong : GoodIn wsX5_goOnCosts wsX5_noLong := goodIn_r _ [9, 10, 11, 12, 13, 4, 14, 15, 95, 96, 97, 98, 99, 100, 101, 102, 103, 104, 105, 106, 107, 108, 109, 110, 111, 112, 113, 114] (by decide +kernel) (by decide +kernel)
set_option maxRecDepth 20000 in
theorem gX5_goOnCosts_X5_noLong : GoodIn wsX5_goOnCosts (wsV RX5 126 RX5 yX5_noLong wsX5_noLong) := goodIn_app (goodIn_of _ (by decide +kernel)) ggX5_goOnCosts_X5_noLong
set_option maxRecDepth 20000 in
theorem ggX5_goOnCosts_X5_isEmpty : GoodIn wsX5_goOnCosts wsX5_isEmpty := goodIn_r _ [19, 1, 20, 21, 4, 22, 95, 96, 97, 98, 99, 100, 101, 102, 103, 104, 105, 106, 107, 108, 109, 110, 111, 112, 113, 114] (by decide +kernel) (by decide +kernel)
set_option maxRecDepth 20000 in
theorem gX5_goOnCosts_X5_isEmpty : GoodIn wsX5_goOnCosts (wsV RX5 144 RX5 yX5_isEmpty wsX5_isEmpty) := goodIn_app (goodIn_of _ (by decide +kernel)) ggX5_goOnCosts_X5_isEmpty
set_option maxRecDepth 20000 in
theorem ggX5_goOnCosts_X5_weight : GoodIn wsX5_goOnCosts wsX5_weight := goodIn_r _ [22] (by decide +kernel) (by decide +kernel)
set_option maxRecDepth 20000 in
theorem gX5_goOnCosts_X5_weight : GoodIn wsX5_goOnCosts (va_wsS RX5 71 yX5_weight wsX5_weight) := goodIn_app (goodIn_of _ (by decide +kernel)) ggX5_goOnCosts_X5_weight
set_option maxRecDepth 20000 in
theorem ggX5_goOnCosts_X5_faultsBehind : GoodIn wsX5_goOnCosts wsX5_faultsBehind := goodIn_r _ [26, 1, 27, 28, 29, 30, 4, 31, 32, 33, 34, 35, 36, 37, 38, 39, 40, 41, 42, 43, 44, 45, 46, 47, 48, 49, 50, 51, 52, 53, 54, 55, 56, 57, 58, 59, 60, 61, 62, 63, 64, 65, 66, 67, 68, 69, 70, 71, 72, 73, 74, 75, 76, 77, 78, 79, 80, 81, 82, 83, 84, 85, 86, 87, 88, 89, 90, 91, 95, 96, 97, 98, 99, 100, 101, 102, 103, 104, 105, 106, 107, 108, 109, 110, 111, 112, 113, 114] (by decide +kernel) (by decide +kernel)
set_option maxRecDepth 20000 in
theorem gX5_goOnCosts_X5_faultsBehind : GoodIn wsX5_goOnCosts (wsV RX5 157 RX5 yX5_faultsBehind wsX5_faultsBehind) := goodIn_app (goodIn_of _ (by decide +kernel)) ggX5_goOnCosts_X5_faultsBehind
set_option maxRecDepth 20000 in
theorem ggX5_goOnCosts_X5_fraction : GoodIn wsX5_goOnCosts wsX5_fraction := goodIn_r _ [94] (by decide +kernel) (by decide +kernel)
set_option maxRecDepth 20000 in
theorem gX5_goOnCosts_X5_fraction : GoodIn wsX5_goOnCosts (va_wsS RX5 136 yX5_fraction wsX5_fraction) := goodIn_app (goodIn_of _ (by decide +kernel)) ggX5_goOnCosts_X5_fraction
theorem dX5_goOnCosts_0 : decode cX5_goOnCosts 0 = .ok (.iload_n 1, 1) := by decide +kernel
theorem dX5_goOnCosts_1 : decode cX5_goOnCosts 1 = .ok (.invokestatic 130, 3) := by decide +kernel
theorem dX5_goOnCosts_4 : decode cX5_goOnCosts 4 = .ok (.ifCond .eq 10, 3) := by decide +kernel
theorem dX5_goOnCosts_7 : decode cX5_goOnCosts 7 = .ok (.aload_n 0, 1) := by decide +kernel
theorem dX5_goOnCosts_8 : decode cX5_goOnCosts 8 = .ok (.bipush (-2), 2) := by decide +kernel
theorem dX5_goOnCosts_10 : decode cX5_goOnCosts 10 = .ok (.invokevirtual 126, 3) := by decide +kernel
theorem dX5_goOnCosts_13 : decode cX5_goOnCosts 13 = .ok (.lreturn, 1) := by decide +kernel
theorem dX5_goOnCosts_14 : decode cX5_goOnCosts 14 = .ok (.aload_n 0, 1) := by decide +kernel
theorem dX5_goOnCosts_15 : decode cX5_goOnCosts 15 = .ok (.invokevirtual 144, 3) := by decide +kernel
theorem dX5_goOnCosts_18 : decode cX5_goOnCosts 18 = .ok (.ifCond .eq 10, 3) := by decide +kernel
theorem dX5_goOnCosts_21 : decode cX5_goOnCosts 21 = .ok (.aload_n 0, 1) := by decide +kernel
theorem dX5_goOnCosts_22 : decode cX5_goOnCosts 22 = .ok (.bipush (-3), 2) := by decide +kernel
theorem dX5_goOnCosts_24 : decode cX5_goOnCosts 24 = .ok (.invokevirtual 126, 3) := by decide +kernel
theorem dX5_goOnCosts_27 : decode cX5_goOnCosts 27 = .ok (.lreturn, 1) := by decide +kernel
theorem dX5_goOnCosts_28 : decode cX5_goOnCosts 28 = .ok (.aload_n 0, 1) := by decide +kernel
theorem dX5_goOnCosts_29 : decode cX5_goOnCosts 29 = .ok (.getfield 19, 3) := by decide +kernel
theorem dX5_goOnCosts_32 : decode cX5_goOnCosts 32 = .ok (.bipush 44, 2) := by decide +kernel
theorem dX5_goOnCosts_34 : decode cX5_goOnCosts 34 = .ok (.iaload, 1) := by decide +kernel
theorem dX5_goOnCosts_35 : decode cX5_goOnCosts 35 = .ok (.aload_n 0, 1) := by decide +kernel
theorem dX5_goOnCosts_36 : decode cX5_goOnCosts 36 = .ok (.getfield 19, 3) := by decide +kernel
theorem dX5_goOnCosts_39 : decode cX5_goOnCosts 39 = .ok (.invokestatic 71, 3) := by decide +kernel
theorem dX5_goOnCosts_42 : decode cX5_goOnCosts 42 = .ok (.imul, 1) := by decide +kernel
theorem dX5_goOnCosts_43 : decode cX5_goOnCosts 43 = .ok (.aload_n 0, 1) := by decide +kernel
theorem dX5_goOnCosts_44 : decode cX5_goOnCosts 44 = .ok (.invokevirtual 157, 3) := by decide +kernel
theorem dX5_goOnCosts_47 : decode cX5_goOnCosts 47 = .ok (.iadd, 1) := by decide +kernel
theorem dX5_goOnCosts_48 : decode cX5_goOnCosts 48 = .ok (.i2l, 1) := by decide +kernel
theorem dX5_goOnCosts_49 : decode cX5_goOnCosts 49 = .ok (.aload_n 0, 1) := by decide +kernel
theorem dX5_goOnCosts_50 : decode cX5_goOnCosts 50 = .ok (.getfield 19, 3) := by decide +kernel
theorem dX5_goOnCosts_53 : decode cX5_goOnCosts 53 = .ok (.invokestatic 71, 3) := by decide +kernel
theorem dX5_goOnCosts_56 : decode cX5_goOnCosts 56 = .ok (.i2l, 1) := by decide +kernel
theorem dX5_goOnCosts_57 : decode cX5_goOnCosts 57 = .ok (.iload_n 1, 1) := by decide +kernel
theorem dX5_goOnCosts_58 : decode cX5_goOnCosts 58 = .ok (.invokestatic 136, 3) := by decide +kernel
theorem dX5_goOnCosts_61 : decode cX5_goOnCosts 61 = .ok (.lreturn, 1) := by decide +kernel
set_option maxRecDepth 20000 in
theorem ggX5_worth_X5_isEmpty : GoodIn wsX5_worth wsX5_isEmpty := goodIn_r _ [6, 1, 7, 8, 5, 9, 84, 85, 86, 87, 88, 89, 90, 91, 92, 93, 94, 95, 96, 97, 98, 99, 100, 101, 102, 103] (by decide +kernel) (by decide +kernel)
set_option maxRecDepth 20000 in
theorem gX5_worth_X5_isEmpty : GoodIn wsX5_worth (wsV RX5 144 RX5 yX5_isEmpty wsX5_isEmpty) := goodIn_app (goodIn_of _ (by decide +kernel)) ggX5_worth_X5_isEmpty
set_option maxRecDepth 20000 in
theorem ggX5_worth_X5_no : GoodIn wsX5_worth wsX5_no := goodIn_r _ [13, 14, 84, 85, 86, 87, 88, 89, 90, 91, 92, 93, 94, 95, 96, 97, 98, 99, 100, 101, 102, 103] (by decide +kernel) (by decide +kernel)
set_option maxRecDepth 20000 in
theorem gX5_worth_X5_no : GoodIn wsX5_worth (wsV RX5 9 RX5 yX5_no wsX5_no) := goodIn_app (goodIn_of _ (by decide +kernel)) ggX5_worth_X5_no
set_option maxRecDepth 20000 in
theorem ggX5_worth_X5_giveBy : GoodIn wsX5_worth wsX5_giveBy := goodIn_r _ [18, 19, 20, 21, 5, 22, 1, 23, 24, 25, 26, 84, 85, 86, 87, 88, 89, 90, 91, 92, 93, 94, 95, 96, 97, 98, 99, 100, 101, 102, 103] (by decide +kernel) (by decide +kernel)
set_option maxRecDepth 20000 in
theorem gX5_worth_X5_giveBy : GoodIn wsX5_worth (wsV RX5 154 RX5 yX5_giveBy wsX5_giveBy) := goodIn_app (goodIn_of _ (by decide +kernel)) ggX5_worth_X5_giveBy
set_option maxRecDepth 20000 in
theorem ggX5_worth_X5_faultsAt : GoodIn wsX5_worth wsX5_faultsAt := goodIn_r _ [22, 1, 23, 24, 25, 26, 84, 85, 86, 87, 88, 89, 90, 91, 92, 93, 94, 95, 96, 97, 98, 99, 100, 101, 102, 103] (by decide +kernel) (by decide +kernel)
set_option maxRecDepth 20000 in
theorem gX5_worth_X5_faultsAt : GoodIn wsX5_worth (wsV RX5 151 RX5 yX5_faultsAt wsX5_faultsAt) := goodIn_app (goodIn_of _ (by decide +kernel)) ggX5_worth_X5_faultsAt
set_option maxRecDepth 20000 in
theorem ggX5_worth_X5_faultsBehind : GoodIn wsX5_worth wsX5_faultsBehind := goodIn_r _ [30, 1, 31, 32, 33, 34, 5, 35, 36, 37, 25, 38, 39, 40, 41, 42, 43, 44, 45, 46, 47, 48, 49, 50, 51, 52, 53, 54, 55, 56, 57, 58, 59, 60, 23, 24, 26, 61, 62, 63, 64, 65, 66, 67, 68, 69, 70, 71, 72, 73, 74, 75, 76, 77, 78, 79, 80, 81, 82, 83, 15, 16, 17, 18, 19, 20, 21, 22, 84, 85, 86, 87, 88, 89, 90, 91, 92, 93, 94, 95, 96, 97, 98, 99, 100, 101, 102, 103] (by decide +kernel) (by decide +kernel)
set_option maxRecDepth 20000 in
theorem gX5_worth_X5_faultsBehind : GoodIn wsX5_worth (wsV RX5 157 RX5 yX5_faultsBehind wsX5_faultsBehind) := goodIn_app (goodIn_of _ (by decide +kernel)) ggX5_worth_X5_faultsBehind
set_option maxRecDepth 20000 in
theorem ggX5_worth_X5_weight : GoodIn wsX5_worth wsX5_weight := goodIn_r _ [9] (by decide +kernel) (by decide +kernel)
set_option maxRecDepth 20000 in
theorem gX5_worth_X5_weight : GoodIn wsX5_worth (va_wsS RX5 71 yX5_weight wsX5_weight) := goodIn_app (goodIn_of _ (by decide +kernel)) ggX5_worth_X5_weight
theorem dX5_worth_0 : decode cX5_worth 0 = .ok (.aload_n 0, 1) := by decide +kernel
theorem dX5_worth_1 : decode cX5_worth 1 = .ok (.invokevirtual 144, 3) := by decide +kernel
theorem dX5_worth_4 : decode cX5_worth 4 = .ok (.ifCond .eq 10, 3) := by decide +kernel
theorem dX5_worth_7 : decode cX5_worth 7 = .ok (.aload_n 0, 1) := by decide +kernel
theorem dX5_worth_8 : decode cX5_worth 8 = .ok (.bipush (-3), 2) := by decide +kernel
theorem dX5_worth_10 : decode cX5_worth 10 = .ok (.invokevirtual 9, 3) := by decide +kernel
theorem dX5_worth_13 : decode cX5_worth 13 = .ok (.ireturn, 1) := by decide +kernel
theorem dX5_worth_14 : decode cX5_worth 14 = .ok (.aload_n 0, 1) := by decide +kernel
theorem dX5_worth_15 : decode cX5_worth 15 = .ok (.aload_n 0, 1) := by decide +kernel
theorem dX5_worth_16 : decode cX5_worth 16 = .ok (.getfield 19, 3) := by decide +kernel
theorem dX5_worth_19 : decode cX5_worth 19 = .ok (.aload_n 0, 1) := by decide +kernel
theorem dX5_worth_20 : decode cX5_worth 20 = .ok (.aload_n 0, 1) := by decide +kernel
theorem dX5_worth_21 : decode cX5_worth 21 = .ok (.getfield 19, 3) := by decide +kernel
theorem dX5_worth_24 : decode cX5_worth 24 = .ok (.invokevirtual 154, 3) := by decide +kernel
theorem dX5_worth_27 : decode cX5_worth 27 = .ok (.invokevirtual 151, 3) := by decide +kernel
theorem dX5_worth_30 : decode cX5_worth 30 = .ok (.aload_n 0, 1) := by decide +kernel
theorem dX5_worth_31 : decode cX5_worth 31 = .ok (.invokevirtual 157, 3) := by decide +kernel
theorem dX5_worth_34 : decode cX5_worth 34 = .ok (.isub, 1) := by decide +kernel
theorem dX5_worth_35 : decode cX5_worth 35 = .ok (.istore_n 1, 1) := by decide +kernel
theorem dX5_worth_36 : decode cX5_worth 36 = .ok (.bipush 99, 2) := by decide +kernel
theorem dX5_worth_38 : decode cX5_worth 38 = .ok (.istore_n 2, 1) := by decide +kernel
theorem dX5_worth_39 : decode cX5_worth 39 = .ok (.iload_n 2, 1) := by decide +kernel
theorem dX5_worth_40 : decode cX5_worth 40 = .ok (.ifCond .lt 22, 3) := by decide +kernel
theorem dX5_worth_43 : decode cX5_worth 43 = .ok (.iload_n 2, 1) := by decide +kernel
theorem dX5_worth_44 : decode cX5_worth 44 = .ok (.aload_n 0, 1) := by decide +kernel
theorem dX5_worth_45 : decode cX5_worth 45 = .ok (.getfield 19, 3) := by decide +kernel
theorem dX5_worth_48 : decode cX5_worth 48 = .ok (.invokestatic 71, 3) := by decide +kernel
theorem dX5_worth_51 : decode cX5_worth 51 = .ok (.imul, 1) := by decide +kernel
theorem dX5_worth_52 : decode cX5_worth 52 = .ok (.iload_n 1, 1) := by decide +kernel
theorem dX5_worth_53 : decode cX5_worth 53 = .ok (.if_icmp .lt 9, 3) := by decide +kernel
theorem dX5_worth_56 : decode cX5_worth 56 = .ok (.iinc 2 (-1), 3) := by decide +kernel
theorem dX5_worth_59 : decode cX5_worth 59 = .ok (.goto (-20), 3) := by decide +kernel
theorem dX5_worth_62 : decode cX5_worth 62 = .ok (.iload_n 2, 1) := by decide +kernel
theorem dX5_worth_63 : decode cX5_worth 63 = .ok (.ifCond .ge 8, 3) := by decide +kernel
theorem dX5_worth_66 : decode cX5_worth 66 = .ok (.bipush (-9), 2) := by decide +kernel
theorem dX5_worth_68 : decode cX5_worth 68 = .ok (.goto 4, 3) := by decide +kernel
theorem dX5_worth_71 : decode cX5_worth 71 = .ok (.iload_n 2, 1) := by decide +kernel
theorem dX5_worth_72 : decode cX5_worth 72 = .ok (.ireturn, 1) := by decide +kernel
set_option maxRecDepth 20000 in
theorem ggX5_costs_X5_noLong : GoodIn wsX5_costs wsX5_noLong := goodIn_r _ [6, 7, 8, 9, 10, 5, 11, 12, 37, 38, 39, 40, 41, 42, 43, 44, 45, 46, 47, 48, 49, 50, 51, 52, 53, 54, 55, 56] (by decide +kernel) (by decide +kernel)
set_option maxRecDepth 20000 in
theorem gX5_costs_X5_noLong : GoodIn wsX5_costs (wsV RX5 126 RX5 yX5_noLong wsX5_noLong) := goodIn_app (goodIn_of _ (by decide +kernel)) ggX5_costs_X5_noLong
set_option maxRecDepth 20000 in
theorem ggX5_costs_X5_isNoSecond : GoodIn wsX5_costs wsX5_isNoSecond := goodIn_r _ [15] (by decide +kernel) (by decide +kernel)
set_option maxRecDepth 20000 in
theorem gX5_costs_X5_isNoSecond : GoodIn wsX5_costs (va_wsS RX5 93 yX5_isNoSecond wsX5_isNoSecond) := goodIn_app (goodIn_of _ (by decide +kernel)) ggX5_costs_X5_isNoSecond
set_option maxRecDepth 20000 in
theorem ggX5_costs_X5_isNoPart : GoodIn wsX5_costs wsX5_isNoPart := goodIn_r _ [18] (by decide +kernel) (by decide +kernel)
set_option maxRecDepth 20000 in
theorem gX5_costs_X5_isNoPart : GoodIn wsX5_costs (va_wsS RX5 130 yX5_isNoPart wsX5_isNoPart) := goodIn_app (goodIn_of _ (by decide +kernel)) ggX5_costs_X5_isNoPart
set_option maxRecDepth 20000 in
theorem ggX5_costs_X5_isEmpty : GoodIn wsX5_costs wsX5_isEmpty := goodIn_r _ [22, 1, 23, 24, 5, 25, 37, 38, 39, 40, 41, 42, 43, 44, 45, 46, 47, 48, 49, 50, 51, 52, 53, 54, 55, 56] (by decide +kernel) (by decide +kernel)
set_option maxRecDepth 20000 in
theorem gX5_costs_X5_isEmpty : GoodIn wsX5_costs (wsV RX5 144 RX5 yX5_isEmpty wsX5_isEmpty) := goodIn_app (goodIn_of _ (by decide +kernel)) ggX5_costs_X5_isEmpty
set_option maxRecDepth 20000 in
theorem ggX5_costs_X5_weight : GoodIn wsX5_costs wsX5_weight := goodIn_r _ [25] (by decide +kernel) (by decide +kernel)
set_option maxRecDepth 20000 in
theorem gX5_costs_X5_weight : GoodIn wsX5_costs (va_wsS RX5 71 yX5_weight wsX5_weight) := goodIn_app (goodIn_of _ (by decide +kernel)) ggX5_costs_X5_weight
set_option maxRecDepth 20000 in
theorem ggX5_costs_X5_faultsAt : GoodIn wsX5_costs wsX5_faultsAt := goodIn_r _ [29, 1, 30, 31, 32, 33, 37, 38, 39, 40, 41, 42, 43, 44, 45, 46, 47, 48, 49, 50, 51, 52, 53, 54, 55, 56] (by decide +kernel) (by decide +kernel)
set_option maxRecDepth 20000 in
theorem gX5_costs_X5_faultsAt : GoodIn wsX5_costs (wsV RX5 151 RX5 yX5_faultsAt wsX5_faultsAt) := goodIn_app (goodIn_of _ (by decide +kernel)) ggX5_costs_X5_faultsAt
set_option maxRecDepth 20000 in
theorem ggX5_costs_X5_fraction : GoodIn wsX5_costs wsX5_fraction := goodIn_r _ [36] (by decide +kernel) (by decide +kernel)
set_option maxRecDepth 20000 in
theorem gX5_costs_X5_fraction : GoodIn wsX5_costs (va_wsS RX5 136 yX5_fraction wsX5_fraction) := goodIn_app (goodIn_of _ (by decide +kernel)) ggX5_costs_X5_fraction
theorem dX5_costs_0 : decode cX5_costs 0 = .ok (.iload_n 1, 1) := by decide +kernel
theorem dX5_costs_1 : decode cX5_costs 1 = .ok (.ifCond .ge 10, 3) := by decide +kernel
theorem dX5_costs_4 : decode cX5_costs 4 = .ok (.aload_n 0, 1) := by decide +kernel
theorem dX5_costs_5 : decode cX5_costs 5 = .ok (.bipush (-4), 2) := by decide +kernel
theorem dX5_costs_7 : decode cX5_costs 7 = .ok (.invokevirtual 126, 3) := by decide +kernel
theorem dX5_costs_10 : decode cX5_costs 10 = .ok (.lreturn, 1) := by decide +kernel
theorem dX5_costs_11 : decode cX5_costs 11 = .ok (.iload_n 1, 1) := by decide +kernel
theorem dX5_costs_12 : decode cX5_costs 12 = .ok (.bipush 20, 2) := by decide +kernel
theorem dX5_costs_14 : decode cX5_costs 14 = .ok (.if_icmp .le 10, 3) := by decide +kernel
theorem dX5_costs_17 : decode cX5_costs 17 = .ok (.aload_n 0, 1) := by decide +kernel
theorem dX5_costs_18 : decode cX5_costs 18 = .ok (.bipush (-6), 2) := by decide +kernel
theorem dX5_costs_20 : decode cX5_costs 20 = .ok (.invokevirtual 126, 3) := by decide +kernel
theorem dX5_costs_23 : decode cX5_costs 23 = .ok (.lreturn, 1) := by decide +kernel
theorem dX5_costs_24 : decode cX5_costs 24 = .ok (.iload_n 2, 1) := by decide +kernel
theorem dX5_costs_25 : decode cX5_costs 25 = .ok (.invokestatic 93, 3) := by decide +kernel
theorem dX5_costs_28 : decode cX5_costs 28 = .ok (.ifCond .eq 9, 3) := by decide +kernel
theorem dX5_costs_31 : decode cX5_costs 31 = .ok (.aload_n 0, 1) := by decide +kernel
theorem dX5_costs_32 : decode cX5_costs 32 = .ok (.iconst (-1), 1) := by decide +kernel
theorem dX5_costs_33 : decode cX5_costs 33 = .ok (.invokevirtual 126, 3) := by decide +kernel
theorem dX5_costs_36 : decode cX5_costs 36 = .ok (.lreturn, 1) := by decide +kernel
theorem dX5_costs_37 : decode cX5_costs 37 = .ok (.iload_n 3, 1) := by decide +kernel
theorem dX5_costs_38 : decode cX5_costs 38 = .ok (.invokestatic 130, 3) := by decide +kernel
theorem dX5_costs_41 : decode cX5_costs 41 = .ok (.ifCond .eq 10, 3) := by decide +kernel
theorem dX5_costs_44 : decode cX5_costs 44 = .ok (.aload_n 0, 1) := by decide +kernel
theorem dX5_costs_45 : decode cX5_costs 45 = .ok (.bipush (-2), 2) := by decide +kernel
theorem dX5_costs_47 : decode cX5_costs 47 = .ok (.invokevirtual 126, 3) := by decide +kernel
theorem dX5_costs_50 : decode cX5_costs 50 = .ok (.lreturn, 1) := by decide +kernel
theorem dX5_costs_51 : decode cX5_costs 51 = .ok (.aload_n 0, 1) := by decide +kernel
theorem dX5_costs_52 : decode cX5_costs 52 = .ok (.invokevirtual 144, 3) := by decide +kernel
theorem dX5_costs_55 : decode cX5_costs 55 = .ok (.ifCond .eq 10, 3) := by decide +kernel
theorem dX5_costs_58 : decode cX5_costs 58 = .ok (.aload_n 0, 1) := by decide +kernel
theorem dX5_costs_59 : decode cX5_costs 59 = .ok (.bipush (-3), 2) := by decide +kernel
theorem dX5_costs_61 : decode cX5_costs 61 = .ok (.invokevirtual 126, 3) := by decide +kernel
theorem dX5_costs_64 : decode cX5_costs 64 = .ok (.lreturn, 1) := by decide +kernel
theorem dX5_costs_65 : decode cX5_costs 65 = .ok (.iload_n 1, 1) := by decide +kernel
theorem dX5_costs_66 : decode cX5_costs 66 = .ok (.aload_n 0, 1) := by decide +kernel
theorem dX5_costs_67 : decode cX5_costs 67 = .ok (.getfield 19, 3) := by decide +kernel
theorem dX5_costs_70 : decode cX5_costs 70 = .ok (.bipush 44, 2) := by decide +kernel
theorem dX5_costs_72 : decode cX5_costs 72 = .ok (.iaload, 1) := by decide +kernel
theorem dX5_costs_73 : decode cX5_costs 73 = .ok (.imul, 1) := by decide +kernel
theorem dX5_costs_74 : decode cX5_costs 74 = .ok (.aload_n 0, 1) := by decide +kernel
theorem dX5_costs_75 : decode cX5_costs 75 = .ok (.getfield 19, 3) := by decide +kernel
theorem dX5_costs_78 : decode cX5_costs 78 = .ok (.invokestatic 71, 3) := by decide +kernel
theorem dX5_costs_81 : decode cX5_costs 81 = .ok (.imul, 1) := by decide +kernel
theorem dX5_costs_82 : decode cX5_costs 82 = .ok (.aload_n 0, 1) := by decide +kernel
theorem dX5_costs_83 : decode cX5_costs 83 = .ok (.aload_n 0, 1) := by decide +kernel
theorem dX5_costs_84 : decode cX5_costs 84 = .ok (.getfield 19, 3) := by decide +kernel
theorem dX5_costs_87 : decode cX5_costs 87 = .ok (.iload_n 2, 1) := by decide +kernel
theorem dX5_costs_88 : decode cX5_costs 88 = .ok (.invokevirtual 151, 3) := by decide +kernel
theorem dX5_costs_91 : decode cX5_costs 91 = .ok (.iadd, 1) := by decide +kernel
theorem dX5_costs_92 : decode cX5_costs 92 = .ok (.i2l, 1) := by decide +kernel
theorem dX5_costs_93 : decode cX5_costs 93 = .ok (.aload_n 0, 1) := by decide +kernel
theorem dX5_costs_94 : decode cX5_costs 94 = .ok (.getfield 19, 3) := by decide +kernel
theorem dX5_costs_97 : decode cX5_costs 97 = .ok (.invokestatic 71, 3) := by decide +kernel
theorem dX5_costs_100 : decode cX5_costs 100 = .ok (.i2l, 1) := by decide +kernel
theorem dX5_costs_101 : decode cX5_costs 101 = .ok (.iload_n 3, 1) := by decide +kernel
theorem dX5_costs_102 : decode cX5_costs 102 = .ok (.invokestatic 136, 3) := by decide +kernel
theorem dX5_costs_105 : decode cX5_costs 105 = .ok (.lreturn, 1) := by decide +kernel
set_option maxRecDepth 20000 in
theorem ggX5_enoughFor_X5_move : GoodIn wsX5_enoughFor wsX5_move := goodIn_r _ [6] (by decide +kernel) (by decide +kernel)
set_option maxRecDepth 20000 in
theorem gX5_enoughFor_X5_move : GoodIn wsX5_enoughFor (va_wsS RX5 63 yX5_move wsX5_move) := goodIn_app (goodIn_of _ (by decide +kernel)) ggX5_enoughFor_X5_move
set_option maxRecDepth 20000 in
theorem ggX5_enoughFor_X5_left : GoodIn wsX5_enoughFor wsX5_left := goodIn_r _ [9] (by decide +kernel) (by decide +kernel)
set_option maxRecDepth 20000 in
theorem gX5_enoughFor_X5_left : GoodIn wsX5_enoughFor (va_wsS RX5 67 yX5_left wsX5_left) := goodIn_app (goodIn_of _ (by decide +kernel)) ggX5_enoughFor_X5_left
set_option maxRecDepth 20000 in
theorem ggX5_enoughFor_X5_bestBy : GoodIn wsX5_enoughFor wsX5_bestBy := goodIn_r _ [13, 14, 15, 16, 17, 18, 19, 20, 5, 21, 22, 23, 24, 25, 26, 27, 28, 29, 30, 31, 32, 33, 34, 35, 36, 37, 38, 39, 1, 40, 41, 42, 43, 44, 45, 46, 47, 48, 49, 50, 51, 52, 53, 54, 55, 56, 57, 58, 63, 64, 65, 66, 67, 68, 69, 70, 71, 72, 73, 74, 75, 76, 77, 78, 79, 80, 81, 82] (by decide +kernel) (by decide +kernel)
set_option maxRecDepth 20000 in
theorem gX5_enoughFor_X5_bestBy : GoodIn wsX5_enoughFor (wsV RX5 148 RX5 yX5_bestBy wsX5_bestBy) := goodIn_app (goodIn_of _ (by decide +kernel)) ggX5_enoughFor_X5_bestBy
set_option maxRecDepth 20000 in
theorem ggX5_enoughFor_X5_partsOf : GoodIn wsX5_enoughFor wsX5_partsOf := goodIn_r _ [58, 26, 30, 31, 32, 5, 33, 34, 35, 36, 37, 38, 39, 1, 27, 28, 16, 29, 40, 41, 42, 43, 44, 45, 46, 47, 48, 49, 50, 14, 15, 17, 63, 64, 65, 66, 67, 68, 69, 70, 71, 72, 73, 74, 75, 76, 77, 78, 79, 80, 81, 82] (by decide +kernel) (by decide +kernel)
set_option maxRecDepth 20000 in
theorem gX5_enoughFor_X5_partsOf : GoodIn wsX5_enoughFor (wsV RX5 119 RX5 yX5_partsOf wsX5_partsOf) := goodIn_app (goodIn_of _ (by decide +kernel)) ggX5_enoughFor_X5_partsOf
set_option maxRecDepth 20000 in
theorem ggX5_enoughFor_X5_tells : GoodIn wsX5_enoughFor wsX5_tells := goodIn_r _ [39, 1, 27, 28, 16, 29, 40, 41, 42, 43, 44, 45, 5, 46, 47, 48, 49, 50, 14, 15, 17, 63, 64, 65, 66, 67, 68, 69, 70, 71, 72, 73, 74, 75, 76, 77, 78, 79, 80, 81, 82] (by decide +kernel) (by decide +kernel)
set_option maxRecDepth 20000 in
theorem gX5_enoughFor_X5_tells : GoodIn wsX5_enoughFor (wsV RX5 97 RX5 yX5_tells wsX5_tells) := goodIn_app (goodIn_of _ (by decide +kernel)) ggX5_enoughFor_X5_tells
set_option maxRecDepth 20000 in
theorem ggX5_enoughFor_X5_tries : GoodIn wsX5_enoughFor wsX5_tries := goodIn_r _ [62, 26, 35, 30, 31, 32, 5, 33, 34, 36, 37, 38, 39, 1, 27, 28, 16, 29, 40, 41, 42, 43, 44, 45, 46, 47, 48, 49, 50, 14, 15, 17, 63, 64, 65, 66, 67, 68, 69, 70, 71, 72, 73, 74, 75, 76, 77, 78, 79, 80, 81, 82] (by decide +kernel) (by decide +kernel)
set_option maxRecDepth 20000 in
theorem gX5_enoughFor_X5_tries : GoodIn wsX5_enoughFor (wsV RX5 115 RX5 yX5_tries wsX5_tries) := goodIn_app (goodIn_of _ (by decide +kernel)) ggX5_enoughFor_X5_tries
theorem dX5_enoughFor_0 : decode cX5_enoughFor 0 = .ok (.aload_n 0, 1) := by decide +kernel
theorem dX5_enoughFor_1 : decode cX5_enoughFor 1 = .ok (.getfield 19, 3) := by decide +kernel
theorem dX5_enoughFor_4 : decode cX5_enoughFor 4 = .ok (.aload_n 0, 1) := by decide +kernel
theorem dX5_enoughFor_5 : decode cX5_enoughFor 5 = .ok (.getfield 34, 3) := by decide +kernel
theorem dX5_enoughFor_8 : decode cX5_enoughFor 8 = .ok (.invokestatic 63, 3) := by decide +kernel
theorem dX5_enoughFor_11 : decode cX5_enoughFor 11 = .ok (.iconst 0, 1) := by decide +kernel
theorem dX5_enoughFor_12 : decode cX5_enoughFor 12 = .ok (.istore_n 2, 1) := by decide +kernel
theorem dX5_enoughFor_13 : decode cX5_enoughFor 13 = .ok (.aload_n 0, 1) := by decide +kernel
theorem dX5_enoughFor_14 : decode cX5_enoughFor 14 = .ok (.getfield 34, 3) := by decide +kernel
theorem dX5_enoughFor_17 : decode cX5_enoughFor 17 = .ok (.invokestatic 67, 3) := by decide +kernel
theorem dX5_enoughFor_20 : decode cX5_enoughFor 20 = .ok (.iconst 1, 1) := by decide +kernel
theorem dX5_enoughFor_21 : decode cX5_enoughFor 21 = .ok (.if_icmp .le 57, 3) := by decide +kernel
theorem dX5_enoughFor_24 : decode cX5_enoughFor 24 = .ok (.aload_n 0, 1) := by decide +kernel
theorem dX5_enoughFor_25 : decode cX5_enoughFor 25 = .ok (.aload_n 0, 1) := by decide +kernel
theorem dX5_enoughFor_26 : decode cX5_enoughFor 26 = .ok (.getfield 34, 3) := by decide +kernel
theorem dX5_enoughFor_29 : decode cX5_enoughFor 29 = .ok (.iconst 0, 1) := by decide +kernel
theorem dX5_enoughFor_30 : decode cX5_enoughFor 30 = .ok (.invokevirtual 148, 3) := by decide +kernel
theorem dX5_enoughFor_33 : decode cX5_enoughFor 33 = .ok (.istore_n 3, 1) := by decide +kernel
theorem dX5_enoughFor_34 : decode cX5_enoughFor 34 = .ok (.iload_n 2, 1) := by decide +kernel
theorem dX5_enoughFor_35 : decode cX5_enoughFor 35 = .ok (.bipush 12, 2) := by decide +kernel
theorem dX5_enoughFor_37 : decode cX5_enoughFor 37 = .ok (.if_icmp .eq 16, 3) := by decide +kernel
theorem dX5_enoughFor_40 : decode cX5_enoughFor 40 = .ok (.aload_n 0, 1) := by decide +kernel
theorem dX5_enoughFor_41 : decode cX5_enoughFor 41 = .ok (.aload_n 0, 1) := by decide +kernel
theorem dX5_enoughFor_42 : decode cX5_enoughFor 42 = .ok (.getfield 34, 3) := by decide +kernel
theorem dX5_enoughFor_45 : decode cX5_enoughFor 45 = .ok (.iload_n 3, 1) := by decide +kernel
theorem dX5_enoughFor_46 : decode cX5_enoughFor 46 = .ok (.invokevirtual 119, 3) := by decide +kernel
theorem dX5_enoughFor_49 : decode cX5_enoughFor 49 = .ok (.iconst 1, 1) := by decide +kernel
theorem dX5_enoughFor_50 : decode cX5_enoughFor 50 = .ok (.if_icmp .ne 6, 3) := by decide +kernel
theorem dX5_enoughFor_53 : decode cX5_enoughFor 53 = .ok (.bipush (-9), 2) := by decide +kernel
theorem dX5_enoughFor_55 : decode cX5_enoughFor 55 = .ok (.ireturn, 1) := by decide +kernel
theorem dX5_enoughFor_56 : decode cX5_enoughFor 56 = .ok (.aload_n 0, 1) := by decide +kernel
theorem dX5_enoughFor_57 : decode cX5_enoughFor 57 = .ok (.aload_n 0, 1) := by decide +kernel
theorem dX5_enoughFor_58 : decode cX5_enoughFor 58 = .ok (.getfield 34, 3) := by decide +kernel
theorem dX5_enoughFor_61 : decode cX5_enoughFor 61 = .ok (.iload_n 3, 1) := by decide +kernel
theorem dX5_enoughFor_62 : decode cX5_enoughFor 62 = .ok (.aload_n 0, 1) := by decide +kernel
theorem dX5_enoughFor_63 : decode cX5_enoughFor 63 = .ok (.iload_n 3, 1) := by decide +kernel
theorem dX5_enoughFor_64 : decode cX5_enoughFor 64 = .ok (.iload_n 1, 1) := by decide +kernel
theorem dX5_enoughFor_65 : decode cX5_enoughFor 65 = .ok (.invokevirtual 97, 3) := by decide +kernel
theorem dX5_enoughFor_68 : decode cX5_enoughFor 68 = .ok (.invokevirtual 115, 3) := by decide +kernel
theorem dX5_enoughFor_71 : decode cX5_enoughFor 71 = .ok (.pop, 1) := by decide +kernel
theorem dX5_enoughFor_72 : decode cX5_enoughFor 72 = .ok (.iinc 2 1, 3) := by decide +kernel
theorem dX5_enoughFor_75 : decode cX5_enoughFor 75 = .ok (.goto (-62), 3) := by decide +kernel
theorem dX5_enoughFor_78 : decode cX5_enoughFor 78 = .ok (.iload_n 2, 1) := by decide +kernel
theorem dX5_enoughFor_79 : decode cX5_enoughFor 79 = .ok (.ireturn, 1) := by decide +kernel
set_option maxRecDepth 20000 in
theorem ggX5_enough_X5_isNoSecond : GoodIn wsX5_enough wsX5_isNoSecond := goodIn_r _ [5] (by decide +kernel) (by decide +kernel)
set_option maxRecDepth 20000 in
theorem gX5_enough_X5_isNoSecond : GoodIn wsX5_enough (va_wsS RX5 93 yX5_isNoSecond wsX5_isNoSecond) := goodIn_app (goodIn_of _ (by decide +kernel)) ggX5_enough_X5_isNoSecond

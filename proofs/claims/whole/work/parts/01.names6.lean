set_option maxRecDepth 20000 in
theorem ggX5_enough_X5_no : GoodIn wsX5_enough wsX5_no := goodIn_r _ [9, 10, 75, 76, 77, 78, 79, 80, 81, 82, 83, 84, 85, 86, 87, 88, 89, 90, 91, 92, 93, 94] (by decide +kernel) (by decide +kernel)
set_option maxRecDepth 20000 in
theorem gX5_enough_X5_no : GoodIn wsX5_enough (wsV RX5 9 RX5 yX5_no wsX5_no) := goodIn_app (goodIn_of _ (by decide +kernel)) ggX5_enough_X5_no
set_option maxRecDepth 20000 in
theorem ggX5_enough_X5_enoughFor : GoodIn wsX5_enough wsX5_enoughFor := goodIn_r _ [14, 1, 15, 16, 17, 4, 18, 19, 20, 21, 22, 23, 24, 25, 26, 27, 28, 29, 30, 31, 32, 33, 34, 35, 36, 37, 38, 39, 40, 41, 42, 43, 44, 45, 46, 47, 48, 49, 50, 51, 52, 53, 54, 55, 56, 57, 58, 59, 60, 61, 62, 63, 64, 65, 66, 67, 68, 69, 70, 71, 72, 73, 74, 75, 76, 77, 78, 79, 80, 81, 82, 83, 84, 85, 86, 87, 88, 89, 90, 91, 92, 93, 94] (by decide +kernel) (by decide +kernel)
set_option maxRecDepth 20000 in
theorem gX5_enough_X5_enoughFor : GoodIn wsX5_enough (wsV RX5 161 RX5 yX5_enoughFor wsX5_enoughFor) := goodIn_app (goodIn_of _ (by decide +kernel)) ggX5_enough_X5_enoughFor
theorem dX5_enough_0 : decode cX5_enough 0 = .ok (.iload_n 1, 1) := by decide +kernel
theorem dX5_enough_1 : decode cX5_enough 1 = .ok (.invokestatic 93, 3) := by decide +kernel
theorem dX5_enough_4 : decode cX5_enough 4 = .ok (.ifCond .eq 9, 3) := by decide +kernel
theorem dX5_enough_7 : decode cX5_enough 7 = .ok (.aload_n 0, 1) := by decide +kernel
theorem dX5_enough_8 : decode cX5_enough 8 = .ok (.iconst (-1), 1) := by decide +kernel
theorem dX5_enough_9 : decode cX5_enough 9 = .ok (.invokevirtual 9, 3) := by decide +kernel
theorem dX5_enough_12 : decode cX5_enough 12 = .ok (.ireturn, 1) := by decide +kernel
theorem dX5_enough_13 : decode cX5_enough 13 = .ok (.aload_n 0, 1) := by decide +kernel
theorem dX5_enough_14 : decode cX5_enough 14 = .ok (.getfield 19, 3) := by decide +kernel
theorem dX5_enough_17 : decode cX5_enough 17 = .ok (.iload_n 1, 1) := by decide +kernel
theorem dX5_enough_18 : decode cX5_enough 18 = .ok (.iaload, 1) := by decide +kernel
theorem dX5_enough_19 : decode cX5_enough 19 = .ok (.ifCond .ne 12, 3) := by decide +kernel
theorem dX5_enough_22 : decode cX5_enough 22 = .ok (.aload_n 0, 1) := by decide +kernel
theorem dX5_enough_23 : decode cX5_enough 23 = .ok (.bipush (-3), 2) := by decide +kernel
theorem dX5_enough_25 : decode cX5_enough 25 = .ok (.invokevirtual 9, 3) := by decide +kernel
theorem dX5_enough_28 : decode cX5_enough 28 = .ok (.goto 8, 3) := by decide +kernel
theorem dX5_enough_31 : decode cX5_enough 31 = .ok (.aload_n 0, 1) := by decide +kernel
theorem dX5_enough_32 : decode cX5_enough 32 = .ok (.iload_n 1, 1) := by decide +kernel
theorem dX5_enough_33 : decode cX5_enough 33 = .ok (.invokevirtual 161, 3) := by decide +kernel
theorem dX5_enough_36 : decode cX5_enough 36 = .ok (.ireturn, 1) := by decide +kernel
set_option maxRecDepth 20000 in
theorem ggX5_most_X5_isEmpty : GoodIn wsX5_most wsX5_isEmpty := goodIn_r _ [10, 1, 11, 12, 9, 13, 79, 80, 81, 82, 83, 84, 85, 86, 87, 88, 89, 90, 91, 92, 93, 94, 95, 96, 97, 98] (by decide +kernel) (by decide +kernel)
set_option maxRecDepth 20000 in
theorem gX5_most_X5_isEmpty : GoodIn wsX5_most (wsV RX5 144 RX5 yX5_isEmpty wsX5_isEmpty) := goodIn_app (goodIn_of _ (by decide +kernel)) ggX5_most_X5_isEmpty
set_option maxRecDepth 20000 in
theorem ggX5_most_X5_no : GoodIn wsX5_most wsX5_no := goodIn_r _ [17, 18, 79, 80, 81, 82, 83, 84, 85, 86, 87, 88, 89, 90, 91, 92, 93, 94, 95, 96, 97, 98] (by decide +kernel) (by decide +kernel)
set_option maxRecDepth 20000 in
theorem gX5_most_X5_no : GoodIn wsX5_most (wsV RX5 9 RX5 yX5_no wsX5_no) := goodIn_app (goodIn_of _ (by decide +kernel)) ggX5_most_X5_no
set_option maxRecDepth 20000 in
theorem ggX5_most_X5_enoughFor : GoodIn wsX5_most wsX5_enoughFor := goodIn_r _ [22, 1, 23, 24, 25, 9, 26, 27, 28, 29, 30, 31, 32, 33, 34, 35, 4, 36, 37, 38, 39, 40, 41, 42, 43, 44, 45, 2, 3, 5, 46, 47, 48, 49, 50, 51, 52, 53, 54, 55, 56, 57, 58, 59, 60, 61, 62, 63, 64, 65, 66, 67, 68, 69, 70, 71, 72, 73, 74, 75, 76, 77, 78, 79, 80, 81, 82, 83, 84, 85, 86, 87, 88, 89, 90, 91, 92, 93, 94, 95, 96, 97, 98] (by decide +kernel) (by decide +kernel)
set_option maxRecDepth 20000 in
theorem gX5_most_X5_enoughFor : GoodIn wsX5_most (wsV RX5 161 RX5 yX5_enoughFor wsX5_enoughFor) := goodIn_app (goodIn_of _ (by decide +kernel)) ggX5_most_X5_enoughFor
theorem dX5_most_0 : decode cX5_most 0 = .ok (.aload_n 0, 1) := by decide +kernel
theorem dX5_most_1 : decode cX5_most 1 = .ok (.invokevirtual 144, 3) := by decide +kernel
theorem dX5_most_4 : decode cX5_most 4 = .ok (.ifCond .eq 10, 3) := by decide +kernel
theorem dX5_most_7 : decode cX5_most 7 = .ok (.aload_n 0, 1) := by decide +kernel
theorem dX5_most_8 : decode cX5_most 8 = .ok (.bipush (-3), 2) := by decide +kernel
theorem dX5_most_10 : decode cX5_most 10 = .ok (.invokevirtual 9, 3) := by decide +kernel
theorem dX5_most_13 : decode cX5_most 13 = .ok (.ireturn, 1) := by decide +kernel
theorem dX5_most_14 : decode cX5_most 14 = .ok (.iconst 0, 1) := by decide +kernel
theorem dX5_most_15 : decode cX5_most 15 = .ok (.istore_n 1, 1) := by decide +kernel
theorem dX5_most_16 : decode cX5_most 16 = .ok (.iconst 1, 1) := by decide +kernel
theorem dX5_most_17 : decode cX5_most 17 = .ok (.istore_n 2, 1) := by decide +kernel
theorem dX5_most_18 : decode cX5_most 18 = .ok (.iload_n 2, 1) := by decide +kernel
theorem dX5_most_19 : decode cX5_most 19 = .ok (.bipush 40, 2) := by decide +kernel
theorem dX5_most_21 : decode cX5_most 21 = .ok (.if_icmp .gt 39, 3) := by decide +kernel
theorem dX5_most_24 : decode cX5_most 24 = .ok (.aload_n 0, 1) := by decide +kernel
theorem dX5_most_25 : decode cX5_most 25 = .ok (.getfield 19, 3) := by decide +kernel
theorem dX5_most_28 : decode cX5_most 28 = .ok (.iload_n 2, 1) := by decide +kernel
theorem dX5_most_29 : decode cX5_most 29 = .ok (.iaload, 1) := by decide +kernel
theorem dX5_most_30 : decode cX5_most 30 = .ok (.ifCond .le 24, 3) := by decide +kernel
theorem dX5_most_33 : decode cX5_most 33 = .ok (.aload_n 0, 1) := by decide +kernel
theorem dX5_most_34 : decode cX5_most 34 = .ok (.iload_n 2, 1) := by decide +kernel
theorem dX5_most_35 : decode cX5_most 35 = .ok (.invokevirtual 161, 3) := by decide +kernel
theorem dX5_most_38 : decode cX5_most 38 = .ok (.istore_n 3, 1) := by decide +kernel
theorem dX5_most_39 : decode cX5_most 39 = .ok (.iload_n 3, 1) := by decide +kernel
theorem dX5_most_40 : decode cX5_most 40 = .ok (.bipush (-9), 2) := by decide +kernel
theorem dX5_most_42 : decode cX5_most 42 = .ok (.if_icmp .ne 6, 3) := by decide +kernel
theorem dX5_most_45 : decode cX5_most 45 = .ok (.bipush (-9), 2) := by decide +kernel
theorem dX5_most_47 : decode cX5_most 47 = .ok (.ireturn, 1) := by decide +kernel
theorem dX5_most_48 : decode cX5_most 48 = .ok (.iload_n 1, 1) := by decide +kernel
theorem dX5_most_49 : decode cX5_most 49 = .ok (.iload_n 3, 1) := by decide +kernel
theorem dX5_most_50 : decode cX5_most 50 = .ok (.invokestatic 90, 3) := by decide +kernel
theorem dX5_most_53 : decode cX5_most 53 = .ok (.istore_n 1, 1) := by decide +kernel
theorem dX5_most_54 : decode cX5_most 54 = .ok (.iinc 2 1, 3) := by decide +kernel
theorem dX5_most_57 : decode cX5_most 57 = .ok (.goto (-39), 3) := by decide +kernel
theorem dX5_most_60 : decode cX5_most 60 = .ok (.iload_n 1, 1) := by decide +kernel
theorem dX5_most_61 : decode cX5_most 61 = .ok (.ireturn, 1) := by decide +kernel
set_option maxRecDepth 20000 in
theorem ggX5_fewest_X5_isEmpty : GoodIn wsX5_fewest wsX5_isEmpty := goodIn_r _ [6, 1, 7, 8, 5, 9, 18, 19, 20, 21, 22, 23, 24, 25, 26, 27, 28, 29, 30, 31, 32, 33, 34, 35, 36, 37] (by decide +kernel) (by decide +kernel)
set_option maxRecDepth 20000 in
theorem gX5_fewest_X5_isEmpty : GoodIn wsX5_fewest (wsV RX5 144 RX5 yX5_isEmpty wsX5_isEmpty) := goodIn_app (goodIn_of _ (by decide +kernel)) ggX5_fewest_X5_isEmpty
set_option maxRecDepth 20000 in
theorem ggX5_fewest_X5_no : GoodIn wsX5_fewest wsX5_no := goodIn_r _ [13, 14, 18, 19, 20, 21, 22, 23, 24, 25, 26, 27, 28, 29, 30, 31, 32, 33, 34, 35, 36, 37] (by decide +kernel) (by decide +kernel)
set_option maxRecDepth 20000 in
theorem gX5_fewest_X5_no : GoodIn wsX5_fewest (wsV RX5 9 RX5 yX5_no wsX5_no) := goodIn_app (goodIn_of _ (by decide +kernel)) ggX5_fewest_X5_no
set_option maxRecDepth 20000 in
theorem ggX5_fewest_X5_left : GoodIn wsX5_fewest wsX5_left := goodIn_r _ [17] (by decide +kernel) (by decide +kernel)
set_option maxRecDepth 20000 in
theorem gX5_fewest_X5_left : GoodIn wsX5_fewest (va_wsS RX5 67 yX5_left wsX5_left) := goodIn_app (goodIn_of _ (by decide +kernel)) ggX5_fewest_X5_left
theorem dX5_fewest_0 : decode cX5_fewest 0 = .ok (.aload_n 0, 1) := by decide +kernel
theorem dX5_fewest_1 : decode cX5_fewest 1 = .ok (.invokevirtual 144, 3) := by decide +kernel
theorem dX5_fewest_4 : decode cX5_fewest 4 = .ok (.ifCond .eq 10, 3) := by decide +kernel
theorem dX5_fewest_7 : decode cX5_fewest 7 = .ok (.aload_n 0, 1) := by decide +kernel
theorem dX5_fewest_8 : decode cX5_fewest 8 = .ok (.bipush (-3), 2) := by decide +kernel
theorem dX5_fewest_10 : decode cX5_fewest 10 = .ok (.invokevirtual 9, 3) := by decide +kernel
theorem dX5_fewest_13 : decode cX5_fewest 13 = .ok (.ireturn, 1) := by decide +kernel
theorem dX5_fewest_14 : decode cX5_fewest 14 = .ok (.aload_n 0, 1) := by decide +kernel
theorem dX5_fewest_15 : decode cX5_fewest 15 = .ok (.getfield 19, 3) := by decide +kernel
theorem dX5_fewest_18 : decode cX5_fewest 18 = .ok (.bipush 41, 2) := by decide +kernel
theorem dX5_fewest_20 : decode cX5_fewest 20 = .ok (.iaload, 1) := by decide +kernel
theorem dX5_fewest_21 : decode cX5_fewest 21 = .ok (.aload_n 0, 1) := by decide +kernel
theorem dX5_fewest_22 : decode cX5_fewest 22 = .ok (.getfield 19, 3) := by decide +kernel
theorem dX5_fewest_25 : decode cX5_fewest 25 = .ok (.bipush 47, 2) := by decide +kernel
theorem dX5_fewest_27 : decode cX5_fewest 27 = .ok (.iaload, 1) := by decide +kernel
theorem dX5_fewest_28 : decode cX5_fewest 28 = .ok (.iconst 4, 1) := by decide +kernel
theorem dX5_fewest_29 : decode cX5_fewest 29 = .ok (.if_icmp .ne 7, 3) := by decide +kernel
theorem dX5_fewest_32 : decode cX5_fewest 32 = .ok (.iconst 1, 1) := by decide +kernel
theorem dX5_fewest_33 : decode cX5_fewest 33 = .ok (.goto 4, 3) := by decide +kernel
theorem dX5_fewest_36 : decode cX5_fewest 36 = .ok (.iconst 0, 1) := by decide +kernel
theorem dX5_fewest_37 : decode cX5_fewest 37 = .ok (.iadd, 1) := by decide +kernel
theorem dX5_fewest_38 : decode cX5_fewest 38 = .ok (.istore_n 1, 1) := by decide +kernel
theorem dX5_fewest_39 : decode cX5_fewest 39 = .ok (.iconst 0, 1) := by decide +kernel
theorem dX5_fewest_40 : decode cX5_fewest 40 = .ok (.istore_n 2, 1) := by decide +kernel
theorem dX5_fewest_41 : decode cX5_fewest 41 = .ok (.iconst 1, 1) := by decide +kernel
theorem dX5_fewest_42 : decode cX5_fewest 42 = .ok (.istore_n 3, 1) := by decide +kernel
theorem dX5_fewest_43 : decode cX5_fewest 43 = .ok (.iload_n 3, 1) := by decide +kernel
theorem dX5_fewest_44 : decode cX5_fewest 44 = .ok (.aload_n 0, 1) := by decide +kernel
theorem dX5_fewest_45 : decode cX5_fewest 45 = .ok (.getfield 19, 3) := by decide +kernel
theorem dX5_fewest_48 : decode cX5_fewest 48 = .ok (.invokestatic 67, 3) := by decide +kernel
theorem dX5_fewest_51 : decode cX5_fewest 51 = .ok (.if_icmp .ge 13, 3) := by decide +kernel
theorem dX5_fewest_54 : decode cX5_fewest 54 = .ok (.iload_n 3, 1) := by decide +kernel
theorem dX5_fewest_55 : decode cX5_fewest 55 = .ok (.iload_n 1, 1) := by decide +kernel
theorem dX5_fewest_56 : decode cX5_fewest 56 = .ok (.imul, 1) := by decide +kernel
theorem dX5_fewest_57 : decode cX5_fewest 57 = .ok (.istore_n 3, 1) := by decide +kernel
theorem dX5_fewest_58 : decode cX5_fewest 58 = .ok (.iinc 2 1, 3) := by decide +kernel
theorem dX5_fewest_61 : decode cX5_fewest 61 = .ok (.goto (-18), 3) := by decide +kernel
theorem dX5_fewest_64 : decode cX5_fewest 64 = .ok (.iload_n 2, 1) := by decide +kernel
theorem dX5_fewest_65 : decode cX5_fewest 65 = .ok (.ireturn, 1) := by decide +kernel
set_option maxRecDepth 20000 in
theorem ggX5_rule_X5_isNoSecond : GoodIn wsX5_rule wsX5_isNoSecond := goodIn_r _ [6] (by decide +kernel) (by decide +kernel)
set_option maxRecDepth 20000 in
theorem gX5_rule_X5_isNoSecond : GoodIn wsX5_rule (va_wsS RX5 93 yX5_isNoSecond wsX5_isNoSecond) := goodIn_app (goodIn_of _ (by decide +kernel)) ggX5_rule_X5_isNoSecond
set_option maxRecDepth 20000 in
theorem ggX5_rule_X5_isNoBand : GoodIn wsX5_rule wsX5_isNoBand := goodIn_r _ [10, 1, 61, 62, 63, 64, 65, 66, 67, 68, 69, 70, 71, 72, 73, 74, 75, 76, 77, 78, 79, 80] (by decide +kernel) (by decide +kernel)
set_option maxRecDepth 20000 in
theorem gX5_rule_X5_isNoBand : GoodIn wsX5_rule (wsV RX5 108 RX5 yX5_isNoBand wsX5_isNoBand) := goodIn_app (goodIn_of _ (by decide +kernel)) ggX5_rule_X5_isNoBand
set_option maxRecDepth 20000 in
theorem ggX5_rule_X5_no : GoodIn wsX5_rule wsX5_no := goodIn_r _ [14, 15, 61, 62, 63, 64, 65, 66, 67, 68, 69, 70, 71, 72, 73, 74, 75, 76, 77, 78, 79, 80] (by decide +kernel) (by decide +kernel)
set_option maxRecDepth 20000 in
theorem gX5_rule_X5_no : GoodIn wsX5_rule (wsV RX5 9 RX5 yX5_no wsX5_no) := goodIn_app (goodIn_of _ (by decide +kernel)) ggX5_rule_X5_no
set_option maxRecDepth 20000 in
theorem ggX5_rule_X5_move : GoodIn wsX5_rule wsX5_move := goodIn_r _ [18] (by decide +kernel) (by decide +kernel)
set_option maxRecDepth 20000 in
theorem gX5_rule_X5_move : GoodIn wsX5_rule (va_wsS RX5 63 yX5_move wsX5_move) := goodIn_app (goodIn_of _ (by decide +kernel)) ggX5_rule_X5_move
set_option maxRecDepth 20000 in
theorem ggX5_rule_X5_tries : GoodIn wsX5_rule wsX5_tries := goodIn_r _ [22, 23, 24, 25, 26, 27, 5, 28, 29, 30, 31, 32, 33, 1, 34, 35, 36, 37, 38, 39, 40, 41, 42, 43, 44, 45, 46, 47, 48, 49, 50, 51, 61, 62, 63, 64, 65, 66, 67, 68, 69, 70, 71, 72, 73, 74, 75, 76, 77, 78, 79, 80] (by decide +kernel) (by decide +kernel)
set_option maxRecDepth 20000 in
theorem gX5_rule_X5_tries : GoodIn wsX5_rule (wsV RX5 115 RX5 yX5_tries wsX5_tries) := goodIn_app (goodIn_of _ (by decide +kernel)) ggX5_rule_X5_tries
set_option maxRecDepth 20000 in
theorem ggX5_rule_X5_left : GoodIn wsX5_rule wsX5_left := goodIn_r _ [54] (by decide +kernel) (by decide +kernel)
set_option maxRecDepth 20000 in
theorem gX5_rule_X5_left : GoodIn wsX5_rule (va_wsS RX5 67 yX5_left wsX5_left) := goodIn_app (goodIn_of _ (by decide +kernel)) ggX5_rule_X5_left
set_option maxRecDepth 20000 in
theorem ggX5_rule_X5_shortest : GoodIn wsX5_rule wsX5_shortest := goodIn_r _ [57] (by decide +kernel) (by decide +kernel)
set_option maxRecDepth 20000 in
theorem gX5_rule_X5_shortest : GoodIn wsX5_rule (va_wsS RX5 164 yX5_shortest wsX5_shortest) := goodIn_app (goodIn_of _ (by decide +kernel)) ggX5_rule_X5_shortest
set_option maxRecDepth 20000 in
theorem ggX5_rule_X5_longest : GoodIn wsX5_rule wsX5_longest := goodIn_r _ [60] (by decide +kernel) (by decide +kernel)
set_option maxRecDepth 20000 in
theorem gX5_rule_X5_longest : GoodIn wsX5_rule (va_wsS RX5 167 yX5_longest wsX5_longest) := goodIn_app (goodIn_of _ (by decide +kernel)) ggX5_rule_X5_longest
theorem dX5_rule_0 : decode cX5_rule 0 = .ok (.iload_n 1, 1) := by decide +kernel
theorem dX5_rule_1 : decode cX5_rule 1 = .ok (.invokestatic 93, 3) := by decide +kernel
theorem dX5_rule_4 : decode cX5_rule 4 = .ok (.ifCond .ne 11, 3) := by decide +kernel
theorem dX5_rule_7 : decode cX5_rule 7 = .ok (.aload_n 0, 1) := by decide +kernel
theorem dX5_rule_8 : decode cX5_rule 8 = .ok (.iload_n 2, 1) := by decide +kernel
theorem dX5_rule_9 : decode cX5_rule 9 = .ok (.invokevirtual 108, 3) := by decide +kernel
theorem dX5_rule_12 : decode cX5_rule 12 = .ok (.ifCond .eq 9, 3) := by decide +kernel
theorem dX5_rule_15 : decode cX5_rule 15 = .ok (.aload_n 0, 1) := by decide +kernel
theorem dX5_rule_16 : decode cX5_rule 16 = .ok (.iconst (-1), 1) := by decide +kernel
theorem dX5_rule_17 : decode cX5_rule 17 = .ok (.invokevirtual 9, 3) := by decide +kernel
theorem dX5_rule_20 : decode cX5_rule 20 = .ok (.ireturn, 1) := by decide +kernel
theorem dX5_rule_21 : decode cX5_rule 21 = .ok (.iload_n 3, 1) := by decide +kernel
theorem dX5_rule_22 : decode cX5_rule 22 = .ok (.ifCond .lt 8, 3) := by decide +kernel
theorem dX5_rule_25 : decode cX5_rule 25 = .ok (.iload_n 3, 1) := by decide +kernel
theorem dX5_rule_26 : decode cX5_rule 26 = .ok (.iconst 2, 1) := by decide +kernel
theorem dX5_rule_27 : decode cX5_rule 27 = .ok (.if_icmp .le 10, 3) := by decide +kernel
theorem dX5_rule_30 : decode cX5_rule 30 = .ok (.aload_n 0, 1) := by decide +kernel
theorem dX5_rule_31 : decode cX5_rule 31 = .ok (.bipush (-2), 2) := by decide +kernel
theorem dX5_rule_33 : decode cX5_rule 33 = .ok (.invokevirtual 9, 3) := by decide +kernel
theorem dX5_rule_36 : decode cX5_rule 36 = .ok (.ireturn, 1) := by decide +kernel
theorem dX5_rule_37 : decode cX5_rule 37 = .ok (.aload_n 0, 1) := by decide +kernel
theorem dX5_rule_38 : decode cX5_rule 38 = .ok (.getfield 19, 3) := by decide +kernel
theorem dX5_rule_41 : decode cX5_rule 41 = .ok (.aload_n 0, 1) := by decide +kernel
theorem dX5_rule_42 : decode cX5_rule 42 = .ok (.getfield 34, 3) := by decide +kernel
theorem dX5_rule_45 : decode cX5_rule 45 = .ok (.invokestatic 63, 3) := by decide +kernel
theorem dX5_rule_48 : decode cX5_rule 48 = .ok (.aload_n 0, 1) := by decide +kernel
theorem dX5_rule_49 : decode cX5_rule 49 = .ok (.aload_n 0, 1) := by decide +kernel
theorem dX5_rule_50 : decode cX5_rule 50 = .ok (.getfield 34, 3) := by decide +kernel
theorem dX5_rule_53 : decode cX5_rule 53 = .ok (.iload_n 1, 1) := by decide +kernel
theorem dX5_rule_54 : decode cX5_rule 54 = .ok (.iload_n 2, 1) := by decide +kernel
theorem dX5_rule_55 : decode cX5_rule 55 = .ok (.invokevirtual 115, 3) := by decide +kernel
theorem dX5_rule_58 : decode cX5_rule 58 = .ok (.ifCond .ne 14, 3) := by decide +kernel
theorem dX5_rule_61 : decode cX5_rule 61 = .ok (.iload_n 3, 1) := by decide +kernel
theorem dX5_rule_62 : decode cX5_rule 62 = .ok (.ifCond .ne 7, 3) := by decide +kernel
theorem dX5_rule_65 : decode cX5_rule 65 = .ok (.iconst 0, 1) := by decide +kernel
theorem dX5_rule_66 : decode cX5_rule 66 = .ok (.goto 5, 3) := by decide +kernel
theorem dX5_rule_69 : decode cX5_rule 69 = .ok (.bipush (-9), 2) := by decide +kernel
theorem dX5_rule_71 : decode cX5_rule 71 = .ok (.ireturn, 1) := by decide +kernel
theorem dX5_rule_72 : decode cX5_rule 72 = .ok (.iload_n 3, 1) := by decide +kernel
theorem dX5_rule_73 : decode cX5_rule 73 = .ok (.ifCond .ne 13, 3) := by decide +kernel
theorem dX5_rule_76 : decode cX5_rule 76 = .ok (.aload_n 0, 1) := by decide +kernel
theorem dX5_rule_77 : decode cX5_rule 77 = .ok (.getfield 34, 3) := by decide +kernel
theorem dX5_rule_80 : decode cX5_rule 80 = .ok (.invokestatic 67, 3) := by decide +kernel
theorem dX5_rule_83 : decode cX5_rule 83 = .ok (.goto 25, 3) := by decide +kernel
theorem dX5_rule_86 : decode cX5_rule 86 = .ok (.iload_n 3, 1) := by decide +kernel
theorem dX5_rule_87 : decode cX5_rule 87 = .ok (.iconst 1, 1) := by decide +kernel
theorem dX5_rule_88 : decode cX5_rule 88 = .ok (.if_icmp .ne 13, 3) := by decide +kernel
theorem dX5_rule_91 : decode cX5_rule 91 = .ok (.aload_n 0, 1) := by decide +kernel
theorem dX5_rule_92 : decode cX5_rule 92 = .ok (.getfield 34, 3) := by decide +kernel
theorem dX5_rule_95 : decode cX5_rule 95 = .ok (.invokestatic 164, 3) := by decide +kernel
theorem dX5_rule_98 : decode cX5_rule 98 = .ok (.goto 10, 3) := by decide +kernel
theorem dX5_rule_101 : decode cX5_rule 101 = .ok (.aload_n 0, 1) := by decide +kernel
theorem dX5_rule_102 : decode cX5_rule 102 = .ok (.getfield 34, 3) := by decide +kernel
theorem dX5_rule_105 : decode cX5_rule 105 = .ok (.invokestatic 167, 3) := by decide +kernel
theorem dX5_rule_108 : decode cX5_rule 108 = .ok (.ireturn, 1) := by decide +kernel
theorem dX5_shortest_0 : decode cX5_shortest 0 = .ok (.iconst 1, 1) := by decide +kernel
theorem dX5_shortest_1 : decode cX5_shortest 1 = .ok (.istore_n 1, 1) := by decide +kernel
theorem dX5_shortest_2 : decode cX5_shortest 2 = .ok (.aload_n 0, 1) := by decide +kernel
theorem dX5_shortest_3 : decode cX5_shortest 3 = .ok (.iload_n 1, 1) := by decide +kernel
theorem dX5_shortest_4 : decode cX5_shortest 4 = .ok (.iaload, 1) := by decide +kernel
theorem dX5_shortest_5 : decode cX5_shortest 5 = .ok (.ifCond .ne 9, 3) := by decide +kernel
theorem dX5_shortest_8 : decode cX5_shortest 8 = .ok (.iinc 1 1, 3) := by decide +kernel
theorem dX5_shortest_11 : decode cX5_shortest 11 = .ok (.goto (-9), 3) := by decide +kernel
theorem dX5_shortest_14 : decode cX5_shortest 14 = .ok (.iload_n 1, 1) := by decide +kernel
theorem dX5_shortest_15 : decode cX5_shortest 15 = .ok (.ireturn, 1) := by decide +kernel
theorem dX5_longest_0 : decode cX5_longest 0 = .ok (.bipush 40, 2) := by decide +kernel
theorem dX5_longest_2 : decode cX5_longest 2 = .ok (.istore_n 1, 1) := by decide +kernel
theorem dX5_longest_3 : decode cX5_longest 3 = .ok (.aload_n 0, 1) := by decide +kernel
theorem dX5_longest_4 : decode cX5_longest 4 = .ok (.iload_n 1, 1) := by decide +kernel
theorem dX5_longest_5 : decode cX5_longest 5 = .ok (.iaload, 1) := by decide +kernel
theorem dX5_longest_6 : decode cX5_longest 6 = .ok (.ifCond .ne 9, 3) := by decide +kernel
theorem dX5_longest_9 : decode cX5_longest 9 = .ok (.iinc 1 (-1), 3) := by decide +kernel
theorem dX5_longest_12 : decode cX5_longest 12 = .ok (.goto (-9), 3) := by decide +kernel
theorem dX5_longest_15 : decode cX5_longest 15 = .ok (.iload_n 1, 1) := by decide +kernel
theorem dX5_longest_16 : decode cX5_longest 16 = .ok (.ireturn, 1) := by decide +kernel
set_option maxRecDepth 20000 in
theorem ggX5_twoEyes_X5_isNoSecond : GoodIn wsX5_twoEyes wsX5_isNoSecond := goodIn_r _ [5] (by decide +kernel) (by decide +kernel)
set_option maxRecDepth 20000 in
theorem gX5_twoEyes_X5_isNoSecond : GoodIn wsX5_twoEyes (va_wsS RX5 93 yX5_isNoSecond wsX5_isNoSecond) := goodIn_app (goodIn_of _ (by decide +kernel)) ggX5_twoEyes_X5_isNoSecond
set_option maxRecDepth 20000 in
theorem ggX5_twoEyes_X5_no : GoodIn wsX5_twoEyes wsX5_no := goodIn_r _ [9, 10, 33, 34, 35, 36, 37, 38, 39, 40, 41, 42, 43, 44, 45, 46, 47, 48, 49, 50, 51, 52] (by decide +kernel) (by decide +kernel)
set_option maxRecDepth 20000 in
theorem gX5_twoEyes_X5_no : GoodIn wsX5_twoEyes (wsV RX5 9 RX5 yX5_no wsX5_no) := goodIn_app (goodIn_of _ (by decide +kernel)) ggX5_twoEyes_X5_no
set_option maxRecDepth 20000 in
theorem ggX5_twoEyes_X5_tells : GoodIn wsX5_twoEyes wsX5_tells := goodIn_r _ [14, 1, 15, 16, 17, 18, 19, 20, 21, 22, 23, 24, 4, 25, 26, 27, 28, 29, 30, 31, 32, 33, 34, 35, 36, 37, 38, 39, 40, 41, 42, 43, 44, 45, 46, 47, 48, 49, 50, 51, 52] (by decide +kernel) (by decide +kernel)
set_option maxRecDepth 20000 in
theorem gX5_twoEyes_X5_tells : GoodIn wsX5_twoEyes (wsV RX5 97 RX5 yX5_tells wsX5_tells) := goodIn_app (goodIn_of _ (by decide +kernel)) ggX5_twoEyes_X5_tells
theorem dX5_twoEyes_0 : decode cX5_twoEyes 0 = .ok (.iload_n 1, 1) := by decide +kernel
theorem dX5_twoEyes_1 : decode cX5_twoEyes 1 = .ok (.invokestatic 93, 3) := by decide +kernel
theorem dX5_twoEyes_4 : decode cX5_twoEyes 4 = .ok (.ifCond .eq 9, 3) := by decide +kernel
theorem dX5_twoEyes_7 : decode cX5_twoEyes 7 = .ok (.aload_n 0, 1) := by decide +kernel
theorem dX5_twoEyes_8 : decode cX5_twoEyes 8 = .ok (.iconst (-1), 1) := by decide +kernel
theorem dX5_twoEyes_9 : decode cX5_twoEyes 9 = .ok (.invokevirtual 9, 3) := by decide +kernel
theorem dX5_twoEyes_12 : decode cX5_twoEyes 12 = .ok (.ireturn, 1) := by decide +kernel
theorem dX5_twoEyes_13 : decode cX5_twoEyes 13 = .ok (.iload_n 2, 1) := by decide +kernel
theorem dX5_twoEyes_14 : decode cX5_twoEyes 14 = .ok (.ifCond .lt 28, 3) := by decide +kernel
theorem dX5_twoEyes_17 : decode cX5_twoEyes 17 = .ok (.iload_n 2, 1) := by decide +kernel
theorem dX5_twoEyes_18 : decode cX5_twoEyes 18 = .ok (.iconst 4, 1) := by decide +kernel
theorem dX5_twoEyes_19 : decode cX5_twoEyes 19 = .ok (.if_icmp .gt 23, 3) := by decide +kernel
theorem dX5_twoEyes_22 : decode cX5_twoEyes 22 = .ok (.iload_n 3, 1) := by decide +kernel
theorem dX5_twoEyes_23 : decode cX5_twoEyes 23 = .ok (.ifCond .lt 19, 3) := by decide +kernel
theorem dX5_twoEyes_26 : decode cX5_twoEyes 26 = .ok (.iload_n 3, 1) := by decide +kernel
theorem dX5_twoEyes_27 : decode cX5_twoEyes 27 = .ok (.iconst 4, 1) := by decide +kernel
theorem dX5_twoEyes_28 : decode cX5_twoEyes 28 = .ok (.if_icmp .gt 14, 3) := by decide +kernel
theorem dX5_twoEyes_31 : decode cX5_twoEyes 31 = .ok (.iload 4, 2) := by decide +kernel
theorem dX5_twoEyes_33 : decode cX5_twoEyes 33 = .ok (.ifCond .eq 16, 3) := by decide +kernel
theorem dX5_twoEyes_36 : decode cX5_twoEyes 36 = .ok (.iload 4, 2) := by decide +kernel
theorem dX5_twoEyes_38 : decode cX5_twoEyes 38 = .ok (.iconst 1, 1) := by decide +kernel
theorem dX5_twoEyes_39 : decode cX5_twoEyes 39 = .ok (.if_icmp .eq 10, 3) := by decide +kernel
theorem dX5_twoEyes_42 : decode cX5_twoEyes 42 = .ok (.aload_n 0, 1) := by decide +kernel
theorem dX5_twoEyes_43 : decode cX5_twoEyes 43 = .ok (.bipush (-2), 2) := by decide +kernel
theorem dX5_twoEyes_45 : decode cX5_twoEyes 45 = .ok (.invokevirtual 9, 3) := by decide +kernel
theorem dX5_twoEyes_48 : decode cX5_twoEyes 48 = .ok (.ireturn, 1) := by decide +kernel
theorem dX5_twoEyes_49 : decode cX5_twoEyes 49 = .ok (.aload_n 0, 1) := by decide +kernel
theorem dX5_twoEyes_50 : decode cX5_twoEyes 50 = .ok (.getfield 19, 3) := by decide +kernel
theorem dX5_twoEyes_53 : decode cX5_twoEyes 53 = .ok (.bipush 47, 2) := by decide +kernel
theorem dX5_twoEyes_55 : decode cX5_twoEyes 55 = .ok (.iaload, 1) := by decide +kernel
theorem dX5_twoEyes_56 : decode cX5_twoEyes 56 = .ok (.istore 5, 2) := by decide +kernel
theorem dX5_twoEyes_58 : decode cX5_twoEyes 58 = .ok (.iconst 0, 1) := by decide +kernel
theorem dX5_twoEyes_59 : decode cX5_twoEyes 59 = .ok (.istore 6, 2) := by decide +kernel
theorem dX5_twoEyes_61 : decode cX5_twoEyes 61 = .ok (.bipush (-9), 2) := by decide +kernel
theorem dX5_twoEyes_63 : decode cX5_twoEyes 63 = .ok (.istore 7, 2) := by decide +kernel
theorem dX5_twoEyes_65 : decode cX5_twoEyes 65 = .ok (.iconst 1, 1) := by decide +kernel
theorem dX5_twoEyes_66 : decode cX5_twoEyes 66 = .ok (.istore 8, 2) := by decide +kernel
theorem dX5_twoEyes_68 : decode cX5_twoEyes 68 = .ok (.iload 8, 2) := by decide +kernel
theorem dX5_twoEyes_70 : decode cX5_twoEyes 70 = .ok (.bipush 40, 2) := by decide +kernel
theorem dX5_twoEyes_72 : decode cX5_twoEyes 72 = .ok (.if_icmp .gt 75, 3) := by decide +kernel
theorem dX5_twoEyes_75 : decode cX5_twoEyes 75 = .ok (.aload_n 0, 1) := by decide +kernel
theorem dX5_twoEyes_76 : decode cX5_twoEyes 76 = .ok (.getfield 19, 3) := by decide +kernel
theorem dX5_twoEyes_79 : decode cX5_twoEyes 79 = .ok (.bipush 47, 2) := by decide +kernel
theorem dX5_twoEyes_81 : decode cX5_twoEyes 81 = .ok (.iload_n 2, 1) := by decide +kernel
theorem dX5_twoEyes_82 : decode cX5_twoEyes 82 = .ok (.iastore, 1) := by decide +kernel
theorem dX5_twoEyes_83 : decode cX5_twoEyes 83 = .ok (.aload_n 0, 1) := by decide +kernel
theorem dX5_twoEyes_84 : decode cX5_twoEyes 84 = .ok (.iload_n 1, 1) := by decide +kernel
theorem dX5_twoEyes_85 : decode cX5_twoEyes 85 = .ok (.iload 8, 2) := by decide +kernel
theorem dX5_twoEyes_87 : decode cX5_twoEyes 87 = .ok (.invokevirtual 97, 3) := by decide +kernel
theorem dX5_twoEyes_90 : decode cX5_twoEyes 90 = .ok (.istore 9, 2) := by decide +kernel
theorem dX5_twoEyes_92 : decode cX5_twoEyes 92 = .ok (.aload_n 0, 1) := by decide +kernel
theorem dX5_twoEyes_93 : decode cX5_twoEyes 93 = .ok (.getfield 19, 3) := by decide +kernel
theorem dX5_twoEyes_96 : decode cX5_twoEyes 96 = .ok (.bipush 47, 2) := by decide +kernel
theorem dX5_twoEyes_98 : decode cX5_twoEyes 98 = .ok (.iload_n 3, 1) := by decide +kernel
theorem dX5_twoEyes_99 : decode cX5_twoEyes 99 = .ok (.iastore, 1) := by decide +kernel
theorem dX5_twoEyes_100 : decode cX5_twoEyes 100 = .ok (.aload_n 0, 1) := by decide +kernel
theorem dX5_twoEyes_101 : decode cX5_twoEyes 101 = .ok (.getfield 19, 3) := by decide +kernel
theorem dX5_twoEyes_104 : decode cX5_twoEyes 104 = .ok (.iload 8, 2) := by decide +kernel
theorem dX5_twoEyes_106 : decode cX5_twoEyes 106 = .ok (.iaload, 1) := by decide +kernel
theorem dX5_twoEyes_107 : decode cX5_twoEyes 107 = .ok (.ifCond .le 34, 3) := by decide +kernel
theorem dX5_twoEyes_110 : decode cX5_twoEyes 110 = .ok (.iload 9, 2) := by decide +kernel
theorem dX5_twoEyes_112 : decode cX5_twoEyes 112 = .ok (.aload_n 0, 1) := by decide +kernel
theorem dX5_twoEyes_113 : decode cX5_twoEyes 113 = .ok (.iload_n 1, 1) := by decide +kernel
theorem dX5_twoEyes_114 : decode cX5_twoEyes 114 = .ok (.iload 8, 2) := by decide +kernel
theorem dX5_twoEyes_116 : decode cX5_twoEyes 116 = .ok (.invokevirtual 97, 3) := by decide +kernel
theorem dX5_twoEyes_119 : decode cX5_twoEyes 119 = .ok (.if_icmp .eq 22, 3) := by decide +kernel
theorem dX5_twoEyes_122 : decode cX5_twoEyes 122 = .ok (.iinc 6 1, 3) := by decide +kernel
theorem dX5_twoEyes_125 : decode cX5_twoEyes 125 = .ok (.iload 7, 2) := by decide +kernel
theorem dX5_twoEyes_127 : decode cX5_twoEyes 127 = .ok (.bipush (-9), 2) := by decide +kernel
theorem dX5_twoEyes_129 : decode cX5_twoEyes 129 = .ok (.if_icmp .ne 8, 3) := by decide +kernel
theorem dX5_twoEyes_132 : decode cX5_twoEyes 132 = .ok (.iload 8, 2) := by decide +kernel
theorem dX5_twoEyes_134 : decode cX5_twoEyes 134 = .ok (.goto 5, 3) := by decide +kernel
theorem dX5_twoEyes_137 : decode cX5_twoEyes 137 = .ok (.iload 7, 2) := by decide +kernel
theorem dX5_twoEyes_139 : decode cX5_twoEyes 139 = .ok (.istore 7, 2) := by decide +kernel
theorem dX5_twoEyes_141 : decode cX5_twoEyes 141 = .ok (.iinc 8 1, 3) := by decide +kernel
theorem dX5_twoEyes_144 : decode cX5_twoEyes 144 = .ok (.goto (-76), 3) := by decide +kernel
theorem dX5_twoEyes_147 : decode cX5_twoEyes 147 = .ok (.aload_n 0, 1) := by decide +kernel
theorem dX5_twoEyes_148 : decode cX5_twoEyes 148 = .ok (.getfield 19, 3) := by decide +kernel
theorem dX5_twoEyes_151 : decode cX5_twoEyes 151 = .ok (.bipush 47, 2) := by decide +kernel
theorem dX5_twoEyes_153 : decode cX5_twoEyes 153 = .ok (.iload 5, 2) := by decide +kernel
theorem dX5_twoEyes_155 : decode cX5_twoEyes 155 = .ok (.iastore, 1) := by decide +kernel
theorem dX5_twoEyes_156 : decode cX5_twoEyes 156 = .ok (.iload 4, 2) := by decide +kernel
theorem dX5_twoEyes_158 : decode cX5_twoEyes 158 = .ok (.ifCond .ne 8, 3) := by decide +kernel
theorem dX5_twoEyes_161 : decode cX5_twoEyes 161 = .ok (.iload 6, 2) := by decide +kernel
theorem dX5_twoEyes_163 : decode cX5_twoEyes 163 = .ok (.goto 5, 3) := by decide +kernel
theorem dX5_twoEyes_166 : decode cX5_twoEyes 166 = .ok (.iload 7, 2) := by decide +kernel
theorem dX5_twoEyes_168 : decode cX5_twoEyes 168 = .ok (.ireturn, 1) := by decide +kernel
set_option maxRecDepth 20000 in
theorem ggX5_isAllSo_X5_tells : GoodIn wsX5_isAllSo wsX5_tells := goodIn_r _ [7, 8, 9, 10, 11, 12, 13, 14, 15, 16, 17, 18, 6, 19, 20, 21, 22, 23, 24, 25, 26, 27, 28, 29, 30, 31, 32, 33, 34, 35, 36, 37, 38, 39, 40, 41, 42, 43, 44, 45, 46] (by decide +kernel) (by decide +kernel)
set_option maxRecDepth 20000 in
theorem gX5_isAllSo_X5_tells : GoodIn wsX5_isAllSo (wsV RX5 97 RX5 yX5_tells wsX5_tells) := goodIn_app (goodIn_of _ (by decide +kernel)) ggX5_isAllSo_X5_tells
theorem dX5_isAllSo_0 : decode cX5_isAllSo 0 = .ok (.iconst 1, 1) := by decide +kernel
theorem dX5_isAllSo_1 : decode cX5_isAllSo 1 = .ok (.istore_n 1, 1) := by decide +kernel
theorem dX5_isAllSo_2 : decode cX5_isAllSo 2 = .ok (.iconst 0, 1) := by decide +kernel
theorem dX5_isAllSo_3 : decode cX5_isAllSo 3 = .ok (.istore_n 2, 1) := by decide +kernel
theorem dX5_isAllSo_4 : decode cX5_isAllSo 4 = .ok (.iload_n 2, 1) := by decide +kernel
theorem dX5_isAllSo_5 : decode cX5_isAllSo 5 = .ok (.aload_n 0, 1) := by decide +kernel
theorem dX5_isAllSo_6 : decode cX5_isAllSo 6 = .ok (.getfield 170, 3) := by decide +kernel
theorem dX5_isAllSo_9 : decode cX5_isAllSo 9 = .ok (.if_icmp .ge 48, 3) := by decide +kernel
theorem dX5_isAllSo_12 : decode cX5_isAllSo 12 = .ok (.iload_n 1, 1) := by decide +kernel
theorem dX5_isAllSo_13 : decode cX5_isAllSo 13 = .ok (.ifCond .eq 36, 3) := by decide +kernel
theorem dX5_isAllSo_16 : decode cX5_isAllSo 16 = .ok (.aload_n 0, 1) := by decide +kernel
theorem dX5_isAllSo_17 : decode cX5_isAllSo 17 = .ok (.aload_n 0, 1) := by decide +kernel
theorem dX5_isAllSo_18 : decode cX5_isAllSo 18 = .ok (.getfield 37, 3) := by decide +kernel
theorem dX5_isAllSo_21 : decode cX5_isAllSo 21 = .ok (.iload_n 2, 1) := by decide +kernel
theorem dX5_isAllSo_22 : decode cX5_isAllSo 22 = .ok (.iaload, 1) := by decide +kernel
theorem dX5_isAllSo_23 : decode cX5_isAllSo 23 = .ok (.aload_n 0, 1) := by decide +kernel
theorem dX5_isAllSo_24 : decode cX5_isAllSo 24 = .ok (.getfield 37, 3) := by decide +kernel
theorem dX5_isAllSo_27 : decode cX5_isAllSo 27 = .ok (.iload_n 2, 1) := by decide +kernel
theorem dX5_isAllSo_28 : decode cX5_isAllSo 28 = .ok (.iconst 1, 1) := by decide +kernel
theorem dX5_isAllSo_29 : decode cX5_isAllSo 29 = .ok (.iadd, 1) := by decide +kernel
theorem dX5_isAllSo_30 : decode cX5_isAllSo 30 = .ok (.iaload, 1) := by decide +kernel
theorem dX5_isAllSo_31 : decode cX5_isAllSo 31 = .ok (.invokevirtual 97, 3) := by decide +kernel
theorem dX5_isAllSo_34 : decode cX5_isAllSo 34 = .ok (.aload_n 0, 1) := by decide +kernel
theorem dX5_isAllSo_35 : decode cX5_isAllSo 35 = .ok (.getfield 37, 3) := by decide +kernel
theorem dX5_isAllSo_38 : decode cX5_isAllSo 38 = .ok (.iload_n 2, 1) := by decide +kernel
theorem dX5_isAllSo_39 : decode cX5_isAllSo 39 = .ok (.iconst 2, 1) := by decide +kernel
theorem dX5_isAllSo_40 : decode cX5_isAllSo 40 = .ok (.iadd, 1) := by decide +kernel
theorem dX5_isAllSo_41 : decode cX5_isAllSo 41 = .ok (.iaload, 1) := by decide +kernel
theorem dX5_isAllSo_42 : decode cX5_isAllSo 42 = .ok (.if_icmp .ne 7, 3) := by decide +kernel
theorem dX5_isAllSo_45 : decode cX5_isAllSo 45 = .ok (.iconst 1, 1) := by decide +kernel
theorem dX5_isAllSo_46 : decode cX5_isAllSo 46 = .ok (.goto 4, 3) := by decide +kernel
theorem dX5_isAllSo_49 : decode cX5_isAllSo 49 = .ok (.iconst 0, 1) := by decide +kernel
theorem dX5_isAllSo_50 : decode cX5_isAllSo 50 = .ok (.istore_n 1, 1) := by decide +kernel
theorem dX5_isAllSo_51 : decode cX5_isAllSo 51 = .ok (.iinc 2 3, 3) := by decide +kernel
theorem dX5_isAllSo_54 : decode cX5_isAllSo 54 = .ok (.goto (-50), 3) := by decide +kernel
theorem dX5_isAllSo_57 : decode cX5_isAllSo 57 = .ok (.iload_n 1, 1) := by decide +kernel
theorem dX5_isAllSo_58 : decode cX5_isAllSo 58 = .ok (.ireturn, 1) := by decide +kernel
set_option maxRecDepth 20000 in
theorem ggX5_whose_X5_no : GoodIn wsX5_whose wsX5_no := goodIn_r _ [8, 9, 39, 40, 41, 42, 43, 44, 45, 46, 47, 48, 49, 50, 51, 52, 53, 54, 55, 56, 57, 58] (by decide +kernel) (by decide +kernel)
set_option maxRecDepth 20000 in
theorem gX5_whose_X5_no : GoodIn wsX5_whose (wsV RX5 9 RX5 yX5_no wsX5_no) := goodIn_app (goodIn_of _ (by decide +kernel)) ggX5_whose_X5_no
set_option maxRecDepth 20000 in
theorem ggX5_whose_X5_isNoSecond : GoodIn wsX5_whose wsX5_isNoSecond := goodIn_r _ [12] (by decide +kernel) (by decide +kernel)
set_option maxRecDepth 20000 in
theorem gX5_whose_X5_isNoSecond : GoodIn wsX5_whose (va_wsS RX5 93 yX5_isNoSecond wsX5_isNoSecond) := goodIn_app (goodIn_of _ (by decide +kernel)) ggX5_whose_X5_isNoSecond
set_option maxRecDepth 20000 in
theorem ggX5_whose_X5_isAllSo : GoodIn wsX5_whose wsX5_isAllSo := goodIn_r _ [16, 1, 2, 17, 18, 19, 7, 20, 3, 21, 22, 23, 24, 25, 26, 27, 28, 29, 30, 31, 32, 33, 34, 35, 36, 37, 38, 39, 40, 41, 42, 43, 44, 45, 46, 47, 48, 49, 50, 51, 52, 53, 54, 55, 56, 57, 58] (by decide +kernel) (by decide +kernel)
set_option maxRecDepth 20000 in
theorem gX5_whose_X5_isAllSo : GoodIn wsX5_whose (wsV RX5 174 RX5 yX5_isAllSo wsX5_isAllSo) := goodIn_app (goodIn_of _ (by decide +kernel)) ggX5_whose_X5_isAllSo
theorem dX5_whose_0 : decode cX5_whose 0 = .ok (.iload_n 1, 1) := by decide +kernel
theorem dX5_whose_1 : decode cX5_whose 1 = .ok (.ifCond .eq 15, 3) := by decide +kernel
theorem dX5_whose_4 : decode cX5_whose 4 = .ok (.iload_n 1, 1) := by decide +kernel
theorem dX5_whose_5 : decode cX5_whose 5 = .ok (.iconst 1, 1) := by decide +kernel
theorem dX5_whose_6 : decode cX5_whose 6 = .ok (.if_icmp .eq 10, 3) := by decide +kernel
theorem dX5_whose_9 : decode cX5_whose 9 = .ok (.aload_n 0, 1) := by decide +kernel
theorem dX5_whose_10 : decode cX5_whose 10 = .ok (.bipush (-2), 2) := by decide +kernel
theorem dX5_whose_12 : decode cX5_whose 12 = .ok (.invokevirtual 9, 3) := by decide +kernel
theorem dX5_whose_15 : decode cX5_whose 15 = .ok (.ireturn, 1) := by decide +kernel
theorem dX5_whose_16 : decode cX5_whose 16 = .ok (.aload_n 0, 1) := by decide +kernel
theorem dX5_whose_17 : decode cX5_whose 17 = .ok (.getfield 170, 3) := by decide +kernel
theorem dX5_whose_20 : decode cX5_whose 20 = .ok (.iconst 3, 1) := by decide +kernel
theorem dX5_whose_21 : decode cX5_whose 21 = .ok (.irem, 1) := by decide +kernel
theorem dX5_whose_22 : decode cX5_whose 22 = .ok (.ifCond .ne 7, 3) := by decide +kernel
theorem dX5_whose_25 : decode cX5_whose 25 = .ok (.iconst 1, 1) := by decide +kernel
theorem dX5_whose_26 : decode cX5_whose 26 = .ok (.goto 4, 3) := by decide +kernel
theorem dX5_whose_29 : decode cX5_whose 29 = .ok (.iconst 0, 1) := by decide +kernel
theorem dX5_whose_30 : decode cX5_whose 30 = .ok (.istore_n 2, 1) := by decide +kernel
theorem dX5_whose_31 : decode cX5_whose 31 = .ok (.iconst 0, 1) := by decide +kernel
theorem dX5_whose_32 : decode cX5_whose 32 = .ok (.istore_n 3, 1) := by decide +kernel
theorem dX5_whose_33 : decode cX5_whose 33 = .ok (.iload_n 3, 1) := by decide +kernel
theorem dX5_whose_34 : decode cX5_whose 34 = .ok (.aload_n 0, 1) := by decide +kernel
theorem dX5_whose_35 : decode cX5_whose 35 = .ok (.getfield 170, 3) := by decide +kernel
theorem dX5_whose_38 : decode cX5_whose 38 = .ok (.if_icmp .ge 52, 3) := by decide +kernel
theorem dX5_whose_41 : decode cX5_whose 41 = .ok (.iload_n 2, 1) := by decide +kernel
theorem dX5_whose_42 : decode cX5_whose 42 = .ok (.ifCond .eq 40, 3) := by decide +kernel
theorem dX5_whose_45 : decode cX5_whose 45 = .ok (.iload_n 3, 1) := by decide +kernel
theorem dX5_whose_46 : decode cX5_whose 46 = .ok (.iconst 3, 1) := by decide +kernel
theorem dX5_whose_47 : decode cX5_whose 47 = .ok (.irem, 1) := by decide +kernel
theorem dX5_whose_48 : decode cX5_whose 48 = .ok (.iconst 2, 1) := by decide +kernel
theorem dX5_whose_49 : decode cX5_whose 49 = .ok (.if_icmp .ne 17, 3) := by decide +kernel
theorem dX5_whose_52 : decode cX5_whose 52 = .ok (.aload_n 0, 1) := by decide +kernel
theorem dX5_whose_53 : decode cX5_whose 53 = .ok (.getfield 37, 3) := by decide +kernel
theorem dX5_whose_56 : decode cX5_whose 56 = .ok (.iload_n 3, 1) := by decide +kernel
theorem dX5_whose_57 : decode cX5_whose 57 = .ok (.iaload, 1) := by decide +kernel
theorem dX5_whose_58 : decode cX5_whose 58 = .ok (.bipush 8, 2) := by decide +kernel
theorem dX5_whose_60 : decode cX5_whose 60 = .ok (.if_icmp .gt 22, 3) := by decide +kernel
theorem dX5_whose_63 : decode cX5_whose 63 = .ok (.goto 15, 3) := by decide +kernel
theorem dX5_whose_66 : decode cX5_whose 66 = .ok (.aload_n 0, 1) := by decide +kernel
theorem dX5_whose_67 : decode cX5_whose 67 = .ok (.getfield 37, 3) := by decide +kernel
theorem dX5_whose_70 : decode cX5_whose 70 = .ok (.iload_n 3, 1) := by decide +kernel
theorem dX5_whose_71 : decode cX5_whose 71 = .ok (.iaload, 1) := by decide +kernel
theorem dX5_whose_72 : decode cX5_whose 72 = .ok (.invokestatic 93, 3) := by decide +kernel
theorem dX5_whose_75 : decode cX5_whose 75 = .ok (.ifCond .ne 7, 3) := by decide +kernel
theorem dX5_whose_78 : decode cX5_whose 78 = .ok (.iconst 1, 1) := by decide +kernel
theorem dX5_whose_79 : decode cX5_whose 79 = .ok (.goto 4, 3) := by decide +kernel
theorem dX5_whose_82 : decode cX5_whose 82 = .ok (.iconst 0, 1) := by decide +kernel
theorem dX5_whose_83 : decode cX5_whose 83 = .ok (.istore_n 2, 1) := by decide +kernel
theorem dX5_whose_84 : decode cX5_whose 84 = .ok (.iinc 3 1, 3) := by decide +kernel
theorem dX5_whose_87 : decode cX5_whose 87 = .ok (.goto (-54), 3) := by decide +kernel
theorem dX5_whose_90 : decode cX5_whose 90 = .ok (.iload_n 2, 1) := by decide +kernel
theorem dX5_whose_91 : decode cX5_whose 91 = .ok (.ifCond .ne 10, 3) := by decide +kernel
theorem dX5_whose_94 : decode cX5_whose 94 = .ok (.aload_n 0, 1) := by decide +kernel
theorem dX5_whose_95 : decode cX5_whose 95 = .ok (.bipush (-3), 2) := by decide +kernel
theorem dX5_whose_97 : decode cX5_whose 97 = .ok (.invokevirtual 9, 3) := by decide +kernel
theorem dX5_whose_100 : decode cX5_whose 100 = .ok (.ireturn, 1) := by decide +kernel
theorem dX5_whose_101 : decode cX5_whose 101 = .ok (.iload_n 1, 1) := by decide +kernel
theorem dX5_whose_102 : decode cX5_whose 102 = .ok (.ifCond .ne 8, 3) := by decide +kernel
theorem dX5_whose_105 : decode cX5_whose 105 = .ok (.bipush 47, 2) := by decide +kernel
theorem dX5_whose_107 : decode cX5_whose 107 = .ok (.goto 5, 3) := by decide +kernel
theorem dX5_whose_110 : decode cX5_whose 110 = .ok (.bipush 43, 2) := by decide +kernel
theorem dX5_whose_112 : decode cX5_whose 112 = .ok (.istore_n 3, 1) := by decide +kernel
theorem dX5_whose_113 : decode cX5_whose 113 = .ok (.aload_n 0, 1) := by decide +kernel
theorem dX5_whose_114 : decode cX5_whose 114 = .ok (.getfield 19, 3) := by decide +kernel
theorem dX5_whose_117 : decode cX5_whose 117 = .ok (.iload_n 3, 1) := by decide +kernel
theorem dX5_whose_118 : decode cX5_whose 118 = .ok (.iaload, 1) := by decide +kernel
theorem dX5_whose_119 : decode cX5_whose 119 = .ok (.istore 4, 2) := by decide +kernel
theorem dX5_whose_121 : decode cX5_whose 121 = .ok (.iconst 0, 1) := by decide +kernel
theorem dX5_whose_122 : decode cX5_whose 122 = .ok (.istore 5, 2) := by decide +kernel
theorem dX5_whose_124 : decode cX5_whose 124 = .ok (.iconst 0, 1) := by decide +kernel
theorem dX5_whose_125 : decode cX5_whose 125 = .ok (.istore 6, 2) := by decide +kernel
theorem dX5_whose_127 : decode cX5_whose 127 = .ok (.iload 6, 2) := by decide +kernel
theorem dX5_whose_129 : decode cX5_whose 129 = .ok (.iload_n 1, 1) := by decide +kernel
theorem dX5_whose_130 : decode cX5_whose 130 = .ok (.ifCond .ne 7, 3) := by decide +kernel
theorem dX5_whose_133 : decode cX5_whose 133 = .ok (.iconst 5, 1) := by decide +kernel
theorem dX5_whose_134 : decode cX5_whose 134 = .ok (.goto 5, 3) := by decide +kernel
theorem dX5_whose_137 : decode cX5_whose 137 = .ok (.bipush 10, 2) := by decide +kernel
theorem dX5_whose_139 : decode cX5_whose 139 = .ok (.if_icmp .ge 37, 3) := by decide +kernel
theorem dX5_whose_142 : decode cX5_whose 142 = .ok (.aload_n 0, 1) := by decide +kernel
theorem dX5_whose_143 : decode cX5_whose 143 = .ok (.getfield 19, 3) := by decide +kernel
theorem dX5_whose_146 : decode cX5_whose 146 = .ok (.iload_n 3, 1) := by decide +kernel
theorem dX5_whose_147 : decode cX5_whose 147 = .ok (.iload 6, 2) := by decide +kernel
theorem dX5_whose_149 : decode cX5_whose 149 = .ok (.iastore, 1) := by decide +kernel
theorem dX5_whose_150 : decode cX5_whose 150 = .ok (.iload 5, 2) := by decide +kernel
theorem dX5_whose_152 : decode cX5_whose 152 = .ok (.aload_n 0, 1) := by decide +kernel
theorem dX5_whose_153 : decode cX5_whose 153 = .ok (.invokevirtual 174, 3) := by decide +kernel
theorem dX5_whose_156 : decode cX5_whose 156 = .ok (.ifCond .eq 10, 3) := by decide +kernel
theorem dX5_whose_159 : decode cX5_whose 159 = .ok (.iconst 1, 1) := by decide +kernel
theorem dX5_whose_160 : decode cX5_whose 160 = .ok (.iload 6, 2) := by decide +kernel
theorem dX5_whose_162 : decode cX5_whose 162 = .ok (.ishl, 1) := by decide +kernel
theorem dX5_whose_163 : decode cX5_whose 163 = .ok (.goto 4, 3) := by decide +kernel
theorem dX5_whose_166 : decode cX5_whose 166 = .ok (.iconst 0, 1) := by decide +kernel
theorem dX5_whose_167 : decode cX5_whose 167 = .ok (.ior, 1) := by decide +kernel
theorem dX5_whose_168 : decode cX5_whose 168 = .ok (.istore 5, 2) := by decide +kernel
theorem dX5_whose_170 : decode cX5_whose 170 = .ok (.iinc 6 1, 3) := by decide +kernel
theorem dX5_whose_173 : decode cX5_whose 173 = .ok (.goto (-46), 3) := by decide +kernel
theorem dX5_whose_176 : decode cX5_whose 176 = .ok (.aload_n 0, 1) := by decide +kernel
theorem dX5_whose_177 : decode cX5_whose 177 = .ok (.getfield 19, 3) := by decide +kernel
theorem dX5_whose_180 : decode cX5_whose 180 = .ok (.iload_n 3, 1) := by decide +kernel
theorem dX5_whose_181 : decode cX5_whose 181 = .ok (.iload 4, 2) := by decide +kernel
theorem dX5_whose_183 : decode cX5_whose 183 = .ok (.iastore, 1) := by decide +kernel
theorem dX5_whose_184 : decode cX5_whose 184 = .ok (.iload 5, 2) := by decide +kernel
theorem dX5_whose_186 : decode cX5_whose 186 = .ok (.ireturn, 1) := by decide +kernel
set_option maxRecDepth 20000 in
theorem ggX5_limit_X5_no : GoodIn wsX5_limit wsX5_no := goodIn_r _ [6, 7, 21, 22, 23, 24, 25, 26, 27, 28, 29, 30, 31, 32, 33, 34, 35, 36, 37, 38, 39, 40] (by decide +kernel) (by decide +kernel)
set_option maxRecDepth 20000 in
theorem gX5_limit_X5_no : GoodIn wsX5_limit (wsV RX5 9 RX5 yX5_no wsX5_no) := goodIn_app (goodIn_of _ (by decide +kernel)) ggX5_limit_X5_no
set_option maxRecDepth 20000 in
theorem ggX5_limit_X5_isEmpty : GoodIn wsX5_limit wsX5_isEmpty := goodIn_r _ [11, 1, 12, 13, 5, 14, 21, 22, 23, 24, 25, 26, 27, 28, 29, 30, 31, 32, 33, 34, 35, 36, 37, 38, 39, 40] (by decide +kernel) (by decide +kernel)
set_option maxRecDepth 20000 in
theorem gX5_limit_X5_isEmpty : GoodIn wsX5_limit (wsV RX5 144 RX5 yX5_isEmpty wsX5_isEmpty) := goodIn_app (goodIn_of _ (by decide +kernel)) ggX5_limit_X5_isEmpty
set_option maxRecDepth 20000 in
theorem ggX5_limit_X5_shortest : GoodIn wsX5_limit wsX5_shortest := goodIn_r _ [17] (by decide +kernel) (by decide +kernel)
set_option maxRecDepth 20000 in
theorem gX5_limit_X5_shortest : GoodIn wsX5_limit (va_wsS RX5 164 yX5_shortest wsX5_shortest) := goodIn_app (goodIn_of _ (by decide +kernel)) ggX5_limit_X5_shortest
set_option maxRecDepth 20000 in
theorem ggX5_limit_X5_longest : GoodIn wsX5_limit wsX5_longest := goodIn_r _ [20] (by decide +kernel) (by decide +kernel)
set_option maxRecDepth 20000 in
theorem gX5_limit_X5_longest : GoodIn wsX5_limit (va_wsS RX5 167 yX5_longest wsX5_longest) := goodIn_app (goodIn_of _ (by decide +kernel)) ggX5_limit_X5_longest
set_option maxRecDepth 20000 in
theorem ggX5_limit_X5_weight : GoodIn wsX5_limit wsX5_weight := goodIn_r _ [14] (by decide +kernel) (by decide +kernel)
set_option maxRecDepth 20000 in
theorem gX5_limit_X5_weight : GoodIn wsX5_limit (va_wsS RX5 71 yX5_weight wsX5_weight) := goodIn_app (goodIn_of _ (by decide +kernel)) ggX5_limit_X5_weight
theorem dX5_limit_0 : decode cX5_limit 0 = .ok (.iload_n 1, 1) := by decide +kernel
theorem dX5_limit_1 : decode cX5_limit 1 = .ok (.ifCond .lt 8, 3) := by decide +kernel
theorem dX5_limit_4 : decode cX5_limit 4 = .ok (.iload_n 1, 1) := by decide +kernel
theorem dX5_limit_5 : decode cX5_limit 5 = .ok (.iconst 2, 1) := by decide +kernel
theorem dX5_limit_6 : decode cX5_limit 6 = .ok (.if_icmp .le 10, 3) := by decide +kernel
theorem dX5_limit_9 : decode cX5_limit 9 = .ok (.aload_n 0, 1) := by decide +kernel
theorem dX5_limit_10 : decode cX5_limit 10 = .ok (.bipush (-2), 2) := by decide +kernel
theorem dX5_limit_12 : decode cX5_limit 12 = .ok (.invokevirtual 9, 3) := by decide +kernel
theorem dX5_limit_15 : decode cX5_limit 15 = .ok (.ireturn, 1) := by decide +kernel
theorem dX5_limit_16 : decode cX5_limit 16 = .ok (.aload_n 0, 1) := by decide +kernel
theorem dX5_limit_17 : decode cX5_limit 17 = .ok (.invokevirtual 144, 3) := by decide +kernel
theorem dX5_limit_20 : decode cX5_limit 20 = .ok (.ifCond .eq 6, 3) := by decide +kernel
theorem dX5_limit_23 : decode cX5_limit 23 = .ok (.bipush (-9), 2) := by decide +kernel
theorem dX5_limit_25 : decode cX5_limit 25 = .ok (.ireturn, 1) := by decide +kernel
theorem dX5_limit_26 : decode cX5_limit 26 = .ok (.iload_n 1, 1) := by decide +kernel
theorem dX5_limit_27 : decode cX5_limit 27 = .ok (.iconst 2, 1) := by decide +kernel
theorem dX5_limit_28 : decode cX5_limit 28 = .ok (.if_icmp .ge 25, 3) := by decide +kernel
theorem dX5_limit_31 : decode cX5_limit 31 = .ok (.iload_n 1, 1) := by decide +kernel
theorem dX5_limit_32 : decode cX5_limit 32 = .ok (.ifCond .ne 13, 3) := by decide +kernel
theorem dX5_limit_35 : decode cX5_limit 35 = .ok (.aload_n 0, 1) := by decide +kernel
theorem dX5_limit_36 : decode cX5_limit 36 = .ok (.getfield 19, 3) := by decide +kernel
theorem dX5_limit_39 : decode cX5_limit 39 = .ok (.invokestatic 164, 3) := by decide +kernel
theorem dX5_limit_42 : decode cX5_limit 42 = .ok (.goto 10, 3) := by decide +kernel
theorem dX5_limit_45 : decode cX5_limit 45 = .ok (.aload_n 0, 1) := by decide +kernel
theorem dX5_limit_46 : decode cX5_limit 46 = .ok (.getfield 19, 3) := by decide +kernel
theorem dX5_limit_49 : decode cX5_limit 49 = .ok (.invokestatic 167, 3) := by decide +kernel
theorem dX5_limit_52 : decode cX5_limit 52 = .ok (.ireturn, 1) := by decide +kernel
theorem dX5_limit_53 : decode cX5_limit 53 = .ok (.iconst 0, 1) := by decide +kernel
theorem dX5_limit_54 : decode cX5_limit 54 = .ok (.istore_n 2, 1) := by decide +kernel
theorem dX5_limit_55 : decode cX5_limit 55 = .ok (.iconst 0, 1) := by decide +kernel
theorem dX5_limit_56 : decode cX5_limit 56 = .ok (.istore_n 3, 1) := by decide +kernel
theorem dX5_limit_57 : decode cX5_limit 57 = .ok (.iconst 2, 1) := by decide +kernel
theorem dX5_limit_58 : decode cX5_limit 58 = .ok (.iload_n 3, 1) := by decide +kernel
theorem dX5_limit_59 : decode cX5_limit 59 = .ok (.imul, 1) := by decide +kernel
theorem dX5_limit_60 : decode cX5_limit 60 = .ok (.aload_n 0, 1) := by decide +kernel
theorem dX5_limit_61 : decode cX5_limit 61 = .ok (.getfield 19, 3) := by decide +kernel
theorem dX5_limit_64 : decode cX5_limit 64 = .ok (.invokestatic 71, 3) := by decide +kernel
theorem dX5_limit_67 : decode cX5_limit 67 = .ok (.if_icmp .ge 18, 3) := by decide +kernel
theorem dX5_limit_70 : decode cX5_limit 70 = .ok (.iinc 2 1, 3) := by decide +kernel
theorem dX5_limit_73 : decode cX5_limit 73 = .ok (.iload_n 3, 1) := by decide +kernel
theorem dX5_limit_74 : decode cX5_limit 74 = .ok (.aload_n 0, 1) := by decide +kernel
theorem dX5_limit_75 : decode cX5_limit 75 = .ok (.getfield 19, 3) := by decide +kernel
theorem dX5_limit_78 : decode cX5_limit 78 = .ok (.iload_n 2, 1) := by decide +kernel
theorem dX5_limit_79 : decode cX5_limit 79 = .ok (.iaload, 1) := by decide +kernel
theorem dX5_limit_80 : decode cX5_limit 80 = .ok (.iadd, 1) := by decide +kernel
theorem dX5_limit_81 : decode cX5_limit 81 = .ok (.istore_n 3, 1) := by decide +kernel
theorem dX5_limit_82 : decode cX5_limit 82 = .ok (.goto (-25), 3) := by decide +kernel
theorem dX5_limit_85 : decode cX5_limit 85 = .ok (.iload_n 2, 1) := by decide +kernel
theorem dX5_limit_86 : decode cX5_limit 86 = .ok (.ireturn, 1) := by decide +kernel
set_option maxRecDepth 20000 in
theorem ggX5_row_X5_no : GoodIn wsX5_row wsX5_no := goodIn_r _ [7, 8, 9, 10, 11, 12, 13, 14, 15, 16, 17, 18, 19, 20, 21, 22, 23, 24, 25, 26, 27, 28] (by decide +kernel) (by decide +kernel)
set_option maxRecDepth 20000 in
theorem gX5_row_X5_no : GoodIn wsX5_row (wsV RX5 9 RX5 yX5_no wsX5_no) := goodIn_app (goodIn_of _ (by decide +kernel)) ggX5_row_X5_no
theorem dX5_row_0 : decode cX5_row 0 = .ok (.iload_n 1, 1) := by decide +kernel
theorem dX5_row_1 : decode cX5_row 1 = .ok (.ifCond .ge 10, 3) := by decide +kernel
theorem dX5_row_4 : decode cX5_row 4 = .ok (.aload_n 0, 1) := by decide +kernel
theorem dX5_row_5 : decode cX5_row 5 = .ok (.bipush (-4), 2) := by decide +kernel
theorem dX5_row_7 : decode cX5_row 7 = .ok (.invokevirtual 9, 3) := by decide +kernel
theorem dX5_row_10 : decode cX5_row 10 = .ok (.ireturn, 1) := by decide +kernel
theorem dX5_row_11 : decode cX5_row 11 = .ok (.iload_n 1, 1) := by decide +kernel
theorem dX5_row_12 : decode cX5_row 12 = .ok (.bipush 99, 2) := by decide +kernel
theorem dX5_row_14 : decode cX5_row 14 = .ok (.if_icmp .gt 12, 3) := by decide +kernel
theorem dX5_row_17 : decode cX5_row 17 = .ok (.aload_n 0, 1) := by decide +kernel
theorem dX5_row_18 : decode cX5_row 18 = .ok (.getfield 170, 3) := by decide +kernel
theorem dX5_row_21 : decode cX5_row 21 = .ok (.bipush 12, 2) := by decide +kernel
theorem dX5_row_23 : decode cX5_row 23 = .ok (.if_icmp .ne 10, 3) := by decide +kernel
theorem dX5_row_26 : decode cX5_row 26 = .ok (.aload_n 0, 1) := by decide +kernel
theorem dX5_row_27 : decode cX5_row 27 = .ok (.bipush (-6), 2) := by decide +kernel
theorem dX5_row_29 : decode cX5_row 29 = .ok (.invokevirtual 9, 3) := by decide +kernel
theorem dX5_row_32 : decode cX5_row 32 = .ok (.ireturn, 1) := by decide +kernel
theorem dX5_row_33 : decode cX5_row 33 = .ok (.aload_n 0, 1) := by decide +kernel
theorem dX5_row_34 : decode cX5_row 34 = .ok (.getfield 37, 3) := by decide +kernel
theorem dX5_row_37 : decode cX5_row 37 = .ok (.aload_n 0, 1) := by decide +kernel
theorem dX5_row_38 : decode cX5_row 38 = .ok (.getfield 170, 3) := by decide +kernel
theorem dX5_row_41 : decode cX5_row 41 = .ok (.iload_n 1, 1) := by decide +kernel
theorem dX5_row_42 : decode cX5_row 42 = .ok (.iastore, 1) := by decide +kernel
theorem dX5_row_43 : decode cX5_row 43 = .ok (.aload_n 0, 1) := by decide +kernel
theorem dX5_row_44 : decode cX5_row 44 = .ok (.dup, 1) := by decide +kernel
theorem dX5_row_45 : decode cX5_row 45 = .ok (.getfield 170, 3) := by decide +kernel
theorem dX5_row_48 : decode cX5_row 48 = .ok (.iconst 1, 1) := by decide +kernel
theorem dX5_row_49 : decode cX5_row 49 = .ok (.iadd, 1) := by decide +kernel
theorem dX5_row_50 : decode cX5_row 50 = .ok (.putfield 170, 3) := by decide +kernel
theorem dX5_row_53 : decode cX5_row 53 = .ok (.aload_n 0, 1) := by decide +kernel
theorem dX5_row_54 : decode cX5_row 54 = .ok (.getfield 170, 3) := by decide +kernel
theorem dX5_row_57 : decode cX5_row 57 = .ok (.ireturn, 1) := by decide +kernel
set_option maxRecDepth 20000 in
theorem ggX5_tryRow_X5_move : GoodIn wsX5_tryRow wsX5_move := goodIn_r _ [8] (by decide +kernel) (by decide +kernel)
set_option maxRecDepth 20000 in
theorem gX5_tryRow_X5_move : GoodIn wsX5_tryRow (va_wsS RX5 63 yX5_move wsX5_move) := goodIn_app (goodIn_of _ (by decide +kernel)) ggX5_tryRow_X5_move
set_option maxRecDepth 20000 in
theorem ggX5_tryRow_X5_isNoSecond : GoodIn wsX5_tryRow wsX5_isNoSecond := goodIn_r _ [11] (by decide +kernel) (by decide +kernel)
set_option maxRecDepth 20000 in
theorem gX5_tryRow_X5_isNoSecond : GoodIn wsX5_tryRow (va_wsS RX5 93 yX5_isNoSecond wsX5_isNoSecond) := goodIn_app (goodIn_of _ (by decide +kernel)) ggX5_tryRow_X5_isNoSecond
set_option maxRecDepth 20000 in
theorem ggX5_tryRow_X5_isNoBand : GoodIn wsX5_tryRow wsX5_isNoBand := goodIn_r _ [15, 1, 49, 50, 51, 52, 53, 54, 55, 56, 57, 58, 59, 60, 61, 62, 63, 64, 65, 66, 67, 68] (by decide +kernel) (by decide +kernel)
set_option maxRecDepth 20000 in
theorem gX5_tryRow_X5_isNoBand : GoodIn wsX5_tryRow (wsV RX5 108 RX5 yX5_isNoBand wsX5_isNoBand) := goodIn_app (goodIn_of _ (by decide +kernel)) ggX5_tryRow_X5_isNoBand
set_option maxRecDepth 20000 in
theorem ggX5_tryRow_X5_tries : GoodIn wsX5_tryRow wsX5_tries := goodIn_r _ [19, 20, 21, 22, 23, 24, 7, 25, 26, 27, 28, 29, 30, 1, 31, 32, 33, 34, 35, 36, 37, 38, 39, 40, 41, 42, 43, 44, 45, 46, 47, 48, 49, 50, 51, 52, 53, 54, 55, 56, 57, 58, 59, 60, 61, 62, 63, 64, 65, 66, 67, 68] (by decide +kernel) (by decide +kernel)
set_option maxRecDepth 20000 in
theorem gX5_tryRow_X5_tries : GoodIn wsX5_tryRow (wsV RX5 115 RX5 yX5_tries wsX5_tries) := goodIn_app (goodIn_of _ (by decide +kernel)) ggX5_tryRow_X5_tries
theorem dX5_tryRow_0 : decode cX5_tryRow 0 = .ok (.aload_n 0, 1) := by decide +kernel
theorem dX5_tryRow_1 : decode cX5_tryRow 1 = .ok (.getfield 19, 3) := by decide +kernel
theorem dX5_tryRow_4 : decode cX5_tryRow 4 = .ok (.aload_n 0, 1) := by decide +kernel
theorem dX5_tryRow_5 : decode cX5_tryRow 5 = .ok (.getfield 34, 3) := by decide +kernel
theorem dX5_tryRow_8 : decode cX5_tryRow 8 = .ok (.invokestatic 63, 3) := by decide +kernel
theorem dX5_tryRow_11 : decode cX5_tryRow 11 = .ok (.iconst 0, 1) := by decide +kernel
theorem dX5_tryRow_12 : decode cX5_tryRow 12 = .ok (.istore_n 1, 1) := by decide +kernel
theorem dX5_tryRow_13 : decode cX5_tryRow 13 = .ok (.iload_n 1, 1) := by decide +kernel
theorem dX5_tryRow_14 : decode cX5_tryRow 14 = .ok (.aload_n 0, 1) := by decide +kernel
theorem dX5_tryRow_15 : decode cX5_tryRow 15 = .ok (.getfield 170, 3) := by decide +kernel
theorem dX5_tryRow_18 : decode cX5_tryRow 18 = .ok (.if_icmp .ge 75, 3) := by decide +kernel
theorem dX5_tryRow_21 : decode cX5_tryRow 21 = .ok (.iload_n 1, 1) := by decide +kernel
theorem dX5_tryRow_22 : decode cX5_tryRow 22 = .ok (.iconst 1, 1) := by decide +kernel
theorem dX5_tryRow_23 : decode cX5_tryRow 23 = .ok (.iadd, 1) := by decide +kernel
theorem dX5_tryRow_24 : decode cX5_tryRow 24 = .ok (.aload_n 0, 1) := by decide +kernel
theorem dX5_tryRow_25 : decode cX5_tryRow 25 = .ok (.getfield 170, 3) := by decide +kernel
theorem dX5_tryRow_28 : decode cX5_tryRow 28 = .ok (.if_icmp .eq 55, 3) := by decide +kernel
theorem dX5_tryRow_31 : decode cX5_tryRow 31 = .ok (.aload_n 0, 1) := by decide +kernel
theorem dX5_tryRow_32 : decode cX5_tryRow 32 = .ok (.getfield 37, 3) := by decide +kernel
theorem dX5_tryRow_35 : decode cX5_tryRow 35 = .ok (.iload_n 1, 1) := by decide +kernel
theorem dX5_tryRow_36 : decode cX5_tryRow 36 = .ok (.iaload, 1) := by decide +kernel
theorem dX5_tryRow_37 : decode cX5_tryRow 37 = .ok (.invokestatic 93, 3) := by decide +kernel
theorem dX5_tryRow_40 : decode cX5_tryRow 40 = .ok (.ifCond .ne 43, 3) := by decide +kernel
theorem dX5_tryRow_43 : decode cX5_tryRow 43 = .ok (.aload_n 0, 1) := by decide +kernel
theorem dX5_tryRow_44 : decode cX5_tryRow 44 = .ok (.aload_n 0, 1) := by decide +kernel
theorem dX5_tryRow_45 : decode cX5_tryRow 45 = .ok (.getfield 37, 3) := by decide +kernel
theorem dX5_tryRow_48 : decode cX5_tryRow 48 = .ok (.iload_n 1, 1) := by decide +kernel
theorem dX5_tryRow_49 : decode cX5_tryRow 49 = .ok (.iconst 1, 1) := by decide +kernel
theorem dX5_tryRow_50 : decode cX5_tryRow 50 = .ok (.iadd, 1) := by decide +kernel
theorem dX5_tryRow_51 : decode cX5_tryRow 51 = .ok (.iaload, 1) := by decide +kernel
theorem dX5_tryRow_52 : decode cX5_tryRow 52 = .ok (.invokevirtual 108, 3) := by decide +kernel
theorem dX5_tryRow_55 : decode cX5_tryRow 55 = .ok (.ifCond .ne 28, 3) := by decide +kernel
theorem dX5_tryRow_58 : decode cX5_tryRow 58 = .ok (.aload_n 0, 1) := by decide +kernel
theorem dX5_tryRow_59 : decode cX5_tryRow 59 = .ok (.aload_n 0, 1) := by decide +kernel
theorem dX5_tryRow_60 : decode cX5_tryRow 60 = .ok (.getfield 34, 3) := by decide +kernel
theorem dX5_tryRow_63 : decode cX5_tryRow 63 = .ok (.aload_n 0, 1) := by decide +kernel
theorem dX5_tryRow_64 : decode cX5_tryRow 64 = .ok (.getfield 37, 3) := by decide +kernel
theorem dX5_tryRow_67 : decode cX5_tryRow 67 = .ok (.iload_n 1, 1) := by decide +kernel
theorem dX5_tryRow_68 : decode cX5_tryRow 68 = .ok (.iaload, 1) := by decide +kernel
theorem dX5_tryRow_69 : decode cX5_tryRow 69 = .ok (.aload_n 0, 1) := by decide +kernel
theorem dX5_tryRow_70 : decode cX5_tryRow 70 = .ok (.getfield 37, 3) := by decide +kernel
theorem dX5_tryRow_73 : decode cX5_tryRow 73 = .ok (.iload_n 1, 1) := by decide +kernel
theorem dX5_tryRow_74 : decode cX5_tryRow 74 = .ok (.iconst 1, 1) := by decide +kernel
theorem dX5_tryRow_75 : decode cX5_tryRow 75 = .ok (.iadd, 1) := by decide +kernel
theorem dX5_tryRow_76 : decode cX5_tryRow 76 = .ok (.iaload, 1) := by decide +kernel
theorem dX5_tryRow_77 : decode cX5_tryRow 77 = .ok (.invokevirtual 115, 3) := by decide +kernel
theorem dX5_tryRow_80 : decode cX5_tryRow 80 = .ok (.ifCond .ne 7, 3) := by decide +kernel
theorem dX5_tryRow_83 : decode cX5_tryRow 83 = .ok (.iload_n 1, 1) := by decide +kernel
theorem dX5_tryRow_84 : decode cX5_tryRow 84 = .ok (.iconst 2, 1) := by decide +kernel
theorem dX5_tryRow_85 : decode cX5_tryRow 85 = .ok (.idiv, 1) := by decide +kernel
theorem dX5_tryRow_86 : decode cX5_tryRow 86 = .ok (.ireturn, 1) := by decide +kernel
theorem dX5_tryRow_87 : decode cX5_tryRow 87 = .ok (.iinc 1 2, 3) := by decide +kernel
theorem dX5_tryRow_90 : decode cX5_tryRow 90 = .ok (.goto (-77), 3) := by decide +kernel
theorem dX5_tryRow_93 : decode cX5_tryRow 93 = .ok (.bipush (-9), 2) := by decide +kernel
theorem dX5_tryRow_95 : decode cX5_tryRow 95 = .ok (.ireturn, 1) := by decide +kernel
set_option maxRecDepth 20000 in
theorem ggX5_stays_X5_tryRow : GoodIn wsX5_stays wsX5_tryRow := goodIn_r _ [6, 7, 1, 8, 9, 10, 11, 5, 12, 13, 14, 15, 16, 17, 18, 19, 20, 21, 22, 23, 24, 25, 26, 27, 28, 29, 30, 31, 32, 33, 34, 35, 36, 37, 38, 39, 40, 41, 42, 43, 44, 45, 46, 47, 48, 49, 50, 51, 52, 56, 57, 58, 59, 60, 61, 62, 63, 64, 65, 66, 67, 68, 69, 70, 71, 72, 73, 74, 75] (by decide +kernel) (by decide +kernel)
set_option maxRecDepth 20000 in
theorem gX5_stays_X5_tryRow : GoodIn wsX5_stays (wsV RX5 177 RX5 yX5_tryRow wsX5_tryRow) := goodIn_app (goodIn_of _ (by decide +kernel)) ggX5_stays_X5_tryRow
set_option maxRecDepth 20000 in
theorem ggX5_stays_X5_left : GoodIn wsX5_stays wsX5_left := goodIn_r _ [55] (by decide +kernel) (by decide +kernel)
set_option maxRecDepth 20000 in
theorem gX5_stays_X5_left : GoodIn wsX5_stays (va_wsS RX5 67 yX5_left wsX5_left) := goodIn_app (goodIn_of _ (by decide +kernel)) ggX5_stays_X5_left
theorem dX5_stays_0 : decode cX5_stays 0 = .ok (.aload_n 0, 1) := by decide +kernel
theorem dX5_stays_1 : decode cX5_stays 1 = .ok (.invokevirtual 177, 3) := by decide +kernel
theorem dX5_stays_4 : decode cX5_stays 4 = .ok (.pop, 1) := by decide +kernel
theorem dX5_stays_5 : decode cX5_stays 5 = .ok (.aload_n 0, 1) := by decide +kernel
theorem dX5_stays_6 : decode cX5_stays 6 = .ok (.getfield 34, 3) := by decide +kernel
theorem dX5_stays_9 : decode cX5_stays 9 = .ok (.invokestatic 67, 3) := by decide +kernel
theorem dX5_stays_12 : decode cX5_stays 12 = .ok (.ireturn, 1) := by decide +kernel
set_option maxRecDepth 20000 in
theorem ggX5_judge_X5_tryRow : GoodIn wsX5_judge wsX5_tryRow := goodIn_r _ [6, 7, 8, 1, 9, 10, 11, 5, 12, 13, 14, 15, 16, 17, 18, 19, 20, 21, 22, 23, 24, 25, 26, 27, 28, 29, 30, 31, 32, 33, 34, 35, 36, 37, 38, 39, 40, 41, 42, 43, 44, 45, 46, 47, 48, 49, 50, 51, 52, 53, 54, 55, 56, 57, 58, 59, 60, 61, 62, 63, 64, 65, 66, 67, 68, 69, 70, 71, 72] (by decide +kernel) (by decide +kernel)
set_option maxRecDepth 20000 in
theorem gX5_judge_X5_tryRow : GoodIn wsX5_judge (wsV RX5 177 RX5 yX5_tryRow wsX5_tryRow) := goodIn_app (goodIn_of _ (by decide +kernel)) ggX5_judge_X5_tryRow
theorem dX5_judge_0 : decode cX5_judge 0 = .ok (.aload_n 0, 1) := by decide +kernel
theorem dX5_judge_1 : decode cX5_judge 1 = .ok (.invokevirtual 177, 3) := by decide +kernel
theorem dX5_judge_4 : decode cX5_judge 4 = .ok (.istore_n 1, 1) := by decide +kernel
theorem dX5_judge_5 : decode cX5_judge 5 = .ok (.aload_n 0, 1) := by decide +kernel
theorem dX5_judge_6 : decode cX5_judge 6 = .ok (.iconst 0, 1) := by decide +kernel
theorem dX5_judge_7 : decode cX5_judge 7 = .ok (.putfield 170, 3) := by decide +kernel
theorem dX5_judge_10 : decode cX5_judge 10 = .ok (.iload_n 1, 1) := by decide +kernel
theorem dX5_judge_11 : decode cX5_judge 11 = .ok (.ireturn, 1) := by decide +kernel
set_option maxRecDepth 20000 in
theorem ggX5_lots_X5_no : GoodIn wsX5_lots wsX5_no := goodIn_r _ [9, 10, 75, 76, 77, 78, 79, 80, 81, 82, 83, 84, 85, 86, 87, 88, 89, 90, 91, 92, 93, 94] (by decide +kernel) (by decide +kernel)
set_option maxRecDepth 20000 in
theorem gX5_lots_X5_no : GoodIn wsX5_lots (wsV RX5 9 RX5 yX5_no wsX5_no) := goodIn_app (goodIn_of _ (by decide +kernel)) ggX5_lots_X5_no
set_option maxRecDepth 20000 in
theorem ggX5_lots_X5_enoughFor : GoodIn wsX5_lots wsX5_enoughFor := goodIn_r _ [14, 4, 15, 16, 17, 8, 18, 19, 20, 21, 22, 23, 24, 25, 26, 27, 28, 29, 30, 31, 32, 33, 34, 35, 36, 37, 38, 39, 40, 41, 42, 43, 44, 45, 46, 47, 48, 49, 50, 51, 52, 53, 54, 55, 56, 57, 58, 59, 60, 61, 62, 63, 64, 65, 66, 67, 68, 69, 70, 71, 72, 73, 74, 75, 76, 77, 78, 79, 80, 81, 82, 83, 84, 85, 86, 87, 88, 89, 90, 91, 92, 93, 94] (by decide +kernel) (by decide +kernel)
set_option maxRecDepth 20000 in
theorem gX5_lots_X5_enoughFor : GoodIn wsX5_lots (wsV RX5 161 RX5 yX5_enoughFor wsX5_enoughFor) := goodIn_app (goodIn_of _ (by decide +kernel)) ggX5_lots_X5_enoughFor
theorem dX5_lots_0 : decode cX5_lots 0 = .ok (.iload_n 1, 1) := by decide +kernel
theorem dX5_lots_1 : decode cX5_lots 1 = .ok (.iconst 1, 1) := by decide +kernel
theorem dX5_lots_2 : decode cX5_lots 2 = .ok (.if_icmp .ge 10, 3) := by decide +kernel
theorem dX5_lots_5 : decode cX5_lots 5 = .ok (.aload_n 0, 1) := by decide +kernel
theorem dX5_lots_6 : decode cX5_lots 6 = .ok (.bipush (-4), 2) := by decide +kernel
theorem dX5_lots_8 : decode cX5_lots 8 = .ok (.invokevirtual 9, 3) := by decide +kernel
theorem dX5_lots_11 : decode cX5_lots 11 = .ok (.ireturn, 1) := by decide +kernel
theorem dX5_lots_12 : decode cX5_lots 12 = .ok (.iload_n 1, 1) := by decide +kernel
theorem dX5_lots_13 : decode cX5_lots 13 = .ok (.bipush 20, 2) := by decide +kernel
theorem dX5_lots_15 : decode cX5_lots 15 = .ok (.if_icmp .le 10, 3) := by decide +kernel
theorem dX5_lots_18 : decode cX5_lots 18 = .ok (.aload_n 0, 1) := by decide +kernel
theorem dX5_lots_19 : decode cX5_lots 19 = .ok (.bipush (-6), 2) := by decide +kernel
theorem dX5_lots_21 : decode cX5_lots 21 = .ok (.invokevirtual 9, 3) := by decide +kernel
theorem dX5_lots_24 : decode cX5_lots 24 = .ok (.ireturn, 1) := by decide +kernel
theorem dX5_lots_25 : decode cX5_lots 25 = .ok (.iload_n 2, 1) := by decide +kernel
theorem dX5_lots_26 : decode cX5_lots 26 = .ok (.istore_n 3, 1) := by decide +kernel
theorem dX5_lots_27 : decode cX5_lots 27 = .ok (.iconst 0, 1) := by decide +kernel
theorem dX5_lots_28 : decode cX5_lots 28 = .ok (.istore 4, 2) := by decide +kernel
theorem dX5_lots_30 : decode cX5_lots 30 = .ok (.iconst 0, 1) := by decide +kernel
theorem dX5_lots_31 : decode cX5_lots 31 = .ok (.istore 5, 2) := by decide +kernel
theorem dX5_lots_33 : decode cX5_lots 33 = .ok (.iload 5, 2) := by decide +kernel
theorem dX5_lots_35 : decode cX5_lots 35 = .ok (.iload_n 1, 1) := by decide +kernel
theorem dX5_lots_36 : decode cX5_lots 36 = .ok (.if_icmp .ge 73, 3) := by decide +kernel
theorem dX5_lots_39 : decode cX5_lots 39 = .ok (.iload_n 3, 1) := by decide +kernel
theorem dX5_lots_40 : decode cX5_lots 40 = .ok (.ldc 180, 2) := by decide +kernel
theorem dX5_lots_42 : decode cX5_lots 42 = .ok (.imul, 1) := by decide +kernel
theorem dX5_lots_43 : decode cX5_lots 43 = .ok (.ldc 181, 2) := by decide +kernel
theorem dX5_lots_45 : decode cX5_lots 45 = .ok (.iadd, 1) := by decide +kernel
theorem dX5_lots_46 : decode cX5_lots 46 = .ok (.istore_n 3, 1) := by decide +kernel
theorem dX5_lots_47 : decode cX5_lots 47 = .ok (.iload_n 3, 1) := by decide +kernel
theorem dX5_lots_48 : decode cX5_lots 48 = .ok (.ldc 182, 2) := by decide +kernel
theorem dX5_lots_50 : decode cX5_lots 50 = .ok (.iand, 1) := by decide +kernel
theorem dX5_lots_51 : decode cX5_lots 51 = .ok (.sipush 256, 3) := by decide +kernel
theorem dX5_lots_54 : decode cX5_lots 54 = .ok (.idiv, 1) := by decide +kernel
theorem dX5_lots_55 : decode cX5_lots 55 = .ok (.bipush 40, 2) := by decide +kernel
theorem dX5_lots_57 : decode cX5_lots 57 = .ok (.irem, 1) := by decide +kernel
theorem dX5_lots_58 : decode cX5_lots 58 = .ok (.iconst 1, 1) := by decide +kernel
theorem dX5_lots_59 : decode cX5_lots 59 = .ok (.iadd, 1) := by decide +kernel
theorem dX5_lots_60 : decode cX5_lots 60 = .ok (.istore 6, 2) := by decide +kernel
theorem dX5_lots_62 : decode cX5_lots 62 = .ok (.aload_n 0, 1) := by decide +kernel
theorem dX5_lots_63 : decode cX5_lots 63 = .ok (.getfield 19, 3) := by decide +kernel
theorem dX5_lots_66 : decode cX5_lots 66 = .ok (.iload 6, 2) := by decide +kernel
theorem dX5_lots_68 : decode cX5_lots 68 = .ok (.iaload, 1) := by decide +kernel
theorem dX5_lots_69 : decode cX5_lots 69 = .ok (.ifCond .ne 7, 3) := by decide +kernel
theorem dX5_lots_72 : decode cX5_lots 72 = .ok (.iconst 0, 1) := by decide +kernel
theorem dX5_lots_73 : decode cX5_lots 73 = .ok (.goto 9, 3) := by decide +kernel
theorem dX5_lots_76 : decode cX5_lots 76 = .ok (.aload_n 0, 1) := by decide +kernel
theorem dX5_lots_77 : decode cX5_lots 77 = .ok (.iload 6, 2) := by decide +kernel
theorem dX5_lots_79 : decode cX5_lots 79 = .ok (.invokevirtual 161, 3) := by decide +kernel
theorem dX5_lots_82 : decode cX5_lots 82 = .ok (.istore 7, 2) := by decide +kernel
theorem dX5_lots_84 : decode cX5_lots 84 = .ok (.iload 4, 2) := by decide +kernel
theorem dX5_lots_86 : decode cX5_lots 86 = .ok (.iload 7, 2) := by decide +kernel
theorem dX5_lots_88 : decode cX5_lots 88 = .ok (.bipush (-9), 2) := by decide +kernel
theorem dX5_lots_90 : decode cX5_lots 90 = .ok (.if_icmp .ne 8, 3) := by decide +kernel
theorem dX5_lots_93 : decode cX5_lots 93 = .ok (.bipush 12, 2) := by decide +kernel
theorem dX5_lots_95 : decode cX5_lots 95 = .ok (.goto 5, 3) := by decide +kernel
theorem dX5_lots_98 : decode cX5_lots 98 = .ok (.iload 7, 2) := by decide +kernel
theorem dX5_lots_100 : decode cX5_lots 100 = .ok (.iadd, 1) := by decide +kernel
theorem dX5_lots_101 : decode cX5_lots 101 = .ok (.istore 4, 2) := by decide +kernel
theorem dX5_lots_103 : decode cX5_lots 103 = .ok (.iinc 5 1, 3) := by decide +kernel
theorem dX5_lots_106 : decode cX5_lots 106 = .ok (.goto (-73), 3) := by decide +kernel
theorem dX5_lots_109 : decode cX5_lots 109 = .ok (.iload 4, 2) := by decide +kernel
theorem dX5_lots_111 : decode cX5_lots 111 = .ok (.ireturn, 1) := by decide +kernel
set_option maxRecDepth 20000 in
theorem ggX5_letter_X5_no : GoodIn wsX5_letter wsX5_no := goodIn_r _ [7, 8, 9, 10, 11, 12, 13, 14, 15, 16, 17, 18, 19, 20, 21, 22, 23, 24, 25, 26, 27, 28] (by decide +kernel) (by decide +kernel)
set_option maxRecDepth 20000 in
theorem gX5_letter_X5_no : GoodIn wsX5_letter (wsV RX5 9 RX5 yX5_no wsX5_no) := goodIn_app (goodIn_of _ (by decide +kernel)) ggX5_letter_X5_no
theorem dX5_letter_0 : decode cX5_letter 0 = .ok (.iload_n 1, 1) := by decide +kernel
theorem dX5_letter_1 : decode cX5_letter 1 = .ok (.ifCond .ge 10, 3) := by decide +kernel
theorem dX5_letter_4 : decode cX5_letter 4 = .ok (.aload_n 0, 1) := by decide +kernel
theorem dX5_letter_5 : decode cX5_letter 5 = .ok (.bipush (-4), 2) := by decide +kernel
theorem dX5_letter_7 : decode cX5_letter 7 = .ok (.invokevirtual 9, 3) := by decide +kernel
theorem dX5_letter_10 : decode cX5_letter 10 = .ok (.ireturn, 1) := by decide +kernel
theorem dX5_letter_11 : decode cX5_letter 11 = .ok (.iload_n 1, 1) := by decide +kernel
theorem dX5_letter_12 : decode cX5_letter 12 = .ok (.sipush 255, 3) := by decide +kernel
theorem dX5_letter_15 : decode cX5_letter 15 = .ok (.if_icmp .gt 12, 3) := by decide +kernel
theorem dX5_letter_18 : decode cX5_letter 18 = .ok (.aload_n 0, 1) := by decide +kernel
theorem dX5_letter_19 : decode cX5_letter 19 = .ok (.getfield 183, 3) := by decide +kernel
theorem dX5_letter_22 : decode cX5_letter 22 = .ok (.bipush 96, 2) := by decide +kernel
theorem dX5_letter_24 : decode cX5_letter 24 = .ok (.if_icmp .ne 10, 3) := by decide +kernel
theorem dX5_letter_27 : decode cX5_letter 27 = .ok (.aload_n 0, 1) := by decide +kernel
theorem dX5_letter_28 : decode cX5_letter 28 = .ok (.bipush (-6), 2) := by decide +kernel
theorem dX5_letter_30 : decode cX5_letter 30 = .ok (.invokevirtual 9, 3) := by decide +kernel
theorem dX5_letter_33 : decode cX5_letter 33 = .ok (.ireturn, 1) := by decide +kernel
theorem dX5_letter_34 : decode cX5_letter 34 = .ok (.aload_n 0, 1) := by decide +kernel
theorem dX5_letter_35 : decode cX5_letter 35 = .ok (.getfield 40, 3) := by decide +kernel
theorem dX5_letter_38 : decode cX5_letter 38 = .ok (.aload_n 0, 1) := by decide +kernel
theorem dX5_letter_39 : decode cX5_letter 39 = .ok (.getfield 183, 3) := by decide +kernel
theorem dX5_letter_42 : decode cX5_letter 42 = .ok (.iload_n 1, 1) := by decide +kernel
theorem dX5_letter_43 : decode cX5_letter 43 = .ok (.iastore, 1) := by decide +kernel
theorem dX5_letter_44 : decode cX5_letter 44 = .ok (.aload_n 0, 1) := by decide +kernel
theorem dX5_letter_45 : decode cX5_letter 45 = .ok (.dup, 1) := by decide +kernel
theorem dX5_letter_46 : decode cX5_letter 46 = .ok (.getfield 183, 3) := by decide +kernel
theorem dX5_letter_49 : decode cX5_letter 49 = .ok (.iconst 1, 1) := by decide +kernel
theorem dX5_letter_50 : decode cX5_letter 50 = .ok (.iadd, 1) := by decide +kernel
theorem dX5_letter_51 : decode cX5_letter 51 = .ok (.putfield 183, 3) := by decide +kernel
theorem dX5_letter_54 : decode cX5_letter 54 = .ok (.aload_n 0, 1) := by decide +kernel
theorem dX5_letter_55 : decode cX5_letter 55 = .ok (.getfield 183, 3) := by decide +kernel
theorem dX5_letter_58 : decode cX5_letter 58 = .ok (.ireturn, 1) := by decide +kernel
theorem dX5_oneOf_0 : decode cX5_oneOf 0 = .ok (.iconst 0, 1) := by decide +kernel
theorem dX5_oneOf_1 : decode cX5_oneOf 1 = .ok (.istore_n 2, 1) := by decide +kernel
theorem dX5_oneOf_2 : decode cX5_oneOf 2 = .ok (.iload_n 2, 1) := by decide +kernel
theorem dX5_oneOf_3 : decode cX5_oneOf 3 = .ok (.aload_n 1, 1) := by decide +kernel
theorem dX5_oneOf_4 : decode cX5_oneOf 4 = .ok (.arraylength, 1) := by decide +kernel
theorem dX5_oneOf_5 : decode cX5_oneOf 5 = .ok (.if_icmp .ge 54, 3) := by decide +kernel
theorem dX5_oneOf_8 : decode cX5_oneOf 8 = .ok (.aload_n 0, 1) := by decide +kernel
theorem dX5_oneOf_9 : decode cX5_oneOf 9 = .ok (.getfield 186, 3) := by decide +kernel
theorem dX5_oneOf_12 : decode cX5_oneOf 12 = .ok (.ifCond .eq 41, 3) := by decide +kernel
theorem dX5_oneOf_15 : decode cX5_oneOf 15 = .ok (.aload_n 0, 1) := by decide +kernel
theorem dX5_oneOf_16 : decode cX5_oneOf 16 = .ok (.getfield 189, 3) := by decide +kernel
theorem dX5_oneOf_19 : decode cX5_oneOf 19 = .ok (.aload_n 0, 1) := by decide +kernel
theorem dX5_oneOf_20 : decode cX5_oneOf 20 = .ok (.getfield 183, 3) := by decide +kernel
theorem dX5_oneOf_23 : decode cX5_oneOf 23 = .ok (.if_icmp .ge 30, 3) := by decide +kernel
theorem dX5_oneOf_26 : decode cX5_oneOf 26 = .ok (.aload_n 0, 1) := by decide +kernel
theorem dX5_oneOf_27 : decode cX5_oneOf 27 = .ok (.getfield 40, 3) := by decide +kernel
theorem dX5_oneOf_30 : decode cX5_oneOf 30 = .ok (.aload_n 0, 1) := by decide +kernel
theorem dX5_oneOf_31 : decode cX5_oneOf 31 = .ok (.getfield 189, 3) := by decide +kernel
theorem dX5_oneOf_34 : decode cX5_oneOf 34 = .ok (.iaload, 1) := by decide +kernel
theorem dX5_oneOf_35 : decode cX5_oneOf 35 = .ok (.aload_n 1, 1) := by decide +kernel
theorem dX5_oneOf_36 : decode cX5_oneOf 36 = .ok (.iload_n 2, 1) := by decide +kernel
theorem dX5_oneOf_37 : decode cX5_oneOf 37 = .ok (.caload, 1) := by decide +kernel
theorem dX5_oneOf_38 : decode cX5_oneOf 38 = .ok (.if_icmp .ne 15, 3) := by decide +kernel
theorem dX5_oneOf_41 : decode cX5_oneOf 41 = .ok (.aload_n 0, 1) := by decide +kernel
theorem dX5_oneOf_42 : decode cX5_oneOf 42 = .ok (.dup, 1) := by decide +kernel
theorem dX5_oneOf_43 : decode cX5_oneOf 43 = .ok (.getfield 189, 3) := by decide +kernel
theorem dX5_oneOf_46 : decode cX5_oneOf 46 = .ok (.iconst 1, 1) := by decide +kernel
theorem dX5_oneOf_47 : decode cX5_oneOf 47 = .ok (.iadd, 1) := by decide +kernel
theorem dX5_oneOf_48 : decode cX5_oneOf 48 = .ok (.putfield 189, 3) := by decide +kernel
theorem dX5_oneOf_51 : decode cX5_oneOf 51 = .ok (.iload_n 2, 1) := by decide +kernel
theorem dX5_oneOf_52 : decode cX5_oneOf 52 = .ok (.ireturn, 1) := by decide +kernel
theorem dX5_oneOf_53 : decode cX5_oneOf 53 = .ok (.iinc 2 1, 3) := by decide +kernel
theorem dX5_oneOf_56 : decode cX5_oneOf 56 = .ok (.goto (-54), 3) := by decide +kernel
theorem dX5_oneOf_59 : decode cX5_oneOf 59 = .ok (.aload_n 0, 1) := by decide +kernel
theorem dX5_oneOf_60 : decode cX5_oneOf 60 = .ok (.iconst 0, 1) := by decide +kernel
theorem dX5_oneOf_61 : decode cX5_oneOf 61 = .ok (.putfield 186, 3) := by decide +kernel
theorem dX5_oneOf_64 : decode cX5_oneOf 64 = .ok (.iconst 0, 1) := by decide +kernel
theorem dX5_oneOf_65 : decode cX5_oneOf 65 = .ok (.ireturn, 1) := by decide +kernel
theorem dX5_figures_0 : decode cX5_figures 0 = .ok (.iconst 0, 1) := by decide +kernel
theorem dX5_figures_1 : decode cX5_figures 1 = .ok (.istore_n 2, 1) := by decide +kernel
theorem dX5_figures_2 : decode cX5_figures 2 = .ok (.iconst 0, 1) := by decide +kernel
theorem dX5_figures_3 : decode cX5_figures 3 = .ok (.istore_n 3, 1) := by decide +kernel
theorem dX5_figures_4 : decode cX5_figures 4 = .ok (.iload_n 3, 1) := by decide +kernel
theorem dX5_figures_5 : decode cX5_figures 5 = .ok (.iload_n 1, 1) := by decide +kernel
theorem dX5_figures_6 : decode cX5_figures 6 = .ok (.if_icmp .ge 91, 3) := by decide +kernel
theorem dX5_figures_9 : decode cX5_figures 9 = .ok (.aload_n 0, 1) := by decide +kernel
theorem dX5_figures_10 : decode cX5_figures 10 = .ok (.getfield 186, 3) := by decide +kernel
theorem dX5_figures_13 : decode cX5_figures 13 = .ok (.ifCond .eq 73, 3) := by decide +kernel
theorem dX5_figures_16 : decode cX5_figures 16 = .ok (.aload_n 0, 1) := by decide +kernel
theorem dX5_figures_17 : decode cX5_figures 17 = .ok (.getfield 189, 3) := by decide +kernel
theorem dX5_figures_20 : decode cX5_figures 20 = .ok (.aload_n 0, 1) := by decide +kernel
theorem dX5_figures_21 : decode cX5_figures 21 = .ok (.getfield 183, 3) := by decide +kernel
theorem dX5_figures_24 : decode cX5_figures 24 = .ok (.if_icmp .ge 62, 3) := by decide +kernel
theorem dX5_figures_27 : decode cX5_figures 27 = .ok (.aload_n 0, 1) := by decide +kernel
theorem dX5_figures_28 : decode cX5_figures 28 = .ok (.getfield 40, 3) := by decide +kernel
theorem dX5_figures_31 : decode cX5_figures 31 = .ok (.aload_n 0, 1) := by decide +kernel
theorem dX5_figures_32 : decode cX5_figures 32 = .ok (.getfield 189, 3) := by decide +kernel
theorem dX5_figures_35 : decode cX5_figures 35 = .ok (.iaload, 1) := by decide +kernel
theorem dX5_figures_36 : decode cX5_figures 36 = .ok (.bipush 48, 2) := by decide +kernel
theorem dX5_figures_38 : decode cX5_figures 38 = .ok (.if_icmp .lt 48, 3) := by decide +kernel
theorem dX5_figures_41 : decode cX5_figures 41 = .ok (.aload_n 0, 1) := by decide +kernel
theorem dX5_figures_42 : decode cX5_figures 42 = .ok (.getfield 40, 3) := by decide +kernel
theorem dX5_figures_45 : decode cX5_figures 45 = .ok (.aload_n 0, 1) := by decide +kernel
theorem dX5_figures_46 : decode cX5_figures 46 = .ok (.getfield 189, 3) := by decide +kernel
theorem dX5_figures_49 : decode cX5_figures 49 = .ok (.iaload, 1) := by decide +kernel
theorem dX5_figures_50 : decode cX5_figures 50 = .ok (.bipush 57, 2) := by decide +kernel
theorem dX5_figures_52 : decode cX5_figures 52 = .ok (.if_icmp .gt 34, 3) := by decide +kernel
theorem dX5_figures_55 : decode cX5_figures 55 = .ok (.bipush 10, 2) := by decide +kernel
theorem dX5_figures_57 : decode cX5_figures 57 = .ok (.iload_n 2, 1) := by decide +kernel
theorem dX5_figures_58 : decode cX5_figures 58 = .ok (.imul, 1) := by decide +kernel
theorem dX5_figures_59 : decode cX5_figures 59 = .ok (.aload_n 0, 1) := by decide +kernel
theorem dX5_figures_60 : decode cX5_figures 60 = .ok (.getfield 40, 3) := by decide +kernel
theorem dX5_figures_63 : decode cX5_figures 63 = .ok (.aload_n 0, 1) := by decide +kernel
theorem dX5_figures_64 : decode cX5_figures 64 = .ok (.getfield 189, 3) := by decide +kernel
theorem dX5_figures_67 : decode cX5_figures 67 = .ok (.iaload, 1) := by decide +kernel
theorem dX5_figures_68 : decode cX5_figures 68 = .ok (.iadd, 1) := by decide +kernel
theorem dX5_figures_69 : decode cX5_figures 69 = .ok (.bipush 48, 2) := by decide +kernel
theorem dX5_figures_71 : decode cX5_figures 71 = .ok (.isub, 1) := by decide +kernel
theorem dX5_figures_72 : decode cX5_figures 72 = .ok (.istore_n 2, 1) := by decide +kernel
theorem dX5_figures_73 : decode cX5_figures 73 = .ok (.aload_n 0, 1) := by decide +kernel
theorem dX5_figures_74 : decode cX5_figures 74 = .ok (.dup, 1) := by decide +kernel
theorem dX5_figures_75 : decode cX5_figures 75 = .ok (.getfield 189, 3) := by decide +kernel
theorem dX5_figures_78 : decode cX5_figures 78 = .ok (.iconst 1, 1) := by decide +kernel
theorem dX5_figures_79 : decode cX5_figures 79 = .ok (.iadd, 1) := by decide +kernel
theorem dX5_figures_80 : decode cX5_figures 80 = .ok (.putfield 189, 3) := by decide +kernel
theorem dX5_figures_83 : decode cX5_figures 83 = .ok (.goto 8, 3) := by decide +kernel
theorem dX5_figures_86 : decode cX5_figures 86 = .ok (.aload_n 0, 1) := by decide +kernel
theorem dX5_figures_87 : decode cX5_figures 87 = .ok (.iconst 0, 1) := by decide +kernel
theorem dX5_figures_88 : decode cX5_figures 88 = .ok (.putfield 186, 3) := by decide +kernel
theorem dX5_figures_91 : decode cX5_figures 91 = .ok (.iinc 3 1, 3) := by decide +kernel
theorem dX5_figures_94 : decode cX5_figures 94 = .ok (.goto (-90), 3) := by decide +kernel
theorem dX5_figures_97 : decode cX5_figures 97 = .ok (.iload_n 2, 1) := by decide +kernel
theorem dX5_figures_98 : decode cX5_figures 98 = .ok (.ireturn, 1) := by decide +kernel
set_option maxRecDepth 20000 in
theorem ggX5_statement_X5_oneOf : GoodIn wsX5_statement wsX5_oneOf := goodIn_r _ [14, 6, 7, 8, 9, 19, 20, 21, 22, 23, 24, 25, 26, 27, 28, 29, 30, 31, 32, 33, 34, 35, 36, 37, 38] (by decide +kernel) (by decide +kernel)
set_option maxRecDepth 20000 in
theorem gX5_statement_X5_oneOf : GoodIn wsX5_statement (wsV RX5 192 RX5 yX5_oneOf wsX5_oneOf) := goodIn_app (goodIn_of _ (by decide +kernel)) ggX5_statement_X5_oneOf
set_option maxRecDepth 20000 in
theorem ggX5_statement_X5_figures : GoodIn wsX5_statement wsX5_figures := goodIn_r _ [18, 6, 7, 8, 9, 19, 20, 21, 22, 23, 24, 25, 26, 27, 28, 29, 30, 31, 32, 33, 34, 35, 36, 37, 38] (by decide +kernel) (by decide +kernel)
set_option maxRecDepth 20000 in
theorem gX5_statement_X5_figures : GoodIn wsX5_statement (wsV RX5 199 RX5 yX5_figures wsX5_figures) := goodIn_app (goodIn_of _ (by decide +kernel)) ggX5_statement_X5_figures
theorem dX5_statement_0 : decode cX5_statement 0 = .ok (.aload_n 0, 1) := by decide +kernel
theorem dX5_statement_1 : decode cX5_statement 1 = .ok (.aload_n 0, 1) := by decide +kernel
theorem dX5_statement_2 : decode cX5_statement 2 = .ok (.aload_n 0, 1) := by decide +kernel
theorem dX5_statement_3 : decode cX5_statement 3 = .ok (.getfield 43, 3) := by decide +kernel
theorem dX5_statement_6 : decode cX5_statement 6 = .ok (.invokevirtual 192, 3) := by decide +kernel
theorem dX5_statement_9 : decode cX5_statement 9 = .ok (.putfield 196, 3) := by decide +kernel
theorem dX5_statement_12 : decode cX5_statement 12 = .ok (.aload_n 0, 1) := by decide +kernel
theorem dX5_statement_13 : decode cX5_statement 13 = .ok (.getfield 196, 3) := by decide +kernel
theorem dX5_statement_16 : decode cX5_statement 16 = .ok (.tableswitch 167 0 4 #[36, 72, 86, 114, 142], 36) := by decide +kernel
theorem dX5_statement_52 : decode cX5_statement 52 = .ok (.aload_n 0, 1) := by decide +kernel
theorem dX5_statement_53 : decode cX5_statement 53 = .ok (.getfield 53, 3) := by decide +kernel
theorem dX5_statement_56 : decode cX5_statement 56 = .ok (.iconst 0, 1) := by decide +kernel
theorem dX5_statement_57 : decode cX5_statement 57 = .ok (.aload_n 0, 1) := by decide +kernel
theorem dX5_statement_58 : decode cX5_statement 58 = .ok (.iconst 2, 1) := by decide +kernel
theorem dX5_statement_59 : decode cX5_statement 59 = .ok (.invokevirtual 199, 3) := by decide +kernel
theorem dX5_statement_62 : decode cX5_statement 62 = .ok (.iastore, 1) := by decide +kernel
theorem dX5_statement_63 : decode cX5_statement 63 = .ok (.aload_n 0, 1) := by decide +kernel
theorem dX5_statement_64 : decode cX5_statement 64 = .ok (.getfield 53, 3) := by decide +kernel
theorem dX5_statement_67 : decode cX5_statement 67 = .ok (.iconst 1, 1) := by decide +kernel
theorem dX5_statement_68 : decode cX5_statement 68 = .ok (.aload_n 0, 1) := by decide +kernel
theorem dX5_statement_69 : decode cX5_statement 69 = .ok (.iconst 2, 1) := by decide +kernel
theorem dX5_statement_70 : decode cX5_statement 70 = .ok (.invokevirtual 199, 3) := by decide +kernel
theorem dX5_statement_73 : decode cX5_statement 73 = .ok (.iastore, 1) := by decide +kernel
theorem dX5_statement_74 : decode cX5_statement 74 = .ok (.aload_n 0, 1) := by decide +kernel
theorem dX5_statement_75 : decode cX5_statement 75 = .ok (.getfield 53, 3) := by decide +kernel
theorem dX5_statement_78 : decode cX5_statement 78 = .ok (.iconst 2, 1) := by decide +kernel
theorem dX5_statement_79 : decode cX5_statement 79 = .ok (.aload_n 0, 1) := by decide +kernel
theorem dX5_statement_80 : decode cX5_statement 80 = .ok (.iconst 1, 1) := by decide +kernel
theorem dX5_statement_81 : decode cX5_statement 81 = .ok (.invokevirtual 199, 3) := by decide +kernel
theorem dX5_statement_84 : decode cX5_statement 84 = .ok (.iastore, 1) := by decide +kernel
theorem dX5_statement_85 : decode cX5_statement 85 = .ok (.goto 120, 3) := by decide +kernel
theorem dX5_statement_88 : decode cX5_statement 88 = .ok (.aload_n 0, 1) := by decide +kernel
theorem dX5_statement_89 : decode cX5_statement 89 = .ok (.getfield 53, 3) := by decide +kernel
theorem dX5_statement_92 : decode cX5_statement 92 = .ok (.iconst 0, 1) := by decide +kernel
theorem dX5_statement_93 : decode cX5_statement 93 = .ok (.aload_n 0, 1) := by decide +kernel
theorem dX5_statement_94 : decode cX5_statement 94 = .ok (.iconst 1, 1) := by decide +kernel
theorem dX5_statement_95 : decode cX5_statement 95 = .ok (.invokevirtual 199, 3) := by decide +kernel
theorem dX5_statement_98 : decode cX5_statement 98 = .ok (.iastore, 1) := by decide +kernel
theorem dX5_statement_99 : decode cX5_statement 99 = .ok (.goto 106, 3) := by decide +kernel
theorem dX5_statement_102 : decode cX5_statement 102 = .ok (.aload_n 0, 1) := by decide +kernel
theorem dX5_statement_103 : decode cX5_statement 103 = .ok (.getfield 53, 3) := by decide +kernel
theorem dX5_statement_106 : decode cX5_statement 106 = .ok (.iconst 0, 1) := by decide +kernel
theorem dX5_statement_107 : decode cX5_statement 107 = .ok (.aload_n 0, 1) := by decide +kernel
theorem dX5_statement_108 : decode cX5_statement 108 = .ok (.aload_n 0, 1) := by decide +kernel
theorem dX5_statement_109 : decode cX5_statement 109 = .ok (.getfield 47, 3) := by decide +kernel
theorem dX5_statement_112 : decode cX5_statement 112 = .ok (.invokevirtual 192, 3) := by decide +kernel
theorem dX5_statement_115 : decode cX5_statement 115 = .ok (.iastore, 1) := by decide +kernel
theorem dX5_statement_116 : decode cX5_statement 116 = .ok (.aload_n 0, 1) := by decide +kernel
theorem dX5_statement_117 : decode cX5_statement 117 = .ok (.getfield 53, 3) := by decide +kernel
theorem dX5_statement_120 : decode cX5_statement 120 = .ok (.iconst 1, 1) := by decide +kernel
theorem dX5_statement_121 : decode cX5_statement 121 = .ok (.aload_n 0, 1) := by decide +kernel
theorem dX5_statement_122 : decode cX5_statement 122 = .ok (.iconst 1, 1) := by decide +kernel
theorem dX5_statement_123 : decode cX5_statement 123 = .ok (.invokevirtual 199, 3) := by decide +kernel
theorem dX5_statement_126 : decode cX5_statement 126 = .ok (.iastore, 1) := by decide +kernel
theorem dX5_statement_127 : decode cX5_statement 127 = .ok (.goto 78, 3) := by decide +kernel
theorem dX5_statement_130 : decode cX5_statement 130 = .ok (.aload_n 0, 1) := by decide +kernel
theorem dX5_statement_131 : decode cX5_statement 131 = .ok (.getfield 53, 3) := by decide +kernel
theorem dX5_statement_134 : decode cX5_statement 134 = .ok (.iconst 0, 1) := by decide +kernel
theorem dX5_statement_135 : decode cX5_statement 135 = .ok (.aload_n 0, 1) := by decide +kernel
theorem dX5_statement_136 : decode cX5_statement 136 = .ok (.aload_n 0, 1) := by decide +kernel
theorem dX5_statement_137 : decode cX5_statement 137 = .ok (.getfield 50, 3) := by decide +kernel
theorem dX5_statement_140 : decode cX5_statement 140 = .ok (.invokevirtual 192, 3) := by decide +kernel
theorem dX5_statement_143 : decode cX5_statement 143 = .ok (.iastore, 1) := by decide +kernel
theorem dX5_statement_144 : decode cX5_statement 144 = .ok (.aload_n 0, 1) := by decide +kernel
theorem dX5_statement_145 : decode cX5_statement 145 = .ok (.getfield 53, 3) := by decide +kernel
theorem dX5_statement_148 : decode cX5_statement 148 = .ok (.iconst 1, 1) := by decide +kernel
theorem dX5_statement_149 : decode cX5_statement 149 = .ok (.aload_n 0, 1) := by decide +kernel
theorem dX5_statement_150 : decode cX5_statement 150 = .ok (.iconst 1, 1) := by decide +kernel
theorem dX5_statement_151 : decode cX5_statement 151 = .ok (.invokevirtual 199, 3) := by decide +kernel
theorem dX5_statement_154 : decode cX5_statement 154 = .ok (.iastore, 1) := by decide +kernel
theorem dX5_statement_155 : decode cX5_statement 155 = .ok (.goto 50, 3) := by decide +kernel
theorem dX5_statement_158 : decode cX5_statement 158 = .ok (.aload_n 0, 1) := by decide +kernel
theorem dX5_statement_159 : decode cX5_statement 159 = .ok (.getfield 53, 3) := by decide +kernel
theorem dX5_statement_162 : decode cX5_statement 162 = .ok (.iconst 0, 1) := by decide +kernel
theorem dX5_statement_163 : decode cX5_statement 163 = .ok (.aload_n 0, 1) := by decide +kernel
theorem dX5_statement_164 : decode cX5_statement 164 = .ok (.iconst 2, 1) := by decide +kernel
theorem dX5_statement_165 : decode cX5_statement 165 = .ok (.invokevirtual 199, 3) := by decide +kernel
theorem dX5_statement_168 : decode cX5_statement 168 = .ok (.iastore, 1) := by decide +kernel
theorem dX5_statement_169 : decode cX5_statement 169 = .ok (.aload_n 0, 1) := by decide +kernel
theorem dX5_statement_170 : decode cX5_statement 170 = .ok (.getfield 53, 3) := by decide +kernel
theorem dX5_statement_173 : decode cX5_statement 173 = .ok (.iconst 1, 1) := by decide +kernel
theorem dX5_statement_174 : decode cX5_statement 174 = .ok (.aload_n 0, 1) := by decide +kernel
theorem dX5_statement_175 : decode cX5_statement 175 = .ok (.iconst 2, 1) := by decide +kernel
theorem dX5_statement_176 : decode cX5_statement 176 = .ok (.invokevirtual 199, 3) := by decide +kernel
theorem dX5_statement_179 : decode cX5_statement 179 = .ok (.iastore, 1) := by decide +kernel
theorem dX5_statement_180 : decode cX5_statement 180 = .ok (.goto 25, 3) := by decide +kernel
theorem dX5_statement_183 : decode cX5_statement 183 = .ok (.aload_n 0, 1) := by decide +kernel
theorem dX5_statement_184 : decode cX5_statement 184 = .ok (.getfield 53, 3) := by decide +kernel
theorem dX5_statement_187 : decode cX5_statement 187 = .ok (.iconst 0, 1) := by decide +kernel
theorem dX5_statement_188 : decode cX5_statement 188 = .ok (.aload_n 0, 1) := by decide +kernel
theorem dX5_statement_189 : decode cX5_statement 189 = .ok (.iconst 2, 1) := by decide +kernel
theorem dX5_statement_190 : decode cX5_statement 190 = .ok (.invokevirtual 199, 3) := by decide +kernel
theorem dX5_statement_193 : decode cX5_statement 193 = .ok (.iastore, 1) := by decide +kernel
theorem dX5_statement_194 : decode cX5_statement 194 = .ok (.aload_n 0, 1) := by decide +kernel
theorem dX5_statement_195 : decode cX5_statement 195 = .ok (.getfield 53, 3) := by decide +kernel
theorem dX5_statement_198 : decode cX5_statement 198 = .ok (.iconst 1, 1) := by decide +kernel
theorem dX5_statement_199 : decode cX5_statement 199 = .ok (.aload_n 0, 1) := by decide +kernel
theorem dX5_statement_200 : decode cX5_statement 200 = .ok (.iconst 1, 1) := by decide +kernel
theorem dX5_statement_201 : decode cX5_statement 201 = .ok (.invokevirtual 199, 3) := by decide +kernel
theorem dX5_statement_204 : decode cX5_statement 204 = .ok (.iastore, 1) := by decide +kernel
theorem dX5_statement_205 : decode cX5_statement 205 = .ok (.aload_n 0, 1) := by decide +kernel
theorem dX5_statement_206 : decode cX5_statement 206 = .ok (.getfield 186, 3) := by decide +kernel
theorem dX5_statement_209 : decode cX5_statement 209 = .ok (.ifCond .eq 41, 3) := by decide +kernel
theorem dX5_statement_212 : decode cX5_statement 212 = .ok (.aload_n 0, 1) := by decide +kernel
theorem dX5_statement_213 : decode cX5_statement 213 = .ok (.getfield 189, 3) := by decide +kernel
theorem dX5_statement_216 : decode cX5_statement 216 = .ok (.aload_n 0, 1) := by decide +kernel
theorem dX5_statement_217 : decode cX5_statement 217 = .ok (.getfield 183, 3) := by decide +kernel
theorem dX5_statement_220 : decode cX5_statement 220 = .ok (.if_icmp .ge 30, 3) := by decide +kernel
theorem dX5_statement_223 : decode cX5_statement 223 = .ok (.aload_n 0, 1) := by decide +kernel
theorem dX5_statement_224 : decode cX5_statement 224 = .ok (.getfield 40, 3) := by decide +kernel
theorem dX5_statement_227 : decode cX5_statement 227 = .ok (.aload_n 0, 1) := by decide +kernel
theorem dX5_statement_228 : decode cX5_statement 228 = .ok (.getfield 189, 3) := by decide +kernel
theorem dX5_statement_231 : decode cX5_statement 231 = .ok (.iaload, 1) := by decide +kernel
theorem dX5_statement_232 : decode cX5_statement 232 = .ok (.bipush 59, 2) := by decide +kernel
theorem dX5_statement_234 : decode cX5_statement 234 = .ok (.if_icmp .ne 16, 3) := by decide +kernel
theorem dX5_statement_237 : decode cX5_statement 237 = .ok (.aload_n 0, 1) := by decide +kernel
theorem dX5_statement_238 : decode cX5_statement 238 = .ok (.dup, 1) := by decide +kernel
theorem dX5_statement_239 : decode cX5_statement 239 = .ok (.getfield 189, 3) := by decide +kernel
theorem dX5_statement_242 : decode cX5_statement 242 = .ok (.iconst 1, 1) := by decide +kernel
theorem dX5_statement_243 : decode cX5_statement 243 = .ok (.iadd, 1) := by decide +kernel
theorem dX5_statement_244 : decode cX5_statement 244 = .ok (.putfield 189, 3) := by decide +kernel
theorem dX5_statement_247 : decode cX5_statement 247 = .ok (.goto 8, 3) := by decide +kernel
theorem dX5_statement_250 : decode cX5_statement 250 = .ok (.aload_n 0, 1) := by decide +kernel
theorem dX5_statement_251 : decode cX5_statement 251 = .ok (.iconst 0, 1) := by decide +kernel
theorem dX5_statement_252 : decode cX5_statement 252 = .ok (.putfield 186, 3) := by decide +kernel
theorem dX5_statement_255 : decode cX5_statement 255 = .ok (.return_, 1) := by decide +kernel
set_option maxRecDepth 20000 in
theorem ggX5_takes_X5_isNoSecond : GoodIn wsX5_takes wsX5_isNoSecond := goodIn_r _ [7] (by decide +kernel) (by decide +kernel)
set_option maxRecDepth 20000 in
theorem gX5_takes_X5_isNoSecond : GoodIn wsX5_takes (va_wsS RX5 93 yX5_isNoSecond wsX5_isNoSecond) := goodIn_app (goodIn_of _ (by decide +kernel)) ggX5_takes_X5_isNoSecond
set_option maxRecDepth 20000 in
theorem ggX5_takes_X5_isNoBand : GoodIn wsX5_takes wsX5_isNoBand := goodIn_r _ [11, 3, 45, 46, 47, 48, 49, 50, 51, 52, 53, 54, 55, 56, 57, 58, 59, 60, 61, 62, 63, 64] (by decide +kernel) (by decide +kernel)
set_option maxRecDepth 20000 in
theorem gX5_takes_X5_isNoBand : GoodIn wsX5_takes (wsV RX5 108 RX5 yX5_isNoBand wsX5_isNoBand) := goodIn_app (goodIn_of _ (by decide +kernel)) ggX5_takes_X5_isNoBand
set_option maxRecDepth 20000 in
theorem ggX5_takes_X5_tries : GoodIn wsX5_takes wsX5_tries := goodIn_r _ [15, 16, 17, 18, 19, 20, 6, 21, 22, 23, 24, 25, 26, 3, 27, 28, 29, 30, 31, 32, 33, 34, 35, 36, 37, 38, 39, 40, 41, 42, 43, 44, 45, 46, 47, 48, 49, 50, 51, 52, 53, 54, 55, 56, 57, 58, 59, 60, 61, 62, 63, 64] (by decide +kernel) (by decide +kernel)
set_option maxRecDepth 20000 in
theorem gX5_takes_X5_tries : GoodIn wsX5_takes (wsV RX5 115 RX5 yX5_tries wsX5_tries) := goodIn_app (goodIn_of _ (by decide +kernel)) ggX5_takes_X5_tries
theorem dX5_takes_0 : decode cX5_takes 0 = .ok (.aload_n 0, 1) := by decide +kernel
theorem dX5_takes_1 : decode cX5_takes 1 = .ok (.getfield 196, 3) := by decide +kernel
theorem dX5_takes_4 : decode cX5_takes 4 = .ok (.tableswitch 251 0 4 #[36, 114, 154, 195, 223], 36) := by decide +kernel
theorem dX5_takes_40 : decode cX5_takes 40 = .ok (.aload_n 0, 1) := by decide +kernel
theorem dX5_takes_41 : decode cX5_takes 41 = .ok (.getfield 53, 3) := by decide +kernel
theorem dX5_takes_44 : decode cX5_takes 44 = .ok (.iconst 0, 1) := by decide +kernel
theorem dX5_takes_45 : decode cX5_takes 45 = .ok (.iaload, 1) := by decide +kernel
theorem dX5_takes_46 : decode cX5_takes 46 = .ok (.invokestatic 93, 3) := by decide +kernel
theorem dX5_takes_49 : decode cX5_takes 49 = .ok (.ifCond .ne 30, 3) := by decide +kernel
theorem dX5_takes_52 : decode cX5_takes 52 = .ok (.aload_n 0, 1) := by decide +kernel
theorem dX5_takes_53 : decode cX5_takes 53 = .ok (.getfield 53, 3) := by decide +kernel
theorem dX5_takes_56 : decode cX5_takes 56 = .ok (.iconst 1, 1) := by decide +kernel
theorem dX5_takes_57 : decode cX5_takes 57 = .ok (.iaload, 1) := by decide +kernel
theorem dX5_takes_58 : decode cX5_takes 58 = .ok (.invokestatic 93, 3) := by decide +kernel
theorem dX5_takes_61 : decode cX5_takes 61 = .ok (.ifCond .ne 18, 3) := by decide +kernel
theorem dX5_takes_64 : decode cX5_takes 64 = .ok (.aload_n 0, 1) := by decide +kernel
theorem dX5_takes_65 : decode cX5_takes 65 = .ok (.getfield 53, 3) := by decide +kernel
theorem dX5_takes_68 : decode cX5_takes 68 = .ok (.iconst 0, 1) := by decide +kernel
theorem dX5_takes_69 : decode cX5_takes 69 = .ok (.iaload, 1) := by decide +kernel
theorem dX5_takes_70 : decode cX5_takes 70 = .ok (.aload_n 0, 1) := by decide +kernel
theorem dX5_takes_71 : decode cX5_takes 71 = .ok (.getfield 53, 3) := by decide +kernel
theorem dX5_takes_74 : decode cX5_takes 74 = .ok (.iconst 1, 1) := by decide +kernel
theorem dX5_takes_75 : decode cX5_takes 75 = .ok (.iaload, 1) := by decide +kernel
theorem dX5_takes_76 : decode cX5_takes 76 = .ok (.if_icmp .le 5, 3) := by decide +kernel
theorem dX5_takes_79 : decode cX5_takes 79 = .ok (.iconst 0, 1) := by decide +kernel
theorem dX5_takes_80 : decode cX5_takes 80 = .ok (.ireturn, 1) := by decide +kernel
theorem dX5_takes_81 : decode cX5_takes 81 = .ok (.aload_n 0, 1) := by decide +kernel
theorem dX5_takes_82 : decode cX5_takes 82 = .ok (.getfield 53, 3) := by decide +kernel
theorem dX5_takes_85 : decode cX5_takes 85 = .ok (.iconst 0, 1) := by decide +kernel
theorem dX5_takes_86 : decode cX5_takes 86 = .ok (.iaload, 1) := by decide +kernel
theorem dX5_takes_87 : decode cX5_takes 87 = .ok (.istore_n 1, 1) := by decide +kernel
theorem dX5_takes_88 : decode cX5_takes 88 = .ok (.iload_n 1, 1) := by decide +kernel
theorem dX5_takes_89 : decode cX5_takes 89 = .ok (.aload_n 0, 1) := by decide +kernel
theorem dX5_takes_90 : decode cX5_takes 90 = .ok (.getfield 53, 3) := by decide +kernel
theorem dX5_takes_93 : decode cX5_takes 93 = .ok (.iconst 1, 1) := by decide +kernel
theorem dX5_takes_94 : decode cX5_takes 94 = .ok (.iaload, 1) := by decide +kernel
theorem dX5_takes_95 : decode cX5_takes 95 = .ok (.if_icmp .gt 21, 3) := by decide +kernel
theorem dX5_takes_98 : decode cX5_takes 98 = .ok (.aload_n 0, 1) := by decide +kernel
theorem dX5_takes_99 : decode cX5_takes 99 = .ok (.getfield 19, 3) := by decide +kernel
theorem dX5_takes_102 : decode cX5_takes 102 = .ok (.iload_n 1, 1) := by decide +kernel
theorem dX5_takes_103 : decode cX5_takes 103 = .ok (.aload_n 0, 1) := by decide +kernel
theorem dX5_takes_104 : decode cX5_takes 104 = .ok (.getfield 53, 3) := by decide +kernel
theorem dX5_takes_107 : decode cX5_takes 107 = .ok (.iconst 2, 1) := by decide +kernel
theorem dX5_takes_108 : decode cX5_takes 108 = .ok (.iaload, 1) := by decide +kernel
theorem dX5_takes_109 : decode cX5_takes 109 = .ok (.iastore, 1) := by decide +kernel
theorem dX5_takes_110 : decode cX5_takes 110 = .ok (.iinc 1 1, 3) := by decide +kernel
theorem dX5_takes_113 : decode cX5_takes 113 = .ok (.goto (-25), 3) := by decide +kernel
theorem dX5_takes_116 : decode cX5_takes 116 = .ok (.iconst 1, 1) := by decide +kernel
theorem dX5_takes_117 : decode cX5_takes 117 = .ok (.ireturn, 1) := by decide +kernel
theorem dX5_takes_118 : decode cX5_takes 118 = .ok (.aload_n 0, 1) := by decide +kernel
theorem dX5_takes_119 : decode cX5_takes 119 = .ok (.getfield 19, 3) := by decide +kernel
theorem dX5_takes_122 : decode cX5_takes 122 = .ok (.bipush 41, 2) := by decide +kernel
theorem dX5_takes_124 : decode cX5_takes 124 = .ok (.aload_n 0, 1) := by decide +kernel
theorem dX5_takes_125 : decode cX5_takes 125 = .ok (.getfield 53, 3) := by decide +kernel
theorem dX5_takes_128 : decode cX5_takes 128 = .ok (.iconst 0, 1) := by decide +kernel
theorem dX5_takes_129 : decode cX5_takes 129 = .ok (.iaload, 1) := by decide +kernel
theorem dX5_takes_130 : decode cX5_takes 130 = .ok (.iastore, 1) := by decide +kernel
theorem dX5_takes_131 : decode cX5_takes 131 = .ok (.aload_n 0, 1) := by decide +kernel
theorem dX5_takes_132 : decode cX5_takes 132 = .ok (.getfield 53, 3) := by decide +kernel
theorem dX5_takes_135 : decode cX5_takes 135 = .ok (.iconst 0, 1) := by decide +kernel
theorem dX5_takes_136 : decode cX5_takes 136 = .ok (.iaload, 1) := by decide +kernel
theorem dX5_takes_137 : decode cX5_takes 137 = .ok (.iconst 2, 1) := by decide +kernel
theorem dX5_takes_138 : decode cX5_takes 138 = .ok (.if_icmp .lt 18, 3) := by decide +kernel
theorem dX5_takes_141 : decode cX5_takes 141 = .ok (.aload_n 0, 1) := by decide +kernel
theorem dX5_takes_142 : decode cX5_takes 142 = .ok (.getfield 53, 3) := by decide +kernel
theorem dX5_takes_145 : decode cX5_takes 145 = .ok (.iconst 0, 1) := by decide +kernel
theorem dX5_takes_146 : decode cX5_takes 146 = .ok (.iaload, 1) := by decide +kernel
theorem dX5_takes_147 : decode cX5_takes 147 = .ok (.bipush 7, 2) := by decide +kernel
theorem dX5_takes_149 : decode cX5_takes 149 = .ok (.if_icmp .gt 7, 3) := by decide +kernel
theorem dX5_takes_152 : decode cX5_takes 152 = .ok (.iconst 1, 1) := by decide +kernel
theorem dX5_takes_153 : decode cX5_takes 153 = .ok (.goto 4, 3) := by decide +kernel
theorem dX5_takes_156 : decode cX5_takes 156 = .ok (.iconst 0, 1) := by decide +kernel
theorem dX5_takes_157 : decode cX5_takes 157 = .ok (.ireturn, 1) := by decide +kernel
theorem dX5_takes_158 : decode cX5_takes 158 = .ok (.aload_n 0, 1) := by decide +kernel
theorem dX5_takes_159 : decode cX5_takes 159 = .ok (.getfield 19, 3) := by decide +kernel
theorem dX5_takes_162 : decode cX5_takes 162 = .ok (.bipush 46, 2) := by decide +kernel
theorem dX5_takes_164 : decode cX5_takes 164 = .ok (.aload_n 0, 1) := by decide +kernel
theorem dX5_takes_165 : decode cX5_takes 165 = .ok (.getfield 53, 3) := by decide +kernel
theorem dX5_takes_168 : decode cX5_takes 168 = .ok (.iconst 0, 1) := by decide +kernel
theorem dX5_takes_169 : decode cX5_takes 169 = .ok (.iaload, 1) := by decide +kernel
theorem dX5_takes_170 : decode cX5_takes 170 = .ok (.iastore, 1) := by decide +kernel
theorem dX5_takes_171 : decode cX5_takes 171 = .ok (.aload_n 0, 1) := by decide +kernel
theorem dX5_takes_172 : decode cX5_takes 172 = .ok (.getfield 19, 3) := by decide +kernel
theorem dX5_takes_175 : decode cX5_takes 175 = .ok (.bipush 42, 2) := by decide +kernel
theorem dX5_takes_177 : decode cX5_takes 177 = .ok (.aload_n 0, 1) := by decide +kernel
theorem dX5_takes_178 : decode cX5_takes 178 = .ok (.getfield 53, 3) := by decide +kernel
theorem dX5_takes_181 : decode cX5_takes 181 = .ok (.iconst 1, 1) := by decide +kernel
theorem dX5_takes_182 : decode cX5_takes 182 = .ok (.iaload, 1) := by decide +kernel
theorem dX5_takes_183 : decode cX5_takes 183 = .ok (.iastore, 1) := by decide +kernel
theorem dX5_takes_184 : decode cX5_takes 184 = .ok (.aload_n 0, 1) := by decide +kernel
theorem dX5_takes_185 : decode cX5_takes 185 = .ok (.getfield 53, 3) := by decide +kernel
theorem dX5_takes_188 : decode cX5_takes 188 = .ok (.iconst 1, 1) := by decide +kernel
theorem dX5_takes_189 : decode cX5_takes 189 = .ok (.iaload, 1) := by decide +kernel
theorem dX5_takes_190 : decode cX5_takes 190 = .ok (.ifCond .le 7, 3) := by decide +kernel
theorem dX5_takes_193 : decode cX5_takes 193 = .ok (.iconst 1, 1) := by decide +kernel
theorem dX5_takes_194 : decode cX5_takes 194 = .ok (.goto 4, 3) := by decide +kernel
theorem dX5_takes_197 : decode cX5_takes 197 = .ok (.iconst 0, 1) := by decide +kernel
theorem dX5_takes_198 : decode cX5_takes 198 = .ok (.ireturn, 1) := by decide +kernel
theorem dX5_takes_199 : decode cX5_takes 199 = .ok (.aload_n 0, 1) := by decide +kernel
theorem dX5_takes_200 : decode cX5_takes 200 = .ok (.getfield 19, 3) := by decide +kernel
theorem dX5_takes_203 : decode cX5_takes 203 = .ok (.bipush 47, 2) := by decide +kernel
theorem dX5_takes_205 : decode cX5_takes 205 = .ok (.aload_n 0, 1) := by decide +kernel
theorem dX5_takes_206 : decode cX5_takes 206 = .ok (.getfield 53, 3) := by decide +kernel
theorem dX5_takes_209 : decode cX5_takes 209 = .ok (.iconst 0, 1) := by decide +kernel
theorem dX5_takes_210 : decode cX5_takes 210 = .ok (.iaload, 1) := by decide +kernel
theorem dX5_takes_211 : decode cX5_takes 211 = .ok (.iastore, 1) := by decide +kernel
theorem dX5_takes_212 : decode cX5_takes 212 = .ok (.aload_n 0, 1) := by decide +kernel
theorem dX5_takes_213 : decode cX5_takes 213 = .ok (.getfield 19, 3) := by decide +kernel
theorem dX5_takes_216 : decode cX5_takes 216 = .ok (.bipush 43, 2) := by decide +kernel
theorem dX5_takes_218 : decode cX5_takes 218 = .ok (.aload_n 0, 1) := by decide +kernel
theorem dX5_takes_219 : decode cX5_takes 219 = .ok (.getfield 53, 3) := by decide +kernel
theorem dX5_takes_222 : decode cX5_takes 222 = .ok (.iconst 1, 1) := by decide +kernel
theorem dX5_takes_223 : decode cX5_takes 223 = .ok (.iaload, 1) := by decide +kernel
theorem dX5_takes_224 : decode cX5_takes 224 = .ok (.iastore, 1) := by decide +kernel
theorem dX5_takes_225 : decode cX5_takes 225 = .ok (.iconst 1, 1) := by decide +kernel
theorem dX5_takes_226 : decode cX5_takes 226 = .ok (.ireturn, 1) := by decide +kernel
theorem dX5_takes_227 : decode cX5_takes 227 = .ok (.aload_n 0, 1) := by decide +kernel
theorem dX5_takes_228 : decode cX5_takes 228 = .ok (.getfield 19, 3) := by decide +kernel
theorem dX5_takes_231 : decode cX5_takes 231 = .ok (.bipush 44, 2) := by decide +kernel
theorem dX5_takes_233 : decode cX5_takes 233 = .ok (.aload_n 0, 1) := by decide +kernel
theorem dX5_takes_234 : decode cX5_takes 234 = .ok (.getfield 53, 3) := by decide +kernel
theorem dX5_takes_237 : decode cX5_takes 237 = .ok (.iconst 0, 1) := by decide +kernel
theorem dX5_takes_238 : decode cX5_takes 238 = .ok (.iaload, 1) := by decide +kernel
theorem dX5_takes_239 : decode cX5_takes 239 = .ok (.iastore, 1) := by decide +kernel
theorem dX5_takes_240 : decode cX5_takes 240 = .ok (.aload_n 0, 1) := by decide +kernel
theorem dX5_takes_241 : decode cX5_takes 241 = .ok (.getfield 19, 3) := by decide +kernel
theorem dX5_takes_244 : decode cX5_takes 244 = .ok (.bipush 45, 2) := by decide +kernel
theorem dX5_takes_246 : decode cX5_takes 246 = .ok (.aload_n 0, 1) := by decide +kernel
theorem dX5_takes_247 : decode cX5_takes 247 = .ok (.getfield 53, 3) := by decide +kernel
theorem dX5_takes_250 : decode cX5_takes 250 = .ok (.iconst 1, 1) := by decide +kernel
theorem dX5_takes_251 : decode cX5_takes 251 = .ok (.iaload, 1) := by decide +kernel
theorem dX5_takes_252 : decode cX5_takes 252 = .ok (.iastore, 1) := by decide +kernel
theorem dX5_takes_253 : decode cX5_takes 253 = .ok (.iconst 1, 1) := by decide +kernel
theorem dX5_takes_254 : decode cX5_takes 254 = .ok (.ireturn, 1) := by decide +kernel
theorem dX5_takes_255 : decode cX5_takes 255 = .ok (.aload_n 0, 1) := by decide +kernel
theorem dX5_takes_256 : decode cX5_takes 256 = .ok (.getfield 53, 3) := by decide +kernel
theorem dX5_takes_259 : decode cX5_takes 259 = .ok (.iconst 0, 1) := by decide +kernel
theorem dX5_takes_260 : decode cX5_takes 260 = .ok (.iaload, 1) := by decide +kernel
theorem dX5_takes_261 : decode cX5_takes 261 = .ok (.invokestatic 93, 3) := by decide +kernel
theorem dX5_takes_264 : decode cX5_takes 264 = .ok (.ifCond .ne 51, 3) := by decide +kernel
theorem dX5_takes_267 : decode cX5_takes 267 = .ok (.aload_n 0, 1) := by decide +kernel
theorem dX5_takes_268 : decode cX5_takes 268 = .ok (.aload_n 0, 1) := by decide +kernel
theorem dX5_takes_269 : decode cX5_takes 269 = .ok (.getfield 53, 3) := by decide +kernel
theorem dX5_takes_272 : decode cX5_takes 272 = .ok (.iconst 1, 1) := by decide +kernel
theorem dX5_takes_273 : decode cX5_takes 273 = .ok (.iaload, 1) := by decide +kernel
theorem dX5_takes_274 : decode cX5_takes 274 = .ok (.invokevirtual 108, 3) := by decide +kernel
theorem dX5_takes_277 : decode cX5_takes 277 = .ok (.ifCond .ne 38, 3) := by decide +kernel
theorem dX5_takes_280 : decode cX5_takes 280 = .ok (.aload_n 0, 1) := by decide +kernel
theorem dX5_takes_281 : decode cX5_takes 281 = .ok (.getfield 19, 3) := by decide +kernel
theorem dX5_takes_284 : decode cX5_takes 284 = .ok (.bipush 48, 2) := by decide +kernel
theorem dX5_takes_286 : decode cX5_takes 286 = .ok (.iaload, 1) := by decide +kernel
theorem dX5_takes_287 : decode cX5_takes 287 = .ok (.bipush 99, 2) := by decide +kernel
theorem dX5_takes_289 : decode cX5_takes 289 = .ok (.if_icmp .eq 26, 3) := by decide +kernel
theorem dX5_takes_292 : decode cX5_takes 292 = .ok (.aload_n 0, 1) := by decide +kernel
theorem dX5_takes_293 : decode cX5_takes 293 = .ok (.aload_n 0, 1) := by decide +kernel
theorem dX5_takes_294 : decode cX5_takes 294 = .ok (.getfield 19, 3) := by decide +kernel
theorem dX5_takes_297 : decode cX5_takes 297 = .ok (.aload_n 0, 1) := by decide +kernel
theorem dX5_takes_298 : decode cX5_takes 298 = .ok (.getfield 53, 3) := by decide +kernel
theorem dX5_takes_301 : decode cX5_takes 301 = .ok (.iconst 0, 1) := by decide +kernel
theorem dX5_takes_302 : decode cX5_takes 302 = .ok (.iaload, 1) := by decide +kernel
theorem dX5_takes_303 : decode cX5_takes 303 = .ok (.aload_n 0, 1) := by decide +kernel
theorem dX5_takes_304 : decode cX5_takes 304 = .ok (.getfield 53, 3) := by decide +kernel

set_option maxRecDepth 20000 in
theorem ggX3_firstMisfit_J0_length_8abf5 : GoodIn wsX3_firstMisfit wsJ0_length_8abf5 := goodIn_r _ [20, 16, 21, 22, 23, 14, 24, 25, 26] (by decide +kernel) (by decide +kernel)
set_option maxRecDepth 20000 in
theorem gX3_firstMisfit_J0_length_8abf5 : GoodIn wsX3_firstMisfit (wsV RX3 39 RJ0 yJ0_length_8abf5 wsJ0_length_8abf5) := goodIn_app (goodIn_of _ (by decide +kernel)) ggX3_firstMisfit_J0_length_8abf5
set_option maxRecDepth 20000 in
theorem ggX3_firstMisfit_J0_charAt_5068e : GoodIn wsX3_firstMisfit wsJ0_charAt_5068e := goodIn_r _ [30, 16, 31, 32, 33, 14, 34, 25, 26, 35, 36, 37, 38, 39, 40, 41, 42, 43, 44, 45, 46, 47, 48, 49, 50, 51, 52, 53, 54, 55, 56, 57, 58, 59, 60, 61, 62, 63] (by decide +kernel) (by decide +kernel)
set_option maxRecDepth 20000 in
theorem gX3_firstMisfit_J0_charAt_5068e : GoodIn wsX3_firstMisfit (wsV RX3 47 RJ0 yJ0_charAt_5068e wsJ0_charAt_5068e) := goodIn_app (goodIn_of _ (by decide +kernel)) ggX3_firstMisfit_J0_charAt_5068e
set_option maxRecDepth 20000 in
theorem ggX3_firstMisfit_X3_fits : GoodIn wsX3_firstMisfit wsX3_fits := goodIn_r _ [66, 67, 68, 5, 69, 70, 71, 72, 14, 73, 74, 75, 76, 77, 16, 31, 32, 33, 34, 25, 26, 78, 18, 19, 20, 21, 22, 23, 24, 79, 80, 37, 81, 82, 83, 84, 85, 86, 87, 88, 89, 90, 91, 92, 93, 94, 95, 96, 49, 97, 98, 99, 100, 101, 102, 103, 104, 105, 106, 54, 55, 56, 107, 108, 109, 42, 110, 111, 45, 112, 113, 114, 115, 58, 59, 60, 61, 62, 63, 116, 117, 118, 119, 120, 121, 122, 123, 124, 125, 126, 127, 128, 129, 130] (by decide +kernel) (by decide +kernel)
set_option maxRecDepth 20000 in
theorem gX3_firstMisfit_X3_fits : GoodIn wsX3_firstMisfit (va_wsS RX3 51 yX3_fits wsX3_fits) := goodIn_app (goodIn_of _ (by decide +kernel)) ggX3_firstMisfit_X3_fits
theorem dX3_firstMisfit_0 : decode cX3_firstMisfit 0 = .ok (.iconst 0, 1) := by decide +kernel
theorem dX3_firstMisfit_1 : decode cX3_firstMisfit 1 = .ok (.istore_n 1, 1) := by decide +kernel
theorem dX3_firstMisfit_2 : decode cX3_firstMisfit 2 = .ok (.aload_n 0, 1) := by decide +kernel
theorem dX3_firstMisfit_3 : decode cX3_firstMisfit 3 = .ok (.iload_n 1, 1) := by decide +kernel
theorem dX3_firstMisfit_4 : decode cX3_firstMisfit 4 = .ok (.invokevirtual 31, 3) := by decide +kernel
theorem dX3_firstMisfit_7 : decode cX3_firstMisfit 7 = .ok (.invokestatic 35, 3) := by decide +kernel
theorem dX3_firstMisfit_10 : decode cX3_firstMisfit 10 = .ok (.astore_n 2, 1) := by decide +kernel
theorem dX3_firstMisfit_11 : decode cX3_firstMisfit 11 = .ok (.aload_n 2, 1) := by decide +kernel
theorem dX3_firstMisfit_12 : decode cX3_firstMisfit 12 = .ok (.invokevirtual 44, 3) := by decide +kernel
theorem dX3_firstMisfit_15 : decode cX3_firstMisfit 15 = .ok (.ifCond .eq 5, 3) := by decide +kernel
theorem dX3_firstMisfit_18 : decode cX3_firstMisfit 18 = .ok (.iload_n 1, 1) := by decide +kernel
theorem dX3_firstMisfit_19 : decode cX3_firstMisfit 19 = .ok (.ireturn, 1) := by decide +kernel
theorem dX3_firstMisfit_20 : decode cX3_firstMisfit 20 = .ok (.iinc 1 1, 3) := by decide +kernel
theorem dX3_firstMisfit_23 : decode cX3_firstMisfit 23 = .ok (.iconst 0, 1) := by decide +kernel
theorem dX3_firstMisfit_24 : decode cX3_firstMisfit 24 = .ok (.istore_n 3, 1) := by decide +kernel
theorem dX3_firstMisfit_25 : decode cX3_firstMisfit 25 = .ok (.iload_n 3, 1) := by decide +kernel
theorem dX3_firstMisfit_26 : decode cX3_firstMisfit 26 = .ok (.aload_n 2, 1) := by decide +kernel
theorem dX3_firstMisfit_27 : decode cX3_firstMisfit 27 = .ok (.invokevirtual 39, 3) := by decide +kernel
theorem dX3_firstMisfit_30 : decode cX3_firstMisfit 30 = .ok (.if_icmp .ge 30, 3) := by decide +kernel
theorem dX3_firstMisfit_33 : decode cX3_firstMisfit 33 = .ok (.aload_n 2, 1) := by decide +kernel
theorem dX3_firstMisfit_34 : decode cX3_firstMisfit 34 = .ok (.iload_n 3, 1) := by decide +kernel
theorem dX3_firstMisfit_35 : decode cX3_firstMisfit 35 = .ok (.invokevirtual 47, 3) := by decide +kernel
theorem dX3_firstMisfit_38 : decode cX3_firstMisfit 38 = .ok (.aload_n 0, 1) := by decide +kernel
theorem dX3_firstMisfit_39 : decode cX3_firstMisfit 39 = .ok (.iload_n 1, 1) := by decide +kernel
theorem dX3_firstMisfit_40 : decode cX3_firstMisfit 40 = .ok (.invokevirtual 31, 3) := by decide +kernel
theorem dX3_firstMisfit_43 : decode cX3_firstMisfit 43 = .ok (.invokestatic 51, 3) := by decide +kernel
theorem dX3_firstMisfit_46 : decode cX3_firstMisfit 46 = .ok (.ifCond .ne 5, 3) := by decide +kernel
theorem dX3_firstMisfit_49 : decode cX3_firstMisfit 49 = .ok (.iload_n 1, 1) := by decide +kernel
theorem dX3_firstMisfit_50 : decode cX3_firstMisfit 50 = .ok (.ireturn, 1) := by decide +kernel
theorem dX3_firstMisfit_51 : decode cX3_firstMisfit 51 = .ok (.iinc 1 1, 3) := by decide +kernel
theorem dX3_firstMisfit_54 : decode cX3_firstMisfit 54 = .ok (.iinc 3 1, 3) := by decide +kernel
theorem dX3_firstMisfit_57 : decode cX3_firstMisfit 57 = .ok (.goto (-32), 3) := by decide +kernel
theorem dX3_firstMisfit_60 : decode cX3_firstMisfit 60 = .ok (.iload_n 1, 1) := by decide +kernel
theorem dX3_firstMisfit_61 : decode cX3_firstMisfit 61 = .ok (.aload_n 0, 1) := by decide +kernel
theorem dX3_firstMisfit_62 : decode cX3_firstMisfit 62 = .ok (.getfield 15, 3) := by decide +kernel
theorem dX3_firstMisfit_65 : decode cX3_firstMisfit 65 = .ok (.if_icmp .lt (-63), 3) := by decide +kernel
theorem dX3_firstMisfit_68 : decode cX3_firstMisfit 68 = .ok (.bipush (-9), 2) := by decide +kernel
theorem dX3_firstMisfit_70 : decode cX3_firstMisfit 70 = .ok (.ireturn, 1) := by decide +kernel
theorem dX3_formOf_0 : decode cX3_formOf 0 = .ok (.iload_n 0, 1) := by decide +kernel
theorem dX3_formOf_1 : decode cX3_formOf 1 = .ok (.tableswitch 109 98 116 #[94, 109, 109, 100, 109, 109, 109, 109, 109, 109, 91, 109, 109, 109, 103, 109, 109, 97, 106], 91) := by decide +kernel
theorem dX3_formOf_92 : decode cX3_formOf 92 = .ok (.ldc 55, 2) := by decide +kernel
theorem dX3_formOf_94 : decode cX3_formOf 94 = .ok (.areturn, 1) := by decide +kernel
theorem dX3_formOf_95 : decode cX3_formOf 95 = .ok (.ldc 57, 2) := by decide +kernel
theorem dX3_formOf_97 : decode cX3_formOf 97 = .ok (.areturn, 1) := by decide +kernel
theorem dX3_formOf_98 : decode cX3_formOf 98 = .ok (.ldc 59, 2) := by decide +kernel
theorem dX3_formOf_100 : decode cX3_formOf 100 = .ok (.areturn, 1) := by decide +kernel
theorem dX3_formOf_101 : decode cX3_formOf 101 = .ok (.ldc 61, 2) := by decide +kernel
theorem dX3_formOf_103 : decode cX3_formOf 103 = .ok (.areturn, 1) := by decide +kernel
theorem dX3_formOf_104 : decode cX3_formOf 104 = .ok (.ldc 63, 2) := by decide +kernel
theorem dX3_formOf_106 : decode cX3_formOf 106 = .ok (.areturn, 1) := by decide +kernel
theorem dX3_formOf_107 : decode cX3_formOf 107 = .ok (.ldc 65, 2) := by decide +kernel
theorem dX3_formOf_109 : decode cX3_formOf 109 = .ok (.areturn, 1) := by decide +kernel
theorem dX3_formOf_110 : decode cX3_formOf 110 = .ok (.ldc 67, 2) := by decide +kernel
theorem dX3_formOf_112 : decode cX3_formOf 112 = .ok (.areturn, 1) := by decide +kernel
set_option maxRecDepth 20000 in
theorem ggX3_fits_X3_kindOf : GoodIn wsX3_fits wsX3_kindOf := goodIn_r _ [4, 5, 6, 7, 8, 9, 10, 11, 12, 13, 14, 15, 16, 17, 18, 19, 20, 21, 22, 23, 24, 25, 26, 27, 28, 29, 30, 31, 32, 33, 34, 35, 36, 37, 38, 39, 40, 41, 42, 43, 44, 45, 46, 47, 48, 49, 50, 51, 52, 53, 54, 55, 56, 57, 58, 59, 60, 61, 62, 63, 64, 65, 66, 67, 68, 69, 70, 71, 72, 73, 74, 75, 76, 77, 78, 79, 80, 81, 82, 83, 84, 85, 86, 87, 88, 89, 90, 91, 92, 93] (by decide +kernel) (by decide +kernel)
set_option maxRecDepth 20000 in
theorem gX3_fits_X3_kindOf : GoodIn wsX3_fits (va_wsS RX3 71 yX3_kindOf wsX3_kindOf) := goodIn_app (goodIn_of _ (by decide +kernel)) ggX3_fits_X3_kindOf
theorem dX3_fits_0 : decode cX3_fits 0 = .ok (.iload_n 0, 1) := by decide +kernel
theorem dX3_fits_1 : decode cX3_fits 1 = .ok (.lookupswitch 83 #[(48, 35), (101, 68), (115, 53)], 35) := by decide +kernel
theorem dX3_fits_36 : decode cX3_fits 36 = .ok (.iload_n 1, 1) := by decide +kernel
theorem dX3_fits_37 : decode cX3_fits 37 = .ok (.bipush 48, 2) := by decide +kernel
theorem dX3_fits_39 : decode cX3_fits 39 = .ok (.if_icmp .lt 13, 3) := by decide +kernel
theorem dX3_fits_42 : decode cX3_fits 42 = .ok (.iload_n 1, 1) := by decide +kernel
theorem dX3_fits_43 : decode cX3_fits 43 = .ok (.bipush 57, 2) := by decide +kernel
theorem dX3_fits_45 : decode cX3_fits 45 = .ok (.if_icmp .gt 7, 3) := by decide +kernel
theorem dX3_fits_48 : decode cX3_fits 48 = .ok (.iconst 1, 1) := by decide +kernel
theorem dX3_fits_49 : decode cX3_fits 49 = .ok (.goto 4, 3) := by decide +kernel
theorem dX3_fits_52 : decode cX3_fits 52 = .ok (.iconst 0, 1) := by decide +kernel
theorem dX3_fits_53 : decode cX3_fits 53 = .ok (.ireturn, 1) := by decide +kernel
theorem dX3_fits_54 : decode cX3_fits 54 = .ok (.ldc 69, 2) := by decide +kernel
theorem dX3_fits_56 : decode cX3_fits 56 = .ok (.iload_n 1, 1) := by decide +kernel
theorem dX3_fits_57 : decode cX3_fits 57 = .ok (.invokestatic 71, 3) := by decide +kernel
theorem dX3_fits_60 : decode cX3_fits 60 = .ok (.ifCond .lt 7, 3) := by decide +kernel
theorem dX3_fits_63 : decode cX3_fits 63 = .ok (.iconst 1, 1) := by decide +kernel
theorem dX3_fits_64 : decode cX3_fits 64 = .ok (.goto 4, 3) := by decide +kernel
theorem dX3_fits_67 : decode cX3_fits 67 = .ok (.iconst 0, 1) := by decide +kernel
theorem dX3_fits_68 : decode cX3_fits 68 = .ok (.ireturn, 1) := by decide +kernel
theorem dX3_fits_69 : decode cX3_fits 69 = .ok (.ldc 75, 2) := by decide +kernel
theorem dX3_fits_71 : decode cX3_fits 71 = .ok (.iload_n 1, 1) := by decide +kernel
theorem dX3_fits_72 : decode cX3_fits 72 = .ok (.invokestatic 71, 3) := by decide +kernel
theorem dX3_fits_75 : decode cX3_fits 75 = .ok (.ifCond .lt 7, 3) := by decide +kernel
theorem dX3_fits_78 : decode cX3_fits 78 = .ok (.iconst 1, 1) := by decide +kernel
theorem dX3_fits_79 : decode cX3_fits 79 = .ok (.goto 4, 3) := by decide +kernel
theorem dX3_fits_82 : decode cX3_fits 82 = .ok (.iconst 0, 1) := by decide +kernel
theorem dX3_fits_83 : decode cX3_fits 83 = .ok (.ireturn, 1) := by decide +kernel
theorem dX3_fits_84 : decode cX3_fits 84 = .ok (.iload_n 1, 1) := by decide +kernel
theorem dX3_fits_85 : decode cX3_fits 85 = .ok (.iload_n 0, 1) := by decide +kernel
theorem dX3_fits_86 : decode cX3_fits 86 = .ok (.if_icmp .ne 7, 3) := by decide +kernel
theorem dX3_fits_89 : decode cX3_fits 89 = .ok (.iconst 1, 1) := by decide +kernel
theorem dX3_fits_90 : decode cX3_fits 90 = .ok (.goto 4, 3) := by decide +kernel
theorem dX3_fits_93 : decode cX3_fits 93 = .ok (.iconst 0, 1) := by decide +kernel
theorem dX3_fits_94 : decode cX3_fits 94 = .ok (.ireturn, 1) := by decide +kernel
set_option maxRecDepth 20000 in
theorem ggX3_comes_X3_letterAt : GoodIn wsX3_comes wsX3_letterAt := goodIn_r _ [5, 6, 7, 180, 181] (by decide +kernel) (by decide +kernel)
set_option maxRecDepth 20000 in
theorem gX3_comes_X3_letterAt : GoodIn wsX3_comes (wsV RX3 31 RX3 yX3_letterAt wsX3_letterAt) := goodIn_app (goodIn_of _ (by decide +kernel)) ggX3_comes_X3_letterAt
set_option maxRecDepth 20000 in
theorem ggX3_comes_X3_pairAt : GoodIn wsX3_comes wsX3_pairAt := goodIn_r _ [11, 12, 13, 14, 4, 15, 1, 2, 3, 5, 6, 7, 180, 181] (by decide +kernel) (by decide +kernel)
set_option maxRecDepth 20000 in
theorem gX3_comes_X3_pairAt : GoodIn wsX3_comes (wsV RX3 77 RX3 yX3_pairAt wsX3_pairAt) := goodIn_app (goodIn_of _ (by decide +kernel)) ggX3_comes_X3_pairAt
set_option maxRecDepth 20000 in
theorem ggX3_comes_X3_digitAt : GoodIn wsX3_comes wsX3_digitAt := goodIn_r _ [15, 1, 2, 3, 4, 5, 6, 7, 180, 181] (by decide +kernel) (by decide +kernel)
set_option maxRecDepth 20000 in
theorem gX3_comes_X3_digitAt : GoodIn wsX3_comes (wsV RX3 80 RX3 yX3_digitAt wsX3_digitAt) := goodIn_app (goodIn_of _ (by decide +kernel)) ggX3_comes_X3_digitAt
set_option maxRecDepth 20000 in
theorem ggX3_comes_X0_putLikely : GoodIn wsX3_comes wsX0_putLikely := goodIn_r _ [20, 21, 22, 23, 24, 182, 183, 184, 185, 186] (by decide +kernel) (by decide +kernel)
set_option maxRecDepth 20000 in
theorem gX3_comes_X0_putLikely : GoodIn wsX3_comes (wsV RX3 83 RX0 yX0_putLikely wsX0_putLikely) := goodIn_app (goodIn_of _ (by decide +kernel)) ggX3_comes_X0_putLikely
set_option maxRecDepth 20000 in
theorem ggX3_comes_X0_putNumber : GoodIn wsX3_comes wsX0_putNumber := goodIn_r _ [28, 29, 182, 183, 184, 185, 186] (by decide +kernel) (by decide +kernel)
set_option maxRecDepth 20000 in
theorem gX3_comes_X0_putNumber : GoodIn wsX3_comes (wsV RX3 89 RX0 yX0_putNumber wsX0_putNumber) := goodIn_app (goodIn_of _ (by decide +kernel)) ggX3_comes_X0_putNumber
set_option maxRecDepth 20000 in
theorem ggX3_comes_X3_kindOf : GoodIn wsX3_comes wsX3_kindOf := goodIn_r _ [32, 33, 34, 35, 36, 37, 38, 39, 40, 41, 42, 43, 44, 45, 46, 47, 48, 49, 50, 51, 52, 53, 54, 55, 56, 57, 58, 59, 60, 61, 62, 63, 64, 65, 66, 67, 68, 69, 70, 71, 72, 73, 74, 75, 76, 77, 78, 79, 80, 81, 82, 83, 84, 85, 86, 87, 88, 89, 90, 91, 92, 93, 94, 95, 96, 97, 98, 99, 100, 101, 102, 103, 104, 105, 106, 107, 108, 109, 110, 111, 112, 113, 114, 115, 116, 117, 118, 119, 120, 121] (by decide +kernel) (by decide +kernel)
set_option maxRecDepth 20000 in
theorem gX3_comes_X3_kindOf : GoodIn wsX3_comes (va_wsS RX3 71 yX3_kindOf wsX3_kindOf) := goodIn_app (goodIn_of _ (by decide +kernel)) ggX3_comes_X3_kindOf
set_option maxRecDepth 20000 in
theorem ggX3_comes_X3_stripKindComes : GoodIn wsX3_comes wsX3_stripKindComes := goodIn_r _ [124, 125, 126, 23, 127, 25, 26, 27, 19, 28, 29, 182, 183, 184, 185, 186] (by decide +kernel) (by decide +kernel)
set_option maxRecDepth 20000 in
theorem gX3_comes_X3_stripKindComes : GoodIn wsX3_comes (va_wsS RX3 93 yX3_stripKindComes wsX3_stripKindComes) := goodIn_app (goodIn_of _ (by decide +kernel)) ggX3_comes_X3_stripKindComes
set_option maxRecDepth 20000 in
theorem ggX3_comes_X3_eyeKindComes : GoodIn wsX3_comes wsX3_eyeKindComes := goodIn_r _ [130, 131, 132, 23, 133, 25, 26, 27, 19, 28, 29, 182, 183, 184, 185, 186] (by decide +kernel) (by decide +kernel)
set_option maxRecDepth 20000 in
theorem gX3_comes_X3_eyeKindComes : GoodIn wsX3_comes (va_wsS RX3 97 yX3_eyeKindComes wsX3_eyeKindComes) := goodIn_app (goodIn_of _ (by decide +kernel)) ggX3_comes_X3_eyeKindComes
set_option maxRecDepth 20000 in
theorem ggX3_comes_X3_toldStripComes : GoodIn wsX3_comes wsX3_toldStripComes := goodIn_r _ [136, 137, 22, 23, 24, 138, 139, 140, 19, 141, 142, 21, 143, 29, 144, 145, 146, 147, 148, 149, 150, 66, 63, 67, 151, 152, 153, 154, 155, 156, 157, 158, 159, 160, 161, 162, 163, 164, 165, 166, 167, 168, 169, 170, 171, 172, 62, 64, 173, 174, 175, 176, 177, 178, 179, 182, 183, 184, 185, 186, 187, 188] (by decide +kernel) (by decide +kernel)
set_option maxRecDepth 20000 in
theorem gX3_comes_X3_toldStripComes : GoodIn wsX3_comes (va_wsS RX3 100 yX3_toldStripComes wsX3_toldStripComes) := goodIn_app (goodIn_of _ (by decide +kernel)) ggX3_comes_X3_toldStripComes
theorem dX3_comes_0 : decode cX3_comes 0 = .ok (.aload_n 0, 1) := by decide +kernel
theorem dX3_comes_1 : decode cX3_comes 1 = .ok (.iload_n 1, 1) := by decide +kernel
theorem dX3_comes_2 : decode cX3_comes 2 = .ok (.invokevirtual 31, 3) := by decide +kernel
theorem dX3_comes_5 : decode cX3_comes 5 = .ok (.tableswitch 234 98 116 #[117, 234, 234, 154, 234, 234, 234, 234, 234, 234, 91, 234, 234, 234, 178, 234, 234, 130, 214], 91) := by decide +kernel
theorem dX3_comes_96 : decode cX3_comes 96 = .ok (.aload_n 2, 1) := by decide +kernel
theorem dX3_comes_97 : decode cX3_comes 97 = .ok (.aload_n 0, 1) := by decide +kernel
theorem dX3_comes_98 : decode cX3_comes 98 = .ok (.iload_n 1, 1) := by decide +kernel
theorem dX3_comes_99 : decode cX3_comes 99 = .ok (.iconst 1, 1) := by decide +kernel
theorem dX3_comes_100 : decode cX3_comes 100 = .ok (.iadd, 1) := by decide +kernel
theorem dX3_comes_101 : decode cX3_comes 101 = .ok (.invokevirtual 77, 3) := by decide +kernel
theorem dX3_comes_104 : decode cX3_comes 104 = .ok (.aload_n 0, 1) := by decide +kernel
theorem dX3_comes_105 : decode cX3_comes 105 = .ok (.iload_n 1, 1) := by decide +kernel
theorem dX3_comes_106 : decode cX3_comes 106 = .ok (.iconst 3, 1) := by decide +kernel
theorem dX3_comes_107 : decode cX3_comes 107 = .ok (.iadd, 1) := by decide +kernel
theorem dX3_comes_108 : decode cX3_comes 108 = .ok (.invokevirtual 77, 3) := by decide +kernel
theorem dX3_comes_111 : decode cX3_comes 111 = .ok (.aload_n 0, 1) := by decide +kernel
theorem dX3_comes_112 : decode cX3_comes 112 = .ok (.iload_n 1, 1) := by decide +kernel
theorem dX3_comes_113 : decode cX3_comes 113 = .ok (.iconst 5, 1) := by decide +kernel
theorem dX3_comes_114 : decode cX3_comes 114 = .ok (.iadd, 1) := by decide +kernel
theorem dX3_comes_115 : decode cX3_comes 115 = .ok (.invokevirtual 80, 3) := by decide +kernel
theorem dX3_comes_118 : decode cX3_comes 118 = .ok (.invokevirtual 83, 3) := by decide +kernel
theorem dX3_comes_121 : decode cX3_comes 121 = .ok (.ireturn, 1) := by decide +kernel
theorem dX3_comes_122 : decode cX3_comes 122 = .ok (.aload_n 2, 1) := by decide +kernel
theorem dX3_comes_123 : decode cX3_comes 123 = .ok (.iconst 0, 1) := by decide +kernel
theorem dX3_comes_124 : decode cX3_comes 124 = .ok (.aload_n 0, 1) := by decide +kernel
theorem dX3_comes_125 : decode cX3_comes 125 = .ok (.iload_n 1, 1) := by decide +kernel
theorem dX3_comes_126 : decode cX3_comes 126 = .ok (.iconst 1, 1) := by decide +kernel
theorem dX3_comes_127 : decode cX3_comes 127 = .ok (.iadd, 1) := by decide +kernel
theorem dX3_comes_128 : decode cX3_comes 128 = .ok (.invokevirtual 80, 3) := by decide +kernel
theorem dX3_comes_131 : decode cX3_comes 131 = .ok (.invokevirtual 89, 3) := by decide +kernel
theorem dX3_comes_134 : decode cX3_comes 134 = .ok (.ireturn, 1) := by decide +kernel
theorem dX3_comes_135 : decode cX3_comes 135 = .ok (.ldc 69, 2) := by decide +kernel
theorem dX3_comes_137 : decode cX3_comes 137 = .ok (.aload_n 0, 1) := by decide +kernel
theorem dX3_comes_138 : decode cX3_comes 138 = .ok (.iload_n 1, 1) := by decide +kernel
theorem dX3_comes_139 : decode cX3_comes 139 = .ok (.iconst 1, 1) := by decide +kernel
theorem dX3_comes_140 : decode cX3_comes 140 = .ok (.iadd, 1) := by decide +kernel
theorem dX3_comes_141 : decode cX3_comes 141 = .ok (.invokevirtual 31, 3) := by decide +kernel
theorem dX3_comes_144 : decode cX3_comes 144 = .ok (.invokestatic 71, 3) := by decide +kernel
theorem dX3_comes_147 : decode cX3_comes 147 = .ok (.aload_n 0, 1) := by decide +kernel
theorem dX3_comes_148 : decode cX3_comes 148 = .ok (.iload_n 1, 1) := by decide +kernel
theorem dX3_comes_149 : decode cX3_comes 149 = .ok (.iconst 2, 1) := by decide +kernel
theorem dX3_comes_150 : decode cX3_comes 150 = .ok (.iadd, 1) := by decide +kernel
theorem dX3_comes_151 : decode cX3_comes 151 = .ok (.invokevirtual 80, 3) := by decide +kernel
theorem dX3_comes_154 : decode cX3_comes 154 = .ok (.aload_n 2, 1) := by decide +kernel
theorem dX3_comes_155 : decode cX3_comes 155 = .ok (.invokestatic 93, 3) := by decide +kernel
theorem dX3_comes_158 : decode cX3_comes 158 = .ok (.ireturn, 1) := by decide +kernel
theorem dX3_comes_159 : decode cX3_comes 159 = .ok (.ldc 75, 2) := by decide +kernel
theorem dX3_comes_161 : decode cX3_comes 161 = .ok (.aload_n 0, 1) := by decide +kernel
theorem dX3_comes_162 : decode cX3_comes 162 = .ok (.iload_n 1, 1) := by decide +kernel
theorem dX3_comes_163 : decode cX3_comes 163 = .ok (.iconst 1, 1) := by decide +kernel
theorem dX3_comes_164 : decode cX3_comes 164 = .ok (.iadd, 1) := by decide +kernel
theorem dX3_comes_165 : decode cX3_comes 165 = .ok (.invokevirtual 31, 3) := by decide +kernel
theorem dX3_comes_168 : decode cX3_comes 168 = .ok (.invokestatic 71, 3) := by decide +kernel
theorem dX3_comes_171 : decode cX3_comes 171 = .ok (.aload_n 0, 1) := by decide +kernel
theorem dX3_comes_172 : decode cX3_comes 172 = .ok (.iload_n 1, 1) := by decide +kernel
theorem dX3_comes_173 : decode cX3_comes 173 = .ok (.iconst 2, 1) := by decide +kernel
theorem dX3_comes_174 : decode cX3_comes 174 = .ok (.iadd, 1) := by decide +kernel
theorem dX3_comes_175 : decode cX3_comes 175 = .ok (.invokevirtual 80, 3) := by decide +kernel
theorem dX3_comes_178 : decode cX3_comes 178 = .ok (.aload_n 2, 1) := by decide +kernel
theorem dX3_comes_179 : decode cX3_comes 179 = .ok (.invokestatic 97, 3) := by decide +kernel
theorem dX3_comes_182 : decode cX3_comes 182 = .ok (.ireturn, 1) := by decide +kernel
theorem dX3_comes_183 : decode cX3_comes 183 = .ok (.aload_n 2, 1) := by decide +kernel
theorem dX3_comes_184 : decode cX3_comes 184 = .ok (.iconst 3, 1) := by decide +kernel
theorem dX3_comes_185 : decode cX3_comes 185 = .ok (.aload_n 0, 1) := by decide +kernel
theorem dX3_comes_186 : decode cX3_comes 186 = .ok (.iload_n 1, 1) := by decide +kernel
theorem dX3_comes_187 : decode cX3_comes 187 = .ok (.iconst 1, 1) := by decide +kernel
theorem dX3_comes_188 : decode cX3_comes 188 = .ok (.iadd, 1) := by decide +kernel
theorem dX3_comes_189 : decode cX3_comes 189 = .ok (.invokevirtual 77, 3) := by decide +kernel
theorem dX3_comes_192 : decode cX3_comes 192 = .ok (.invokevirtual 89, 3) := by decide +kernel
theorem dX3_comes_195 : decode cX3_comes 195 = .ok (.ifCond .eq 22, 3) := by decide +kernel
theorem dX3_comes_198 : decode cX3_comes 198 = .ok (.aload_n 2, 1) := by decide +kernel
theorem dX3_comes_199 : decode cX3_comes 199 = .ok (.iconst 4, 1) := by decide +kernel
theorem dX3_comes_200 : decode cX3_comes 200 = .ok (.aload_n 0, 1) := by decide +kernel
theorem dX3_comes_201 : decode cX3_comes 201 = .ok (.iload_n 1, 1) := by decide +kernel
theorem dX3_comes_202 : decode cX3_comes 202 = .ok (.iconst 3, 1) := by decide +kernel
theorem dX3_comes_203 : decode cX3_comes 203 = .ok (.iadd, 1) := by decide +kernel
theorem dX3_comes_204 : decode cX3_comes 204 = .ok (.invokevirtual 77, 3) := by decide +kernel
theorem dX3_comes_207 : decode cX3_comes 207 = .ok (.invokevirtual 89, 3) := by decide +kernel
theorem dX3_comes_210 : decode cX3_comes 210 = .ok (.ifCond .eq 7, 3) := by decide +kernel
theorem dX3_comes_213 : decode cX3_comes 213 = .ok (.iconst 1, 1) := by decide +kernel
theorem dX3_comes_214 : decode cX3_comes 214 = .ok (.goto 4, 3) := by decide +kernel
theorem dX3_comes_217 : decode cX3_comes 217 = .ok (.iconst 0, 1) := by decide +kernel
theorem dX3_comes_218 : decode cX3_comes 218 = .ok (.ireturn, 1) := by decide +kernel
theorem dX3_comes_219 : decode cX3_comes 219 = .ok (.aload_n 0, 1) := by decide +kernel
theorem dX3_comes_220 : decode cX3_comes 220 = .ok (.iload_n 1, 1) := by decide +kernel
theorem dX3_comes_221 : decode cX3_comes 221 = .ok (.iconst 1, 1) := by decide +kernel
theorem dX3_comes_222 : decode cX3_comes 222 = .ok (.iadd, 1) := by decide +kernel
theorem dX3_comes_223 : decode cX3_comes 223 = .ok (.invokevirtual 77, 3) := by decide +kernel
theorem dX3_comes_226 : decode cX3_comes 226 = .ok (.aload_n 0, 1) := by decide +kernel
theorem dX3_comes_227 : decode cX3_comes 227 = .ok (.iload_n 1, 1) := by decide +kernel
theorem dX3_comes_228 : decode cX3_comes 228 = .ok (.iconst 3, 1) := by decide +kernel
theorem dX3_comes_229 : decode cX3_comes 229 = .ok (.iadd, 1) := by decide +kernel
theorem dX3_comes_230 : decode cX3_comes 230 = .ok (.invokevirtual 80, 3) := by decide +kernel
theorem dX3_comes_233 : decode cX3_comes 233 = .ok (.aload_n 2, 1) := by decide +kernel
theorem dX3_comes_234 : decode cX3_comes 234 = .ok (.aload_n 3, 1) := by decide +kernel
theorem dX3_comes_235 : decode cX3_comes 235 = .ok (.invokestatic 100, 3) := by decide +kernel
theorem dX3_comes_238 : decode cX3_comes 238 = .ok (.ireturn, 1) := by decide +kernel
theorem dX3_comes_239 : decode cX3_comes 239 = .ok (.iconst 0, 1) := by decide +kernel
theorem dX3_comes_240 : decode cX3_comes 240 = .ok (.ireturn, 1) := by decide +kernel
set_option maxRecDepth 20000 in
theorem ggX3_stripKindComes_X4_isStripKind : GoodIn wsX3_stripKindComes wsX4_isStripKind := goodIn_r _ [4] (by decide +kernel) (by decide +kernel)
set_option maxRecDepth 20000 in
theorem gX3_stripKindComes_X4_isStripKind_n104 : GoodIn wsX3_stripKindComes (wsX4_isStripKind) := ggX3_stripKindComes_X4_isStripKind
set_option maxRecDepth 20000 in
theorem ggX3_stripKindComes_X0_putNumber : GoodIn wsX3_stripKindComes wsX0_putNumber := goodIn_r _ [9, 10, 11, 12, 13, 14, 15] (by decide +kernel) (by decide +kernel)
set_option maxRecDepth 20000 in
theorem gX3_stripKindComes_X0_putNumber : GoodIn wsX3_stripKindComes (wsV RX3 89 RX0 yX0_putNumber wsX0_putNumber) := goodIn_app (goodIn_of _ (by decide +kernel)) ggX3_stripKindComes_X0_putNumber
theorem dX3_stripKindComes_0 : decode cX3_stripKindComes 0 = .ok (.iload_n 0, 1) := by decide +kernel
theorem dX3_stripKindComes_1 : decode cX3_stripKindComes 1 = .ok (.invokestatic 104, 3) := by decide +kernel
theorem dX3_stripKindComes_4 : decode cX3_stripKindComes 4 = .ok (.ifCond .ne 5, 3) := by decide +kernel
theorem dX3_stripKindComes_7 : decode cX3_stripKindComes 7 = .ok (.iconst 0, 1) := by decide +kernel
theorem dX3_stripKindComes_8 : decode cX3_stripKindComes 8 = .ok (.ireturn, 1) := by decide +kernel
theorem dX3_stripKindComes_9 : decode cX3_stripKindComes 9 = .ok (.aload_n 2, 1) := by decide +kernel
theorem dX3_stripKindComes_10 : decode cX3_stripKindComes 10 = .ok (.iload_n 0, 1) := by decide +kernel
theorem dX3_stripKindComes_11 : decode cX3_stripKindComes 11 = .ok (.putfield 108, 3) := by decide +kernel
theorem dX3_stripKindComes_14 : decode cX3_stripKindComes 14 = .ok (.aload_n 2, 1) := by decide +kernel
theorem dX3_stripKindComes_15 : decode cX3_stripKindComes 15 = .ok (.iconst 1, 1) := by decide +kernel
theorem dX3_stripKindComes_16 : decode cX3_stripKindComes 16 = .ok (.iload_n 1, 1) := by decide +kernel
theorem dX3_stripKindComes_17 : decode cX3_stripKindComes 17 = .ok (.invokevirtual 89, 3) := by decide +kernel
theorem dX3_stripKindComes_20 : decode cX3_stripKindComes 20 = .ok (.ireturn, 1) := by decide +kernel
set_option maxRecDepth 20000 in
theorem ggX3_eyeKindComes_X4_isEyeKind : GoodIn wsX3_eyeKindComes wsX4_isEyeKind := goodIn_r _ [4] (by decide +kernel) (by decide +kernel)
set_option maxRecDepth 20000 in
theorem gX3_eyeKindComes_X4_isEyeKind_n111 : GoodIn wsX3_eyeKindComes (wsX4_isEyeKind) := ggX3_eyeKindComes_X4_isEyeKind
set_option maxRecDepth 20000 in
theorem ggX3_eyeKindComes_X0_putNumber : GoodIn wsX3_eyeKindComes wsX0_putNumber := goodIn_r _ [9, 10, 11, 12, 13, 14, 15] (by decide +kernel) (by decide +kernel)
set_option maxRecDepth 20000 in
theorem gX3_eyeKindComes_X0_putNumber : GoodIn wsX3_eyeKindComes (wsV RX3 89 RX0 yX0_putNumber wsX0_putNumber) := goodIn_app (goodIn_of _ (by decide +kernel)) ggX3_eyeKindComes_X0_putNumber
theorem dX3_eyeKindComes_0 : decode cX3_eyeKindComes 0 = .ok (.iload_n 0, 1) := by decide +kernel
theorem dX3_eyeKindComes_1 : decode cX3_eyeKindComes 1 = .ok (.invokestatic 111, 3) := by decide +kernel
theorem dX3_eyeKindComes_4 : decode cX3_eyeKindComes 4 = .ok (.ifCond .ne 5, 3) := by decide +kernel
theorem dX3_eyeKindComes_7 : decode cX3_eyeKindComes 7 = .ok (.iconst 0, 1) := by decide +kernel
theorem dX3_eyeKindComes_8 : decode cX3_eyeKindComes 8 = .ok (.ireturn, 1) := by decide +kernel
theorem dX3_eyeKindComes_9 : decode cX3_eyeKindComes 9 = .ok (.aload_n 2, 1) := by decide +kernel
theorem dX3_eyeKindComes_10 : decode cX3_eyeKindComes 10 = .ok (.iload_n 0, 1) := by decide +kernel
theorem dX3_eyeKindComes_11 : decode cX3_eyeKindComes 11 = .ok (.putfield 114, 3) := by decide +kernel
theorem dX3_eyeKindComes_14 : decode cX3_eyeKindComes 14 = .ok (.aload_n 2, 1) := by decide +kernel
theorem dX3_eyeKindComes_15 : decode cX3_eyeKindComes 15 = .ok (.iconst 2, 1) := by decide +kernel
theorem dX3_eyeKindComes_16 : decode cX3_eyeKindComes 16 = .ok (.iload_n 1, 1) := by decide +kernel
theorem dX3_eyeKindComes_17 : decode cX3_eyeKindComes 17 = .ok (.invokevirtual 89, 3) := by decide +kernel
theorem dX3_eyeKindComes_20 : decode cX3_eyeKindComes 20 = .ok (.ireturn, 1) := by decide +kernel
set_option maxRecDepth 20000 in
theorem ggX3_toldStripComes_X4_isSecond : GoodIn wsX3_toldStripComes wsX4_isSecond := goodIn_r _ [4] (by decide +kernel) (by decide +kernel)
set_option maxRecDepth 20000 in
theorem gX3_toldStripComes_X4_isSecond_n117 : GoodIn wsX3_toldStripComes (wsX4_isSecond) := ggX3_toldStripComes_X4_isSecond
set_option maxRecDepth 20000 in
theorem ggX3_toldStripComes_X0_leftIfTold : GoodIn wsX3_toldStripComes wsX0_leftIfTold := goodIn_r _ [9, 10, 11, 12, 13, 14, 15, 16, 17, 18, 19, 20, 21, 22, 23, 24, 25, 26, 27, 28, 29, 30, 31, 32, 33, 34, 35, 36, 37, 38, 39, 40, 41, 42, 43, 44, 45, 46, 47, 55, 56, 57, 58, 59, 60, 61] (by decide +kernel) (by decide +kernel)
set_option maxRecDepth 20000 in
theorem gX3_toldStripComes_X0_leftIfTold : GoodIn wsX3_toldStripComes (wsV RX3 123 RX0 yX0_leftIfTold wsX0_leftIfTold) := goodIn_app (goodIn_of _ (by decide +kernel)) ggX3_toldStripComes_X0_leftIfTold
set_option maxRecDepth 20000 in
theorem ggX3_toldStripComes_X0_tryDownTo : GoodIn wsX3_toldStripComes wsX0_tryDownTo := goodIn_r _ [51, 11, 52, 53, 3, 54, 55, 56, 57, 58, 59] (by decide +kernel) (by decide +kernel)
set_option maxRecDepth 20000 in
theorem gX3_toldStripComes_X0_tryDownTo : GoodIn wsX3_toldStripComes (wsV RX3 127 RX0 yX0_tryDownTo wsX0_tryDownTo) := goodIn_app (goodIn_of _ (by decide +kernel)) ggX3_toldStripComes_X0_tryDownTo
theorem dX3_toldStripComes_0 : decode cX3_toldStripComes 0 = .ok (.iload_n 0, 1) := by decide +kernel
theorem dX3_toldStripComes_1 : decode cX3_toldStripComes 1 = .ok (.invokestatic 117, 3) := by decide +kernel
theorem dX3_toldStripComes_4 : decode cX3_toldStripComes 4 = .ok (.ifCond .eq 12, 3) := by decide +kernel
theorem dX3_toldStripComes_7 : decode cX3_toldStripComes 7 = .ok (.aload_n 2, 1) := by decide +kernel
theorem dX3_toldStripComes_8 : decode cX3_toldStripComes 8 = .ok (.getfield 120, 3) := by decide +kernel
theorem dX3_toldStripComes_11 : decode cX3_toldStripComes 11 = .ok (.bipush 99, 2) := by decide +kernel
theorem dX3_toldStripComes_13 : decode cX3_toldStripComes 13 = .ok (.if_icmp .lt 5, 3) := by decide +kernel
theorem dX3_toldStripComes_16 : decode cX3_toldStripComes 16 = .ok (.iconst 0, 1) := by decide +kernel
theorem dX3_toldStripComes_17 : decode cX3_toldStripComes 17 = .ok (.ireturn, 1) := by decide +kernel
theorem dX3_toldStripComes_18 : decode cX3_toldStripComes 18 = .ok (.aload_n 2, 1) := by decide +kernel
theorem dX3_toldStripComes_19 : decode cX3_toldStripComes 19 = .ok (.aload_n 3, 1) := by decide +kernel
theorem dX3_toldStripComes_20 : decode cX3_toldStripComes 20 = .ok (.iload_n 0, 1) := by decide +kernel
theorem dX3_toldStripComes_21 : decode cX3_toldStripComes 21 = .ok (.iload_n 1, 1) := by decide +kernel
theorem dX3_toldStripComes_22 : decode cX3_toldStripComes 22 = .ok (.invokevirtual 123, 3) := by decide +kernel
theorem dX3_toldStripComes_25 : decode cX3_toldStripComes 25 = .ok (.lstore 4, 2) := by decide +kernel
theorem dX3_toldStripComes_27 : decode cX3_toldStripComes 27 = .ok (.lload 4, 2) := by decide +kernel
theorem dX3_toldStripComes_29 : decode cX3_toldStripComes 29 = .ok (.lconst 0, 1) := by decide +kernel
theorem dX3_toldStripComes_30 : decode cX3_toldStripComes 30 = .ok (.lcmp, 1) := by decide +kernel
theorem dX3_toldStripComes_31 : decode cX3_toldStripComes 31 = .ok (.ifCond .ne 5, 3) := by decide +kernel
theorem dX3_toldStripComes_34 : decode cX3_toldStripComes 34 = .ok (.iconst 0, 1) := by decide +kernel
theorem dX3_toldStripComes_35 : decode cX3_toldStripComes 35 = .ok (.ireturn, 1) := by decide +kernel
theorem dX3_toldStripComes_36 : decode cX3_toldStripComes 36 = .ok (.aload_n 2, 1) := by decide +kernel
theorem dX3_toldStripComes_37 : decode cX3_toldStripComes 37 = .ok (.lload 4, 2) := by decide +kernel
theorem dX3_toldStripComes_39 : decode cX3_toldStripComes 39 = .ok (.invokevirtual 127, 3) := by decide +kernel
theorem dX3_toldStripComes_42 : decode cX3_toldStripComes 42 = .ok (.iconst 1, 1) := by decide +kernel
theorem dX3_toldStripComes_43 : decode cX3_toldStripComes 43 = .ok (.ireturn, 1) := by decide +kernel
theorem dX3_letterAt_0 : decode cX3_letterAt 0 = .ok (.iload_n 1, 1) := by decide +kernel
theorem dX3_letterAt_1 : decode cX3_letterAt 1 = .ok (.ifCond .lt 26, 3) := by decide +kernel
theorem dX3_letterAt_4 : decode cX3_letterAt 4 = .ok (.iload_n 1, 1) := by decide +kernel
theorem dX3_letterAt_5 : decode cX3_letterAt 5 = .ok (.aload_n 0, 1) := by decide +kernel
theorem dX3_letterAt_6 : decode cX3_letterAt 6 = .ok (.getfield 15, 3) := by decide +kernel
theorem dX3_letterAt_9 : decode cX3_letterAt 9 = .ok (.if_icmp .ge 18, 3) := by decide +kernel
theorem dX3_letterAt_12 : decode cX3_letterAt 12 = .ok (.iload_n 1, 1) := by decide +kernel
theorem dX3_letterAt_13 : decode cX3_letterAt 13 = .ok (.bipush 96, 2) := by decide +kernel
theorem dX3_letterAt_15 : decode cX3_letterAt 15 = .ok (.if_icmp .ge 12, 3) := by decide +kernel
theorem dX3_letterAt_18 : decode cX3_letterAt 18 = .ok (.aload_n 0, 1) := by decide +kernel
theorem dX3_letterAt_19 : decode cX3_letterAt 19 = .ok (.getfield 9, 3) := by decide +kernel
theorem dX3_letterAt_22 : decode cX3_letterAt 22 = .ok (.iload_n 1, 1) := by decide +kernel
theorem dX3_letterAt_23 : decode cX3_letterAt 23 = .ok (.iaload, 1) := by decide +kernel
theorem dX3_letterAt_24 : decode cX3_letterAt 24 = .ok (.goto 4, 3) := by decide +kernel
theorem dX3_letterAt_27 : decode cX3_letterAt 27 = .ok (.iconst (-1), 1) := by decide +kernel
theorem dX3_letterAt_28 : decode cX3_letterAt 28 = .ok (.ireturn, 1) := by decide +kernel
set_option maxRecDepth 20000 in
theorem ggX3_digitAt_X3_letterAt : GoodIn wsX3_digitAt wsX3_letterAt := goodIn_r _ [5, 6, 7, 8, 9] (by decide +kernel) (by decide +kernel)
set_option maxRecDepth 20000 in
theorem gX3_digitAt_X3_letterAt : GoodIn wsX3_digitAt (wsV RX3 31 RX3 yX3_letterAt wsX3_letterAt) := goodIn_app (goodIn_of _ (by decide +kernel)) ggX3_digitAt_X3_letterAt
theorem dX3_digitAt_0 : decode cX3_digitAt 0 = .ok (.aload_n 0, 1) := by decide +kernel
theorem dX3_digitAt_1 : decode cX3_digitAt 1 = .ok (.iload_n 1, 1) := by decide +kernel
theorem dX3_digitAt_2 : decode cX3_digitAt 2 = .ok (.invokevirtual 31, 3) := by decide +kernel
theorem dX3_digitAt_5 : decode cX3_digitAt 5 = .ok (.bipush 48, 2) := by decide +kernel
theorem dX3_digitAt_7 : decode cX3_digitAt 7 = .ok (.isub, 1) := by decide +kernel
theorem dX3_digitAt_8 : decode cX3_digitAt 8 = .ok (.ireturn, 1) := by decide +kernel
set_option maxRecDepth 20000 in
theorem ggX3_pairAt_X3_digitAt : GoodIn wsX3_pairAt wsX3_digitAt := goodIn_r _ [5, 6, 7, 8, 4, 9, 10, 11, 12, 13] (by decide +kernel) (by decide +kernel)
set_option maxRecDepth 20000 in
theorem gX3_pairAt_X3_digitAt : GoodIn wsX3_pairAt (wsV RX3 80 RX3 yX3_digitAt wsX3_digitAt) := goodIn_app (goodIn_of _ (by decide +kernel)) ggX3_pairAt_X3_digitAt
theorem dX3_pairAt_0 : decode cX3_pairAt 0 = .ok (.aload_n 0, 1) := by decide +kernel
theorem dX3_pairAt_1 : decode cX3_pairAt 1 = .ok (.iload_n 1, 1) := by decide +kernel
theorem dX3_pairAt_2 : decode cX3_pairAt 2 = .ok (.invokevirtual 80, 3) := by decide +kernel
theorem dX3_pairAt_5 : decode cX3_pairAt 5 = .ok (.bipush 10, 2) := by decide +kernel
theorem dX3_pairAt_7 : decode cX3_pairAt 7 = .ok (.imul, 1) := by decide +kernel
theorem dX3_pairAt_8 : decode cX3_pairAt 8 = .ok (.aload_n 0, 1) := by decide +kernel
theorem dX3_pairAt_9 : decode cX3_pairAt 9 = .ok (.iload_n 1, 1) := by decide +kernel
theorem dX3_pairAt_10 : decode cX3_pairAt 10 = .ok (.iconst 1, 1) := by decide +kernel
theorem dX3_pairAt_11 : decode cX3_pairAt 11 = .ok (.iadd, 1) := by decide +kernel
theorem dX3_pairAt_12 : decode cX3_pairAt 12 = .ok (.invokevirtual 80, 3) := by decide +kernel
theorem dX3_pairAt_15 : decode cX3_pairAt 15 = .ok (.iadd, 1) := by decide +kernel
theorem dX3_pairAt_16 : decode cX3_pairAt 16 = .ok (.ireturn, 1) := by decide +kernel
set_option maxRecDepth 20000 in
theorem ggX3_kindOf_J0_indexOf_0f7a4 : GoodIn wsX3_kindOf wsJ0_indexOf_0f7a4 := goodIn_r _ [5, 6, 7, 8, 4, 9, 10, 11, 12, 13, 14, 15, 16, 17, 18, 19, 20, 21, 22, 23, 24, 25, 26, 27, 28, 29, 30, 31, 32, 33, 34, 35, 36, 37, 38, 39, 40, 41, 42, 43, 44, 45, 46, 47, 48, 49, 50, 51, 52, 53, 54, 55, 56, 57, 58, 59, 60, 61, 62, 63, 64, 65, 66, 67, 68, 69, 70, 71, 72, 73, 74, 75, 76, 77, 78, 79, 80, 81, 82, 83, 84, 85, 86, 87, 88, 89] (by decide +kernel) (by decide +kernel)
set_option maxRecDepth 20000 in
theorem gX3_kindOf_J0_indexOf_0f7a4 : GoodIn wsX3_kindOf (wsV RX3 131 RJ0 yJ0_indexOf_0f7a4 wsJ0_indexOf_0f7a4) := goodIn_app (goodIn_of _ (by decide +kernel)) ggX3_kindOf_J0_indexOf_0f7a4
theorem dX3_kindOf_0 : decode cX3_kindOf 0 = .ok (.iload_n 1, 1) := by decide +kernel
theorem dX3_kindOf_1 : decode cX3_kindOf 1 = .ok (.ifCond .ge 7, 3) := by decide +kernel
theorem dX3_kindOf_4 : decode cX3_kindOf 4 = .ok (.iconst (-1), 1) := by decide +kernel
theorem dX3_kindOf_5 : decode cX3_kindOf 5 = .ok (.goto 9, 3) := by decide +kernel
theorem dX3_kindOf_8 : decode cX3_kindOf 8 = .ok (.aload_n 0, 1) := by decide +kernel
theorem dX3_kindOf_9 : decode cX3_kindOf 9 = .ok (.iload_n 1, 1) := by decide +kernel
theorem dX3_kindOf_10 : decode cX3_kindOf 10 = .ok (.i2c, 1) := by decide +kernel
theorem dX3_kindOf_11 : decode cX3_kindOf 11 = .ok (.invokevirtual 131, 3) := by decide +kernel
theorem dX3_kindOf_14 : decode cX3_kindOf 14 = .ok (.ireturn, 1) := by decide +kernel
set_option maxRecDepth 20000 in
theorem ggX4_init_X0_init : GoodIn wsX4_init wsX0_init := goodIn_r _ [29, 30, 2, 3, 23, 31, 32, 33, 34, 35, 56, 57, 58, 59, 60] (by decide +kernel) (by decide +kernel)
set_option maxRecDepth 20000 in
theorem gX4_init_X0_init : GoodIn wsX4_init (wsX0_init) := ggX4_init_X0_init
set_option maxRecDepth 20000 in
theorem ggX4_init_X1_init : GoodIn wsX4_init wsX1_init := goodIn_r _ [37, 38, 2, 3, 23, 39, 40, 71, 72] (by decide +kernel) (by decide +kernel)
set_option maxRecDepth 20000 in
theorem gX4_init_X1_init_n28 : GoodIn wsX4_init (wsX1_init) := ggX4_init_X1_init
set_option maxRecDepth 20000 in
theorem ggX4_init_X2_init : GoodIn wsX4_init wsX2_init := goodIn_r _ [42, 43, 2, 3, 44, 45, 23, 46, 47, 12, 13, 48, 49, 50, 36, 37, 38, 39, 40, 73, 74, 75, 76, 77, 71, 72] (by decide +kernel) (by decide +kernel)
set_option maxRecDepth 20000 in
theorem gX4_init_X2_init_n35 : GoodIn wsX4_init (wsX2_init) := ggX4_init_X2_init
set_option maxRecDepth 20000 in
theorem ggX4_init_X3_init : GoodIn wsX4_init wsX3_init := goodIn_r _ [52, 53, 2, 3, 23, 54, 55, 78, 79] (by decide +kernel) (by decide +kernel)
set_option maxRecDepth 20000 in
theorem gX4_init_X3_init_n42 : GoodIn wsX4_init (wsX3_init) := ggX4_init_X3_init
theorem dX4_init_0 : decode cX4_init 0 = .ok (.aload_n 0, 1) := by decide +kernel
theorem dX4_init_1 : decode cX4_init 1 = .ok (.invokespecial 1, 3) := by decide +kernel
theorem dX4_init_4 : decode cX4_init 4 = .ok (.aload_n 0, 1) := by decide +kernel
theorem dX4_init_5 : decode cX4_init 5 = .ok (.new 7, 3) := by decide +kernel
theorem dX4_init_8 : decode cX4_init 8 = .ok (.dup, 1) := by decide +kernel
theorem dX4_init_9 : decode cX4_init 9 = .ok (.invokespecial 9, 3) := by decide +kernel
theorem dX4_init_12 : decode cX4_init 12 = .ok (.putfield 10, 3) := by decide +kernel
theorem dX4_init_15 : decode cX4_init 15 = .ok (.aload_n 0, 1) := by decide +kernel
theorem dX4_init_16 : decode cX4_init 16 = .ok (.new 7, 3) := by decide +kernel
theorem dX4_init_19 : decode cX4_init 19 = .ok (.dup, 1) := by decide +kernel
theorem dX4_init_20 : decode cX4_init 20 = .ok (.invokespecial 9, 3) := by decide +kernel
theorem dX4_init_23 : decode cX4_init 23 = .ok (.putfield 16, 3) := by decide +kernel
theorem dX4_init_26 : decode cX4_init 26 = .ok (.aload_n 0, 1) := by decide +kernel
theorem dX4_init_27 : decode cX4_init 27 = .ok (.new 7, 3) := by decide +kernel
theorem dX4_init_30 : decode cX4_init 30 = .ok (.dup, 1) := by decide +kernel
theorem dX4_init_31 : decode cX4_init 31 = .ok (.invokespecial 9, 3) := by decide +kernel
theorem dX4_init_34 : decode cX4_init 34 = .ok (.putfield 19, 3) := by decide +kernel
theorem dX4_init_37 : decode cX4_init 37 = .ok (.aload_n 0, 1) := by decide +kernel
theorem dX4_init_38 : decode cX4_init 38 = .ok (.iconst 0, 1) := by decide +kernel
theorem dX4_init_39 : decode cX4_init 39 = .ok (.putfield 22, 3) := by decide +kernel
theorem dX4_init_42 : decode cX4_init 42 = .ok (.aload_n 0, 1) := by decide +kernel
theorem dX4_init_43 : decode cX4_init 43 = .ok (.new 26, 3) := by decide +kernel
theorem dX4_init_46 : decode cX4_init 46 = .ok (.dup, 1) := by decide +kernel
theorem dX4_init_47 : decode cX4_init 47 = .ok (.invokespecial 28, 3) := by decide +kernel
theorem dX4_init_50 : decode cX4_init 50 = .ok (.putfield 29, 3) := by decide +kernel
theorem dX4_init_53 : decode cX4_init 53 = .ok (.aload_n 0, 1) := by decide +kernel
theorem dX4_init_54 : decode cX4_init 54 = .ok (.new 33, 3) := by decide +kernel
theorem dX4_init_57 : decode cX4_init 57 = .ok (.dup, 1) := by decide +kernel
theorem dX4_init_58 : decode cX4_init 58 = .ok (.invokespecial 35, 3) := by decide +kernel
theorem dX4_init_61 : decode cX4_init 61 = .ok (.putfield 36, 3) := by decide +kernel
theorem dX4_init_64 : decode cX4_init 64 = .ok (.aload_n 0, 1) := by decide +kernel
theorem dX4_init_65 : decode cX4_init 65 = .ok (.new 40, 3) := by decide +kernel
theorem dX4_init_68 : decode cX4_init 68 = .ok (.dup, 1) := by decide +kernel
theorem dX4_init_69 : decode cX4_init 69 = .ok (.invokespecial 42, 3) := by decide +kernel
theorem dX4_init_72 : decode cX4_init 72 = .ok (.putfield 43, 3) := by decide +kernel
theorem dX4_init_75 : decode cX4_init 75 = .ok (.aload_n 0, 1) := by decide +kernel
theorem dX4_init_76 : decode cX4_init 76 = .ok (.bipush 12, 2) := by decide +kernel
theorem dX4_init_78 : decode cX4_init 78 = .ok (.newarray .int, 2) := by decide +kernel
theorem dX4_init_80 : decode cX4_init 80 = .ok (.putfield 47, 3) := by decide +kernel
theorem dX4_init_83 : decode cX4_init 83 = .ok (.aload_n 0, 1) := by decide +kernel
theorem dX4_init_84 : decode cX4_init 84 = .ok (.iconst 0, 1) := by decide +kernel
theorem dX4_init_85 : decode cX4_init 85 = .ok (.putfield 51, 3) := by decide +kernel
theorem dX4_init_88 : decode cX4_init 88 = .ok (.aload_n 0, 1) := by decide +kernel
theorem dX4_init_89 : decode cX4_init 89 = .ok (.bipush 7, 2) := by decide +kernel
theorem dX4_init_91 : decode cX4_init 91 = .ok (.newarray .int, 2) := by decide +kernel
theorem dX4_init_93 : decode cX4_init 93 = .ok (.putfield 55, 3) := by decide +kernel
theorem dX4_init_96 : decode cX4_init 96 = .ok (.return_, 1) := by decide +kernel
set_option maxRecDepth 20000 in
theorem ggX4_letter_X4_refuse : GoodIn wsX4_letter wsX4_refuse := goodIn_r _ [6, 7, 20, 21, 22, 23, 24, 25, 26, 27, 28, 29] (by decide +kernel) (by decide +kernel)
set_option maxRecDepth 20000 in
theorem gX4_letter_X4_refuse : GoodIn wsX4_letter (wsV RX4 58 RX4 yX4_refuse wsX4_refuse) := goodIn_app (goodIn_of _ (by decide +kernel)) ggX4_letter_X4_refuse
set_option maxRecDepth 20000 in
theorem ggX4_letter_X3_isFull : GoodIn wsX4_letter wsX3_isFull := goodIn_r _ [12, 13, 30, 31] (by decide +kernel) (by decide +kernel)
set_option maxRecDepth 20000 in
theorem gX4_letter_X3_isFull : GoodIn wsX4_letter (wsV RX4 62 RX3 yX3_isFull wsX3_isFull) := goodIn_app (goodIn_of _ (by decide +kernel)) ggX4_letter_X3_isFull
set_option maxRecDepth 20000 in
theorem ggX4_letter_X3_add : GoodIn wsX4_letter wsX3_add := goodIn_r _ [17, 18, 13, 19, 9, 10, 11, 12, 30, 31] (by decide +kernel) (by decide +kernel)
set_option maxRecDepth 20000 in
theorem gX4_letter_X3_add : GoodIn wsX4_letter (wsV RX4 66 RX3 yX3_add wsX3_add) := goodIn_app (goodIn_of _ (by decide +kernel)) ggX4_letter_X3_add
theorem dX4_letter_0 : decode cX4_letter 0 = .ok (.iload_n 1, 1) := by decide +kernel
theorem dX4_letter_1 : decode cX4_letter 1 = .ok (.ifCond .ge 10, 3) := by decide +kernel
theorem dX4_letter_4 : decode cX4_letter 4 = .ok (.aload_n 0, 1) := by decide +kernel
theorem dX4_letter_5 : decode cX4_letter 5 = .ok (.bipush (-4), 2) := by decide +kernel
theorem dX4_letter_7 : decode cX4_letter 7 = .ok (.invokevirtual 58, 3) := by decide +kernel
theorem dX4_letter_10 : decode cX4_letter 10 = .ok (.ireturn, 1) := by decide +kernel
theorem dX4_letter_11 : decode cX4_letter 11 = .ok (.iload_n 1, 1) := by decide +kernel
theorem dX4_letter_12 : decode cX4_letter 12 = .ok (.sipush 255, 3) := by decide +kernel
theorem dX4_letter_15 : decode cX4_letter 15 = .ok (.if_icmp .gt 13, 3) := by decide +kernel
theorem dX4_letter_18 : decode cX4_letter 18 = .ok (.aload_n 0, 1) := by decide +kernel
theorem dX4_letter_19 : decode cX4_letter 19 = .ok (.getfield 43, 3) := by decide +kernel
theorem dX4_letter_22 : decode cX4_letter 22 = .ok (.invokevirtual 62, 3) := by decide +kernel
theorem dX4_letter_25 : decode cX4_letter 25 = .ok (.ifCond .eq 10, 3) := by decide +kernel
theorem dX4_letter_28 : decode cX4_letter 28 = .ok (.aload_n 0, 1) := by decide +kernel
theorem dX4_letter_29 : decode cX4_letter 29 = .ok (.bipush (-6), 2) := by decide +kernel
theorem dX4_letter_31 : decode cX4_letter 31 = .ok (.invokevirtual 58, 3) := by decide +kernel
theorem dX4_letter_34 : decode cX4_letter 34 = .ok (.ireturn, 1) := by decide +kernel
theorem dX4_letter_35 : decode cX4_letter 35 = .ok (.aload_n 0, 1) := by decide +kernel
theorem dX4_letter_36 : decode cX4_letter 36 = .ok (.getfield 43, 3) := by decide +kernel
theorem dX4_letter_39 : decode cX4_letter 39 = .ok (.iload_n 1, 1) := by decide +kernel
theorem dX4_letter_40 : decode cX4_letter 40 = .ok (.invokevirtual 66, 3) := by decide +kernel
theorem dX4_letter_43 : decode cX4_letter 43 = .ok (.ireturn, 1) := by decide +kernel
set_option maxRecDepth 20000 in
theorem ggX4_shed_X0_copyFrom : GoodIn wsX4_shed wsX0_copyFrom := goodIn_r _ [9, 10, 11, 12, 13, 14, 245, 246, 247, 248, 249] (by decide +kernel) (by decide +kernel)
set_option maxRecDepth 20000 in
theorem gX4_shed_X0_copyFrom : GoodIn wsX4_shed (wsV RX4 69 RX0 yX0_copyFrom wsX0_copyFrom) := goodIn_app (goodIn_of _ (by decide +kernel)) ggX4_shed_X0_copyFrom
set_option maxRecDepth 20000 in
theorem ggX4_shed_X3_readInto : GoodIn wsX4_shed wsX3_readInto := goodIn_r _ [19, 20, 21, 22, 23, 18, 24, 25, 26, 27, 28, 29, 30, 31, 32, 33, 34, 35, 36, 37, 38, 39, 40, 41, 42, 43, 44, 45, 46, 47, 48, 49, 50, 51, 52, 53, 54, 55, 56, 57, 58, 59, 60, 61, 62, 63, 64, 65, 66, 67, 68, 69, 70, 71, 72, 73, 74, 75, 76, 77, 78, 79, 80, 81, 82, 83, 84, 85, 86, 87, 88, 89, 90, 91, 92, 93, 94, 95, 96, 97, 98, 99, 100, 101, 102, 103, 104, 105, 106, 107, 108, 109, 110, 111, 112, 113, 114, 115, 116, 117, 118, 119, 120, 121, 122, 123, 124, 125, 126, 127, 128, 129, 130, 131, 132, 133, 134, 135, 136, 137, 138, 139, 140, 141, 142, 143, 144, 145, 146, 147, 148, 149, 150, 151, 152, 153, 154, 155, 156, 157, 158, 159, 160, 161, 162, 163, 164, 165, 166, 167, 8, 168, 10, 169, 170, 171, 172, 173, 174, 175, 11, 176, 177, 178, 179, 180, 181, 182, 183, 184, 185, 186, 187, 188, 189, 190, 191, 192, 193, 194, 195, 12, 13, 196, 197, 198, 199, 200, 201, 202, 203, 204, 205, 206, 207, 208, 209, 210, 211, 212, 213, 214, 215, 216, 217, 218, 219, 220, 221, 222, 223, 224, 225, 226, 227, 228, 14, 229, 230, 250, 251, 245, 246, 247, 248, 249, 252, 253] (by decide +kernel) (by decide +kernel)
set_option maxRecDepth 20000 in
theorem gX4_shed_X3_readInto : GoodIn wsX4_shed (wsV RX4 73 RX3 yX3_readInto wsX3_readInto) := goodIn_app (goodIn_of _ (by decide +kernel)) ggX4_shed_X3_readInto
set_option maxRecDepth 20000 in
theorem ggX4_shed_X3_clear : GoodIn wsX4_shed wsX3_clear := goodIn_r _ [234, 20, 250, 251] (by decide +kernel) (by decide +kernel)
set_option maxRecDepth 20000 in
theorem gX4_shed_X3_clear : GoodIn wsX4_shed (wsV RX4 77 RX3 yX3_clear wsX3_clear) := goodIn_app (goodIn_of _ (by decide +kernel)) ggX4_shed_X3_clear
theorem dX4_shed_0 : decode cX4_shed 0 = .ok (.aload_n 0, 1) := by decide +kernel
theorem dX4_shed_1 : decode cX4_shed 1 = .ok (.getfield 16, 3) := by decide +kernel
theorem dX4_shed_4 : decode cX4_shed 4 = .ok (.aload_n 0, 1) := by decide +kernel
theorem dX4_shed_5 : decode cX4_shed 5 = .ok (.getfield 10, 3) := by decide +kernel
theorem dX4_shed_8 : decode cX4_shed 8 = .ok (.invokevirtual 69, 3) := by decide +kernel
theorem dX4_shed_11 : decode cX4_shed 11 = .ok (.aload_n 0, 1) := by decide +kernel
theorem dX4_shed_12 : decode cX4_shed 12 = .ok (.getfield 43, 3) := by decide +kernel
theorem dX4_shed_15 : decode cX4_shed 15 = .ok (.aload_n 0, 1) := by decide +kernel
theorem dX4_shed_16 : decode cX4_shed 16 = .ok (.getfield 16, 3) := by decide +kernel
theorem dX4_shed_19 : decode cX4_shed 19 = .ok (.aload_n 0, 1) := by decide +kernel
theorem dX4_shed_20 : decode cX4_shed 20 = .ok (.getfield 29, 3) := by decide +kernel
theorem dX4_shed_23 : decode cX4_shed 23 = .ok (.invokevirtual 73, 3) := by decide +kernel
theorem dX4_shed_26 : decode cX4_shed 26 = .ok (.istore_n 1, 1) := by decide +kernel
theorem dX4_shed_27 : decode cX4_shed 27 = .ok (.aload_n 0, 1) := by decide +kernel
theorem dX4_shed_28 : decode cX4_shed 28 = .ok (.getfield 43, 3) := by decide +kernel
theorem dX4_shed_31 : decode cX4_shed 31 = .ok (.invokevirtual 77, 3) := by decide +kernel
theorem dX4_shed_34 : decode cX4_shed 34 = .ok (.iload_n 1, 1) := by decide +kernel
theorem dX4_shed_35 : decode cX4_shed 35 = .ok (.ifCond .le 14, 3) := by decide +kernel
theorem dX4_shed_38 : decode cX4_shed 38 = .ok (.aload_n 0, 1) := by decide +kernel
theorem dX4_shed_39 : decode cX4_shed 39 = .ok (.getfield 10, 3) := by decide +kernel
theorem dX4_shed_42 : decode cX4_shed 42 = .ok (.aload_n 0, 1) := by decide +kernel
theorem dX4_shed_43 : decode cX4_shed 43 = .ok (.getfield 16, 3) := by decide +kernel
theorem dX4_shed_46 : decode cX4_shed 46 = .ok (.invokevirtual 69, 3) := by decide +kernel
theorem dX4_shed_49 : decode cX4_shed 49 = .ok (.iload_n 1, 1) := by decide +kernel
theorem dX4_shed_50 : decode cX4_shed 50 = .ok (.ireturn, 1) := by decide +kernel
set_option maxRecDepth 20000 in
theorem ggX4_likely_X4_isSecond : GoodIn wsX4_likely wsX4_isSecond := goodIn_r _ [6] (by decide +kernel) (by decide +kernel)
set_option maxRecDepth 20000 in
theorem gX4_likely_X4_isSecond : GoodIn wsX4_likely (va_wsS RX4 80 yX4_isSecond wsX4_isSecond) := goodIn_app (goodIn_of _ (by decide +kernel)) ggX4_likely_X4_isSecond
set_option maxRecDepth 20000 in
theorem ggX4_likely_X4_refuse : GoodIn wsX4_likely wsX4_refuse := goodIn_r _ [10, 11, 12, 13, 14, 15, 16, 17, 18, 19, 20, 21] (by decide +kernel) (by decide +kernel)
set_option maxRecDepth 20000 in
theorem gX4_likely_X4_refuse : GoodIn wsX4_likely (wsV RX4 58 RX4 yX4_refuse wsX4_refuse) := goodIn_app (goodIn_of _ (by decide +kernel)) ggX4_likely_X4_refuse
theorem dX4_likely_0 : decode cX4_likely 0 = .ok (.iload_n 1, 1) := by decide +kernel
theorem dX4_likely_1 : decode cX4_likely 1 = .ok (.invokestatic 80, 3) := by decide +kernel
theorem dX4_likely_4 : decode cX4_likely 4 = .ok (.ifCond .ne 9, 3) := by decide +kernel
theorem dX4_likely_7 : decode cX4_likely 7 = .ok (.aload_n 0, 1) := by decide +kernel
theorem dX4_likely_8 : decode cX4_likely 8 = .ok (.iconst (-1), 1) := by decide +kernel
theorem dX4_likely_9 : decode cX4_likely 9 = .ok (.invokevirtual 58, 3) := by decide +kernel
theorem dX4_likely_12 : decode cX4_likely 12 = .ok (.ireturn, 1) := by decide +kernel
theorem dX4_likely_13 : decode cX4_likely 13 = .ok (.aload_n 0, 1) := by decide +kernel
theorem dX4_likely_14 : decode cX4_likely 14 = .ok (.getfield 10, 3) := by decide +kernel
theorem dX4_likely_17 : decode cX4_likely 17 = .ok (.getfield 84, 3) := by decide +kernel
theorem dX4_likely_20 : decode cX4_likely 20 = .ok (.iload_n 1, 1) := by decide +kernel
theorem dX4_likely_21 : decode cX4_likely 21 = .ok (.iaload, 1) := by decide +kernel
theorem dX4_likely_22 : decode cX4_likely 22 = .ok (.ireturn, 1) := by decide +kernel
set_option maxRecDepth 20000 in
theorem ggX4_make_X4_isSecond : GoodIn wsX4_make wsX4_isSecond := goodIn_r _ [6] (by decide +kernel) (by decide +kernel)
set_option maxRecDepth 20000 in
theorem gX4_make_X4_isSecond : GoodIn wsX4_make (va_wsS RX4 80 yX4_isSecond wsX4_isSecond) := goodIn_app (goodIn_of _ (by decide +kernel)) ggX4_make_X4_isSecond
set_option maxRecDepth 20000 in
theorem ggX4_make_X4_refuse : GoodIn wsX4_make wsX4_refuse := goodIn_r _ [10, 11, 12, 13, 14, 15, 16, 17, 18, 19, 20, 21] (by decide +kernel) (by decide +kernel)
set_option maxRecDepth 20000 in
theorem gX4_make_X4_refuse : GoodIn wsX4_make (wsV RX4 58 RX4 yX4_refuse wsX4_refuse) := goodIn_app (goodIn_of _ (by decide +kernel)) ggX4_make_X4_refuse
theorem dX4_make_0 : decode cX4_make 0 = .ok (.iload_n 1, 1) := by decide +kernel
theorem dX4_make_1 : decode cX4_make 1 = .ok (.invokestatic 80, 3) := by decide +kernel
theorem dX4_make_4 : decode cX4_make 4 = .ok (.ifCond .ne 9, 3) := by decide +kernel
theorem dX4_make_7 : decode cX4_make 7 = .ok (.aload_n 0, 1) := by decide +kernel
theorem dX4_make_8 : decode cX4_make 8 = .ok (.iconst (-1), 1) := by decide +kernel
theorem dX4_make_9 : decode cX4_make 9 = .ok (.invokevirtual 58, 3) := by decide +kernel
theorem dX4_make_12 : decode cX4_make 12 = .ok (.ireturn, 1) := by decide +kernel
theorem dX4_make_13 : decode cX4_make 13 = .ok (.iload_n 2, 1) := by decide +kernel
theorem dX4_make_14 : decode cX4_make 14 = .ok (.ifCond .ge 10, 3) := by decide +kernel
theorem dX4_make_17 : decode cX4_make 17 = .ok (.aload_n 0, 1) := by decide +kernel
theorem dX4_make_18 : decode cX4_make 18 = .ok (.bipush (-4), 2) := by decide +kernel
theorem dX4_make_20 : decode cX4_make 20 = .ok (.invokevirtual 58, 3) := by decide +kernel
theorem dX4_make_23 : decode cX4_make 23 = .ok (.ireturn, 1) := by decide +kernel
theorem dX4_make_24 : decode cX4_make 24 = .ok (.iload_n 2, 1) := by decide +kernel
theorem dX4_make_25 : decode cX4_make 25 = .ok (.bipush 9, 2) := by decide +kernel
theorem dX4_make_27 : decode cX4_make 27 = .ok (.if_icmp .le 10, 3) := by decide +kernel
theorem dX4_make_30 : decode cX4_make 30 = .ok (.aload_n 0, 1) := by decide +kernel
theorem dX4_make_31 : decode cX4_make 31 = .ok (.bipush (-6), 2) := by decide +kernel
theorem dX4_make_33 : decode cX4_make 33 = .ok (.invokevirtual 58, 3) := by decide +kernel
theorem dX4_make_36 : decode cX4_make 36 = .ok (.ireturn, 1) := by decide +kernel
theorem dX4_make_37 : decode cX4_make 37 = .ok (.aload_n 0, 1) := by decide +kernel
theorem dX4_make_38 : decode cX4_make 38 = .ok (.getfield 10, 3) := by decide +kernel
theorem dX4_make_41 : decode cX4_make 41 = .ok (.getfield 84, 3) := by decide +kernel
theorem dX4_make_44 : decode cX4_make 44 = .ok (.iload_n 1, 1) := by decide +kernel
theorem dX4_make_45 : decode cX4_make 45 = .ok (.iaload, 1) := by decide +kernel
theorem dX4_make_46 : decode cX4_make 46 = .ok (.istore_n 3, 1) := by decide +kernel
theorem dX4_make_47 : decode cX4_make 47 = .ok (.aload_n 0, 1) := by decide +kernel
theorem dX4_make_48 : decode cX4_make 48 = .ok (.getfield 10, 3) := by decide +kernel
theorem dX4_make_51 : decode cX4_make 51 = .ok (.getfield 84, 3) := by decide +kernel
theorem dX4_make_54 : decode cX4_make 54 = .ok (.iload_n 1, 1) := by decide +kernel
theorem dX4_make_55 : decode cX4_make 55 = .ok (.iload_n 2, 1) := by decide +kernel
theorem dX4_make_56 : decode cX4_make 56 = .ok (.iastore, 1) := by decide +kernel
theorem dX4_make_57 : decode cX4_make 57 = .ok (.iload_n 3, 1) := by decide +kernel
theorem dX4_make_58 : decode cX4_make 58 = .ok (.ireturn, 1) := by decide +kernel
set_option maxRecDepth 20000 in
theorem ggX4_set_X4_refuse : GoodIn wsX4_set wsX4_refuse := goodIn_r _ [9, 10, 11, 12, 13, 14, 15, 16, 17, 18, 19, 20] (by decide +kernel) (by decide +kernel)
set_option maxRecDepth 20000 in
theorem gX4_set_X4_refuse : GoodIn wsX4_set (wsV RX4 58 RX4 yX4_refuse wsX4_refuse) := goodIn_app (goodIn_of _ (by decide +kernel)) ggX4_set_X4_refuse
theorem dX4_set_0 : decode cX4_set 0 = .ok (.iload_n 1, 1) := by decide +kernel
theorem dX4_set_1 : decode cX4_set 1 = .ok (.ifCond .lt 8, 3) := by decide +kernel
theorem dX4_set_4 : decode cX4_set 4 = .ok (.iload_n 1, 1) := by decide +kernel
theorem dX4_set_5 : decode cX4_set 5 = .ok (.iconst 5, 1) := by decide +kernel
theorem dX4_set_6 : decode cX4_set 6 = .ok (.if_icmp .lt 10, 3) := by decide +kernel
theorem dX4_set_9 : decode cX4_set 9 = .ok (.aload_n 0, 1) := by decide +kernel
theorem dX4_set_10 : decode cX4_set 10 = .ok (.bipush (-2), 2) := by decide +kernel
theorem dX4_set_12 : decode cX4_set 12 = .ok (.invokevirtual 58, 3) := by decide +kernel
theorem dX4_set_15 : decode cX4_set 15 = .ok (.ireturn, 1) := by decide +kernel
theorem dX4_set_16 : decode cX4_set 16 = .ok (.iload_n 2, 1) := by decide +kernel
theorem dX4_set_17 : decode cX4_set 17 = .ok (.getstatic 87, 3) := by decide +kernel
theorem dX4_set_20 : decode cX4_set 20 = .ok (.iload_n 1, 1) := by decide +kernel
theorem dX4_set_21 : decode cX4_set 21 = .ok (.iaload, 1) := by decide +kernel
theorem dX4_set_22 : decode cX4_set 22 = .ok (.if_icmp .ge 10, 3) := by decide +kernel
theorem dX4_set_25 : decode cX4_set 25 = .ok (.aload_n 0, 1) := by decide +kernel
theorem dX4_set_26 : decode cX4_set 26 = .ok (.bipush (-4), 2) := by decide +kernel
theorem dX4_set_28 : decode cX4_set 28 = .ok (.invokevirtual 58, 3) := by decide +kernel
theorem dX4_set_31 : decode cX4_set 31 = .ok (.ireturn, 1) := by decide +kernel
theorem dX4_set_32 : decode cX4_set 32 = .ok (.iload_n 2, 1) := by decide +kernel
theorem dX4_set_33 : decode cX4_set 33 = .ok (.getstatic 90, 3) := by decide +kernel
theorem dX4_set_36 : decode cX4_set 36 = .ok (.iload_n 1, 1) := by decide +kernel
theorem dX4_set_37 : decode cX4_set 37 = .ok (.iaload, 1) := by decide +kernel
theorem dX4_set_38 : decode cX4_set 38 = .ok (.if_icmp .le 10, 3) := by decide +kernel
theorem dX4_set_41 : decode cX4_set 41 = .ok (.aload_n 0, 1) := by decide +kernel
theorem dX4_set_42 : decode cX4_set 42 = .ok (.bipush (-6), 2) := by decide +kernel
theorem dX4_set_44 : decode cX4_set 44 = .ok (.invokevirtual 58, 3) := by decide +kernel
theorem dX4_set_47 : decode cX4_set 47 = .ok (.ireturn, 1) := by decide +kernel
theorem dX4_set_48 : decode cX4_set 48 = .ok (.aload_n 0, 1) := by decide +kernel
theorem dX4_set_49 : decode cX4_set 49 = .ok (.getfield 10, 3) := by decide +kernel
theorem dX4_set_52 : decode cX4_set 52 = .ok (.getfield 93, 3) := by decide +kernel
theorem dX4_set_55 : decode cX4_set 55 = .ok (.iload_n 1, 1) := by decide +kernel
theorem dX4_set_56 : decode cX4_set 56 = .ok (.iaload, 1) := by decide +kernel
theorem dX4_set_57 : decode cX4_set 57 = .ok (.istore_n 3, 1) := by decide +kernel
theorem dX4_set_58 : decode cX4_set 58 = .ok (.aload_n 0, 1) := by decide +kernel
theorem dX4_set_59 : decode cX4_set 59 = .ok (.getfield 10, 3) := by decide +kernel
theorem dX4_set_62 : decode cX4_set 62 = .ok (.getfield 93, 3) := by decide +kernel
theorem dX4_set_65 : decode cX4_set 65 = .ok (.iload_n 1, 1) := by decide +kernel
theorem dX4_set_66 : decode cX4_set 66 = .ok (.iload_n 2, 1) := by decide +kernel
theorem dX4_set_67 : decode cX4_set 67 = .ok (.iastore, 1) := by decide +kernel
theorem dX4_set_68 : decode cX4_set 68 = .ok (.iload_n 3, 1) := by decide +kernel
theorem dX4_set_69 : decode cX4_set 69 = .ok (.ireturn, 1) := by decide +kernel
set_option maxRecDepth 20000 in
theorem ggX4_kind_X4_isStripKind : GoodIn wsX4_kind wsX4_isStripKind := goodIn_r _ [7] (by decide +kernel) (by decide +kernel)
set_option maxRecDepth 20000 in
theorem gX4_kind_X4_isStripKind : GoodIn wsX4_kind (va_wsS RX4 96 yX4_isStripKind wsX4_isStripKind) := goodIn_app (goodIn_of _ (by decide +kernel)) ggX4_kind_X4_isStripKind
set_option maxRecDepth 20000 in
theorem ggX4_kind_X4_isEyeKind : GoodIn wsX4_kind wsX4_isEyeKind := goodIn_r _ [10] (by decide +kernel) (by decide +kernel)
set_option maxRecDepth 20000 in
theorem gX4_kind_X4_isEyeKind : GoodIn wsX4_kind (va_wsS RX4 102 yX4_isEyeKind wsX4_isEyeKind) := goodIn_app (goodIn_of _ (by decide +kernel)) ggX4_kind_X4_isEyeKind
set_option maxRecDepth 20000 in
theorem ggX4_kind_X4_refuse : GoodIn wsX4_kind wsX4_refuse := goodIn_r _ [14, 15, 16, 17, 18, 19, 20, 21, 22, 23, 24, 25] (by decide +kernel) (by decide +kernel)
set_option maxRecDepth 20000 in
theorem gX4_kind_X4_refuse : GoodIn wsX4_kind (wsV RX4 58 RX4 yX4_refuse wsX4_refuse) := goodIn_app (goodIn_of _ (by decide +kernel)) ggX4_kind_X4_refuse
theorem dX4_kind_0 : decode cX4_kind 0 = .ok (.iload_n 1, 1) := by decide +kernel
theorem dX4_kind_1 : decode cX4_kind 1 = .ok (.ifCond .ne 28, 3) := by decide +kernel
theorem dX4_kind_4 : decode cX4_kind 4 = .ok (.iload_n 2, 1) := by decide +kernel
theorem dX4_kind_5 : decode cX4_kind 5 = .ok (.invokestatic 96, 3) := by decide +kernel
theorem dX4_kind_8 : decode cX4_kind 8 = .ok (.ifCond .eq 21, 3) := by decide +kernel
theorem dX4_kind_11 : decode cX4_kind 11 = .ok (.aload_n 0, 1) := by decide +kernel
theorem dX4_kind_12 : decode cX4_kind 12 = .ok (.getfield 10, 3) := by decide +kernel
theorem dX4_kind_15 : decode cX4_kind 15 = .ok (.getfield 99, 3) := by decide +kernel
theorem dX4_kind_18 : decode cX4_kind 18 = .ok (.istore_n 3, 1) := by decide +kernel
theorem dX4_kind_19 : decode cX4_kind 19 = .ok (.aload_n 0, 1) := by decide +kernel
theorem dX4_kind_20 : decode cX4_kind 20 = .ok (.getfield 10, 3) := by decide +kernel
theorem dX4_kind_23 : decode cX4_kind 23 = .ok (.iload_n 2, 1) := by decide +kernel
theorem dX4_kind_24 : decode cX4_kind 24 = .ok (.putfield 99, 3) := by decide +kernel
theorem dX4_kind_27 : decode cX4_kind 27 = .ok (.iload_n 3, 1) := by decide +kernel
theorem dX4_kind_28 : decode cX4_kind 28 = .ok (.ireturn, 1) := by decide +kernel
theorem dX4_kind_29 : decode cX4_kind 29 = .ok (.iload_n 1, 1) := by decide +kernel
theorem dX4_kind_30 : decode cX4_kind 30 = .ok (.iconst 1, 1) := by decide +kernel
theorem dX4_kind_31 : decode cX4_kind 31 = .ok (.if_icmp .ne 28, 3) := by decide +kernel
theorem dX4_kind_34 : decode cX4_kind 34 = .ok (.iload_n 2, 1) := by decide +kernel
theorem dX4_kind_35 : decode cX4_kind 35 = .ok (.invokestatic 102, 3) := by decide +kernel
theorem dX4_kind_38 : decode cX4_kind 38 = .ok (.ifCond .eq 21, 3) := by decide +kernel
theorem dX4_kind_41 : decode cX4_kind 41 = .ok (.aload_n 0, 1) := by decide +kernel
theorem dX4_kind_42 : decode cX4_kind 42 = .ok (.getfield 10, 3) := by decide +kernel
theorem dX4_kind_45 : decode cX4_kind 45 = .ok (.getfield 105, 3) := by decide +kernel
theorem dX4_kind_48 : decode cX4_kind 48 = .ok (.istore_n 3, 1) := by decide +kernel
theorem dX4_kind_49 : decode cX4_kind 49 = .ok (.aload_n 0, 1) := by decide +kernel
theorem dX4_kind_50 : decode cX4_kind 50 = .ok (.getfield 10, 3) := by decide +kernel
theorem dX4_kind_53 : decode cX4_kind 53 = .ok (.iload_n 2, 1) := by decide +kernel
theorem dX4_kind_54 : decode cX4_kind 54 = .ok (.putfield 105, 3) := by decide +kernel
theorem dX4_kind_57 : decode cX4_kind 57 = .ok (.iload_n 3, 1) := by decide +kernel
theorem dX4_kind_58 : decode cX4_kind 58 = .ok (.ireturn, 1) := by decide +kernel
theorem dX4_kind_59 : decode cX4_kind 59 = .ok (.aload_n 0, 1) := by decide +kernel
theorem dX4_kind_60 : decode cX4_kind 60 = .ok (.bipush (-2), 2) := by decide +kernel
theorem dX4_kind_62 : decode cX4_kind 62 = .ok (.invokevirtual 58, 3) := by decide +kernel
theorem dX4_kind_65 : decode cX4_kind 65 = .ok (.ireturn, 1) := by decide +kernel
set_option maxRecDepth 20000 in
theorem ggX4_band_X4_isSecond : GoodIn wsX4_band wsX4_isSecond := goodIn_r _ [7] (by decide +kernel) (by decide +kernel)
set_option maxRecDepth 20000 in
theorem gX4_band_X4_isSecond : GoodIn wsX4_band (va_wsS RX4 80 yX4_isSecond wsX4_isSecond) := goodIn_app (goodIn_of _ (by decide +kernel)) ggX4_band_X4_isSecond
set_option maxRecDepth 20000 in
theorem ggX4_band_X4_isBand : GoodIn wsX4_band wsX4_isBand := goodIn_r _ [11, 2, 12, 43, 44, 45, 46, 47, 48, 49, 50, 51, 52, 53, 54, 55, 56, 57] (by decide +kernel) (by decide +kernel)
set_option maxRecDepth 20000 in
theorem gX4_band_X4_isBand : GoodIn wsX4_band (wsV RX4 108 RX4 yX4_isBand wsX4_isBand) := goodIn_app (goodIn_of _ (by decide +kernel)) ggX4_band_X4_isBand
set_option maxRecDepth 20000 in
theorem ggX4_band_X4_refuse : GoodIn wsX4_band wsX4_refuse := goodIn_r _ [16, 17, 43, 44, 45, 46, 47, 48, 49, 50, 51, 52] (by decide +kernel) (by decide +kernel)
set_option maxRecDepth 20000 in
theorem gX4_band_X4_refuse : GoodIn wsX4_band (wsV RX4 58 RX4 yX4_refuse wsX4_refuse) := goodIn_app (goodIn_of _ (by decide +kernel)) ggX4_band_X4_refuse
set_option maxRecDepth 20000 in
theorem ggX4_band_X1_lay : GoodIn wsX4_band wsX1_lay := goodIn_r _ [22, 23, 24, 25, 26, 27, 28, 29, 30, 31, 21, 32, 33, 34, 35, 36, 37, 38, 53, 54, 55, 56, 57, 58, 59] (by decide +kernel) (by decide +kernel)
set_option maxRecDepth 20000 in
theorem gX4_band_X1_lay : GoodIn wsX4_band (wsV RX4 111 RX1 yX1_lay wsX1_lay) := goodIn_app (goodIn_of _ (by decide +kernel)) ggX4_band_X1_lay
set_option maxRecDepth 20000 in
theorem ggX4_band_X1_secondsAt : GoodIn wsX4_band wsX1_secondsAt := goodIn_r _ [42, 28, 29, 58, 59] (by decide +kernel) (by decide +kernel)
set_option maxRecDepth 20000 in
theorem gX4_band_X1_secondsAt : GoodIn wsX4_band (wsV RX4 115 RX1 yX1_secondsAt wsX1_secondsAt) := goodIn_app (goodIn_of _ (by decide +kernel)) ggX4_band_X1_secondsAt
theorem dX4_band_0 : decode cX4_band 0 = .ok (.iload_n 1, 1) := by decide +kernel
theorem dX4_band_1 : decode cX4_band 1 = .ok (.invokestatic 80, 3) := by decide +kernel
theorem dX4_band_4 : decode cX4_band 4 = .ok (.ifCond .eq 11, 3) := by decide +kernel
theorem dX4_band_7 : decode cX4_band 7 = .ok (.aload_n 0, 1) := by decide +kernel
theorem dX4_band_8 : decode cX4_band 8 = .ok (.iload_n 2, 1) := by decide +kernel
theorem dX4_band_9 : decode cX4_band 9 = .ok (.invokevirtual 108, 3) := by decide +kernel
theorem dX4_band_12 : decode cX4_band 12 = .ok (.ifCond .ne 9, 3) := by decide +kernel
theorem dX4_band_15 : decode cX4_band 15 = .ok (.aload_n 0, 1) := by decide +kernel
theorem dX4_band_16 : decode cX4_band 16 = .ok (.iconst (-1), 1) := by decide +kernel
theorem dX4_band_17 : decode cX4_band 17 = .ok (.invokevirtual 58, 3) := by decide +kernel
theorem dX4_band_20 : decode cX4_band 20 = .ok (.ireturn, 1) := by decide +kernel
theorem dX4_band_21 : decode cX4_band 21 = .ok (.aload_n 0, 1) := by decide +kernel
theorem dX4_band_22 : decode cX4_band 22 = .ok (.getfield 29, 3) := by decide +kernel
theorem dX4_band_25 : decode cX4_band 25 = .ok (.aload_n 0, 1) := by decide +kernel
theorem dX4_band_26 : decode cX4_band 26 = .ok (.getfield 10, 3) := by decide +kernel
theorem dX4_band_29 : decode cX4_band 29 = .ok (.aload_n 0, 1) := by decide +kernel
theorem dX4_band_30 : decode cX4_band 30 = .ok (.getfield 10, 3) := by decide +kernel
theorem dX4_band_33 : decode cX4_band 33 = .ok (.getfield 99, 3) := by decide +kernel
theorem dX4_band_36 : decode cX4_band 36 = .ok (.iload_n 1, 1) := by decide +kernel
theorem dX4_band_37 : decode cX4_band 37 = .ok (.invokevirtual 111, 3) := by decide +kernel
theorem dX4_band_40 : decode cX4_band 40 = .ok (.aload_n 0, 1) := by decide +kernel
theorem dX4_band_41 : decode cX4_band 41 = .ok (.getfield 29, 3) := by decide +kernel
theorem dX4_band_44 : decode cX4_band 44 = .ok (.iload_n 2, 1) := by decide +kernel
theorem dX4_band_45 : decode cX4_band 45 = .ok (.invokevirtual 115, 3) := by decide +kernel
theorem dX4_band_48 : decode cX4_band 48 = .ok (.ireturn, 1) := by decide +kernel
set_option maxRecDepth 20000 in
theorem ggX4_told_X4_isSecond : GoodIn wsX4_told wsX4_isSecond := goodIn_r _ [9] (by decide +kernel) (by decide +kernel)
set_option maxRecDepth 20000 in
theorem gX4_told_X4_isSecond : GoodIn wsX4_told (va_wsS RX4 80 yX4_isSecond wsX4_isSecond) := goodIn_app (goodIn_of _ (by decide +kernel)) ggX4_told_X4_isSecond
set_option maxRecDepth 20000 in
theorem ggX4_told_X4_refuse : GoodIn wsX4_told wsX4_refuse := goodIn_r _ [13, 14, 49, 50, 51, 52, 53, 54, 55, 56, 57, 58] (by decide +kernel) (by decide +kernel)
set_option maxRecDepth 20000 in
theorem gX4_told_X4_refuse : GoodIn wsX4_told (wsV RX4 58 RX4 yX4_refuse wsX4_refuse) := goodIn_app (goodIn_of _ (by decide +kernel)) ggX4_told_X4_refuse
set_option maxRecDepth 20000 in
theorem ggX4_told_X1_lay : GoodIn wsX4_told wsX1_lay := goodIn_r _ [19, 20, 21, 22, 23, 24, 25, 26, 27, 28, 18, 29, 30, 31, 32, 33, 34, 35, 59, 60, 61, 62, 63, 64, 65] (by decide +kernel) (by decide +kernel)
set_option maxRecDepth 20000 in
theorem gX4_told_X1_lay : GoodIn wsX4_told (wsV RX4 111 RX1 yX1_lay wsX1_lay) := goodIn_app (goodIn_of _ (by decide +kernel)) ggX4_told_X1_lay
set_option maxRecDepth 20000 in
theorem ggX4_told_X1_tell : GoodIn wsX4_told wsX1_tell := goodIn_r _ [39, 26, 40, 41, 23, 42, 25, 43, 44, 18, 45, 46, 47, 48, 64, 65] (by decide +kernel) (by decide +kernel)
set_option maxRecDepth 20000 in
theorem gX4_told_X1_tell : GoodIn wsX4_told (wsV RX4 118 RX1 yX1_tell wsX1_tell) := goodIn_app (goodIn_of _ (by decide +kernel)) ggX4_told_X1_tell
theorem dX4_told_0 : decode cX4_told 0 = .ok (.iload_n 1, 1) := by decide +kernel
theorem dX4_told_1 : decode cX4_told 1 = .ok (.invokestatic 80, 3) := by decide +kernel
theorem dX4_told_4 : decode cX4_told 4 = .ok (.ifCond .eq 10, 3) := by decide +kernel
theorem dX4_told_7 : decode cX4_told 7 = .ok (.iload_n 2, 1) := by decide +kernel
theorem dX4_told_8 : decode cX4_told 8 = .ok (.invokestatic 80, 3) := by decide +kernel
theorem dX4_told_11 : decode cX4_told 11 = .ok (.ifCond .ne 9, 3) := by decide +kernel
theorem dX4_told_14 : decode cX4_told 14 = .ok (.aload_n 0, 1) := by decide +kernel
theorem dX4_told_15 : decode cX4_told 15 = .ok (.iconst (-1), 1) := by decide +kernel
theorem dX4_told_16 : decode cX4_told 16 = .ok (.invokevirtual 58, 3) := by decide +kernel
theorem dX4_told_19 : decode cX4_told 19 = .ok (.ireturn, 1) := by decide +kernel
theorem dX4_told_20 : decode cX4_told 20 = .ok (.aload_n 0, 1) := by decide +kernel
theorem dX4_told_21 : decode cX4_told 21 = .ok (.getfield 29, 3) := by decide +kernel
theorem dX4_told_24 : decode cX4_told 24 = .ok (.aload_n 0, 1) := by decide +kernel
theorem dX4_told_25 : decode cX4_told 25 = .ok (.getfield 10, 3) := by decide +kernel
theorem dX4_told_28 : decode cX4_told 28 = .ok (.aload_n 0, 1) := by decide +kernel
theorem dX4_told_29 : decode cX4_told 29 = .ok (.getfield 10, 3) := by decide +kernel
theorem dX4_told_32 : decode cX4_told 32 = .ok (.getfield 99, 3) := by decide +kernel
theorem dX4_told_35 : decode cX4_told 35 = .ok (.iload_n 1, 1) := by decide +kernel
theorem dX4_told_36 : decode cX4_told 36 = .ok (.invokevirtual 111, 3) := by decide +kernel
theorem dX4_told_39 : decode cX4_told 39 = .ok (.aload_n 0, 1) := by decide +kernel
theorem dX4_told_40 : decode cX4_told 40 = .ok (.getfield 29, 3) := by decide +kernel
theorem dX4_told_43 : decode cX4_told 43 = .ok (.aload_n 0, 1) := by decide +kernel
theorem dX4_told_44 : decode cX4_told 44 = .ok (.getfield 10, 3) := by decide +kernel
theorem dX4_told_47 : decode cX4_told 47 = .ok (.getfield 105, 3) := by decide +kernel
theorem dX4_told_50 : decode cX4_told 50 = .ok (.aload_n 0, 1) := by decide +kernel
theorem dX4_told_51 : decode cX4_told 51 = .ok (.getfield 10, 3) := by decide +kernel
theorem dX4_told_54 : decode cX4_told 54 = .ok (.getfield 93, 3) := by decide +kernel
theorem dX4_told_57 : decode cX4_told 57 = .ok (.iconst 2, 1) := by decide +kernel
theorem dX4_told_58 : decode cX4_told 58 = .ok (.iaload, 1) := by decide +kernel
theorem dX4_told_59 : decode cX4_told 59 = .ok (.iload_n 2, 1) := by decide +kernel
theorem dX4_told_60 : decode cX4_told 60 = .ok (.invokevirtual 118, 3) := by decide +kernel
theorem dX4_told_63 : decode cX4_told 63 = .ok (.ireturn, 1) := by decide +kernel
set_option maxRecDepth 20000 in
theorem ggX4_tryIt_X4_isSecond : GoodIn wsX4_tryIt wsX4_isSecond := goodIn_r _ [7] (by decide +kernel) (by decide +kernel)
set_option maxRecDepth 20000 in
theorem gX4_tryIt_X4_isSecond : GoodIn wsX4_tryIt (va_wsS RX4 80 yX4_isSecond wsX4_isSecond) := goodIn_app (goodIn_of _ (by decide +kernel)) ggX4_tryIt_X4_isSecond
set_option maxRecDepth 20000 in
theorem ggX4_tryIt_X4_canBeTold : GoodIn wsX4_tryIt wsX4_canBeTold := goodIn_r _ [11, 12, 13, 14, 6, 15, 1, 16, 82, 83, 84, 85, 86, 87, 88, 89, 90, 91, 92, 93, 94, 95, 96] (by decide +kernel) (by decide +kernel)
set_option maxRecDepth 20000 in
theorem gX4_tryIt_X4_canBeTold : GoodIn wsX4_tryIt (wsV RX4 122 RX4 yX4_canBeTold wsX4_canBeTold) := goodIn_app (goodIn_of _ (by decide +kernel)) ggX4_tryIt_X4_canBeTold
set_option maxRecDepth 20000 in
theorem ggX4_tryIt_X4_refuse : GoodIn wsX4_tryIt wsX4_refuse := goodIn_r _ [20, 21, 82, 83, 84, 85, 86, 87, 88, 89, 90, 91] (by decide +kernel) (by decide +kernel)
set_option maxRecDepth 20000 in
theorem gX4_tryIt_X4_refuse : GoodIn wsX4_tryIt (wsV RX4 58 RX4 yX4_refuse wsX4_refuse) := goodIn_app (goodIn_of _ (by decide +kernel)) ggX4_tryIt_X4_refuse
set_option maxRecDepth 20000 in
theorem ggX4_tryIt_X0_leftIfTold : GoodIn wsX4_tryIt wsX0_leftIfTold := goodIn_r _ [26, 27, 28, 29, 30, 31, 32, 33, 34, 35, 36, 37, 38, 39, 40, 41, 42, 43, 44, 45, 46, 47, 48, 49, 50, 51, 52, 53, 54, 55, 56, 57, 58, 59, 60, 61, 62, 63, 64, 92, 93, 94, 95, 96, 97, 98] (by decide +kernel) (by decide +kernel)
set_option maxRecDepth 20000 in
theorem gX4_tryIt_X0_leftIfTold : GoodIn wsX4_tryIt (wsV RX4 125 RX0 yX0_leftIfTold wsX0_leftIfTold) := goodIn_app (goodIn_of _ (by decide +kernel)) ggX4_tryIt_X0_leftIfTold
set_option maxRecDepth 20000 in
theorem ggX4_tryIt_X0_tryDownTo : GoodIn wsX4_tryIt wsX0_tryDownTo := goodIn_r _ [68, 28, 69, 70, 6, 71, 92, 93, 94, 95, 96] (by decide +kernel) (by decide +kernel)
set_option maxRecDepth 20000 in
theorem gX4_tryIt_X0_tryDownTo : GoodIn wsX4_tryIt (wsV RX4 132 RX0 yX0_tryDownTo wsX0_tryDownTo) := goodIn_app (goodIn_of _ (by decide +kernel)) ggX4_tryIt_X0_tryDownTo
set_option maxRecDepth 20000 in
theorem ggX4_tryIt_X4_size : GoodIn wsX4_tryIt wsX4_size := goodIn_r _ [74, 75, 76, 77, 78, 79, 80, 81] (by decide +kernel) (by decide +kernel)
set_option maxRecDepth 20000 in
theorem gX4_tryIt_X4_size : GoodIn wsX4_tryIt (va_wsS RX4 136 yX4_size wsX4_size) := goodIn_app (goodIn_of _ (by decide +kernel)) ggX4_tryIt_X4_size
theorem dX4_tryIt_0 : decode cX4_tryIt 0 = .ok (.iload_n 1, 1) := by decide +kernel
theorem dX4_tryIt_1 : decode cX4_tryIt 1 = .ok (.invokestatic 80, 3) := by decide +kernel
theorem dX4_tryIt_4 : decode cX4_tryIt 4 = .ok (.ifCond .eq 11, 3) := by decide +kernel
theorem dX4_tryIt_7 : decode cX4_tryIt 7 = .ok (.aload_n 0, 1) := by decide +kernel
theorem dX4_tryIt_8 : decode cX4_tryIt 8 = .ok (.iload_n 2, 1) := by decide +kernel
theorem dX4_tryIt_9 : decode cX4_tryIt 9 = .ok (.invokevirtual 122, 3) := by decide +kernel
theorem dX4_tryIt_12 : decode cX4_tryIt 12 = .ok (.ifCond .ne 9, 3) := by decide +kernel
theorem dX4_tryIt_15 : decode cX4_tryIt 15 = .ok (.aload_n 0, 1) := by decide +kernel
theorem dX4_tryIt_16 : decode cX4_tryIt 16 = .ok (.iconst (-1), 1) := by decide +kernel
theorem dX4_tryIt_17 : decode cX4_tryIt 17 = .ok (.invokevirtual 58, 3) := by decide +kernel
theorem dX4_tryIt_20 : decode cX4_tryIt 20 = .ok (.ireturn, 1) := by decide +kernel
theorem dX4_tryIt_21 : decode cX4_tryIt 21 = .ok (.aload_n 0, 1) := by decide +kernel
theorem dX4_tryIt_22 : decode cX4_tryIt 22 = .ok (.getfield 10, 3) := by decide +kernel
theorem dX4_tryIt_25 : decode cX4_tryIt 25 = .ok (.aload_n 0, 1) := by decide +kernel
theorem dX4_tryIt_26 : decode cX4_tryIt 26 = .ok (.getfield 29, 3) := by decide +kernel
theorem dX4_tryIt_29 : decode cX4_tryIt 29 = .ok (.iload_n 1, 1) := by decide +kernel
theorem dX4_tryIt_30 : decode cX4_tryIt 30 = .ok (.iload_n 2, 1) := by decide +kernel
theorem dX4_tryIt_31 : decode cX4_tryIt 31 = .ok (.invokevirtual 125, 3) := by decide +kernel
theorem dX4_tryIt_34 : decode cX4_tryIt 34 = .ok (.lstore_n 3, 1) := by decide +kernel
theorem dX4_tryIt_35 : decode cX4_tryIt 35 = .ok (.lload_n 3, 1) := by decide +kernel
theorem dX4_tryIt_36 : decode cX4_tryIt 36 = .ok (.lconst 0, 1) := by decide +kernel
theorem dX4_tryIt_37 : decode cX4_tryIt 37 = .ok (.lcmp, 1) := by decide +kernel
theorem dX4_tryIt_38 : decode cX4_tryIt 38 = .ok (.ifCond .ne 10, 3) := by decide +kernel
theorem dX4_tryIt_41 : decode cX4_tryIt 41 = .ok (.aload_n 0, 1) := by decide +kernel
theorem dX4_tryIt_42 : decode cX4_tryIt 42 = .ok (.bipush (-3), 2) := by decide +kernel
theorem dX4_tryIt_44 : decode cX4_tryIt 44 = .ok (.invokevirtual 58, 3) := by decide +kernel
theorem dX4_tryIt_47 : decode cX4_tryIt 47 = .ok (.ireturn, 1) := by decide +kernel
theorem dX4_tryIt_48 : decode cX4_tryIt 48 = .ok (.aload_n 0, 1) := by decide +kernel
theorem dX4_tryIt_49 : decode cX4_tryIt 49 = .ok (.getfield 10, 3) := by decide +kernel
theorem dX4_tryIt_52 : decode cX4_tryIt 52 = .ok (.getfield 129, 3) := by decide +kernel
theorem dX4_tryIt_55 : decode cX4_tryIt 55 = .ok (.bipush 99, 2) := by decide +kernel
theorem dX4_tryIt_57 : decode cX4_tryIt 57 = .ok (.if_icmp .lt 10, 3) := by decide +kernel
theorem dX4_tryIt_60 : decode cX4_tryIt 60 = .ok (.aload_n 0, 1) := by decide +kernel
theorem dX4_tryIt_61 : decode cX4_tryIt 61 = .ok (.bipush (-6), 2) := by decide +kernel
theorem dX4_tryIt_63 : decode cX4_tryIt 63 = .ok (.invokevirtual 58, 3) := by decide +kernel
theorem dX4_tryIt_66 : decode cX4_tryIt 66 = .ok (.ireturn, 1) := by decide +kernel
theorem dX4_tryIt_67 : decode cX4_tryIt 67 = .ok (.aload_n 0, 1) := by decide +kernel
theorem dX4_tryIt_68 : decode cX4_tryIt 68 = .ok (.getfield 10, 3) := by decide +kernel
theorem dX4_tryIt_71 : decode cX4_tryIt 71 = .ok (.lload_n 3, 1) := by decide +kernel
theorem dX4_tryIt_72 : decode cX4_tryIt 72 = .ok (.invokevirtual 132, 3) := by decide +kernel
theorem dX4_tryIt_75 : decode cX4_tryIt 75 = .ok (.lload_n 3, 1) := by decide +kernel
theorem dX4_tryIt_76 : decode cX4_tryIt 76 = .ok (.invokestatic 136, 3) := by decide +kernel
theorem dX4_tryIt_79 : decode cX4_tryIt 79 = .ok (.ireturn, 1) := by decide +kernel
set_option maxRecDepth 20000 in
theorem ggX4_parts_X4_isSecond : GoodIn wsX4_parts wsX4_isSecond := goodIn_r _ [7] (by decide +kernel) (by decide +kernel)
set_option maxRecDepth 20000 in
theorem gX4_parts_X4_isSecond : GoodIn wsX4_parts (va_wsS RX4 80 yX4_isSecond wsX4_isSecond) := goodIn_app (goodIn_of _ (by decide +kernel)) ggX4_parts_X4_isSecond
set_option maxRecDepth 20000 in
theorem ggX4_parts_X4_refuse : GoodIn wsX4_parts wsX4_refuse := goodIn_r _ [11, 12, 78, 79, 80, 81, 82, 83, 84, 85, 86, 87] (by decide +kernel) (by decide +kernel)
set_option maxRecDepth 20000 in
theorem gX4_parts_X4_refuse : GoodIn wsX4_parts (wsV RX4 58 RX4 yX4_refuse wsX4_refuse) := goodIn_app (goodIn_of _ (by decide +kernel)) ggX4_parts_X4_refuse
set_option maxRecDepth 20000 in
theorem ggX4_parts_X2_take : GoodIn wsX4_parts wsX2_take := goodIn_r _ [17, 18, 19, 20, 21, 22, 6, 23, 24, 25, 26, 16, 27, 28, 29, 30, 31, 32, 33, 34, 35, 36, 37, 38, 39, 40, 41, 42, 43, 44, 45, 46, 47, 48, 49, 50, 51, 52, 53, 54, 55, 56, 57, 58, 59, 60, 61, 62, 63, 93, 94, 95, 96, 97, 88, 89, 90, 91, 92, 98, 99] (by decide +kernel) (by decide +kernel)
set_option maxRecDepth 20000 in
theorem gX4_parts_X2_take : GoodIn wsX4_parts (wsV RX4 140 RX2 yX2_take wsX2_take) := goodIn_app (goodIn_of _ (by decide +kernel)) ggX4_parts_X2_take
set_option maxRecDepth 20000 in
theorem ggX4_parts_X0_left : GoodIn wsX4_parts wsX0_left := goodIn_r _ [68, 69, 88, 89, 90, 91, 92] (by decide +kernel) (by decide +kernel)
set_option maxRecDepth 20000 in
theorem gX4_parts_X0_left : GoodIn wsX4_parts (wsV RX4 144 RX0 yX0_left wsX0_left) := goodIn_app (goodIn_of _ (by decide +kernel)) ggX4_parts_X0_left
set_option maxRecDepth 20000 in
theorem ggX4_parts_X2_partsOf : GoodIn wsX4_parts wsX2_partsOf := goodIn_r _ [73, 74, 75, 76, 16, 77, 28, 18, 5, 6, 7, 93, 94, 95, 96, 97] (by decide +kernel) (by decide +kernel)
set_option maxRecDepth 20000 in
theorem gX4_parts_X2_partsOf : GoodIn wsX4_parts (wsV RX4 148 RX2 yX2_partsOf wsX2_partsOf) := goodIn_app (goodIn_of _ (by decide +kernel)) ggX4_parts_X2_partsOf
theorem dX4_parts_0 : decode cX4_parts 0 = .ok (.iload_n 1, 1) := by decide +kernel
theorem dX4_parts_1 : decode cX4_parts 1 = .ok (.invokestatic 80, 3) := by decide +kernel
theorem dX4_parts_4 : decode cX4_parts 4 = .ok (.ifCond .ne 9, 3) := by decide +kernel
theorem dX4_parts_7 : decode cX4_parts 7 = .ok (.aload_n 0, 1) := by decide +kernel
theorem dX4_parts_8 : decode cX4_parts 8 = .ok (.iconst (-1), 1) := by decide +kernel
theorem dX4_parts_9 : decode cX4_parts 9 = .ok (.invokevirtual 58, 3) := by decide +kernel
theorem dX4_parts_12 : decode cX4_parts 12 = .ok (.ireturn, 1) := by decide +kernel
theorem dX4_parts_13 : decode cX4_parts 13 = .ok (.aload_n 0, 1) := by decide +kernel
theorem dX4_parts_14 : decode cX4_parts 14 = .ok (.getfield 36, 3) := by decide +kernel
theorem dX4_parts_17 : decode cX4_parts 17 = .ok (.aload_n 0, 1) := by decide +kernel
theorem dX4_parts_18 : decode cX4_parts 18 = .ok (.getfield 10, 3) := by decide +kernel
theorem dX4_parts_21 : decode cX4_parts 21 = .ok (.aload_n 0, 1) := by decide +kernel
theorem dX4_parts_22 : decode cX4_parts 22 = .ok (.getfield 10, 3) := by decide +kernel
theorem dX4_parts_25 : decode cX4_parts 25 = .ok (.getfield 99, 3) := by decide +kernel
theorem dX4_parts_28 : decode cX4_parts 28 = .ok (.invokevirtual 140, 3) := by decide +kernel
theorem dX4_parts_31 : decode cX4_parts 31 = .ok (.aload_n 0, 1) := by decide +kernel
theorem dX4_parts_32 : decode cX4_parts 32 = .ok (.getfield 36, 3) := by decide +kernel
theorem dX4_parts_35 : decode cX4_parts 35 = .ok (.iload_n 1, 1) := by decide +kernel
theorem dX4_parts_36 : decode cX4_parts 36 = .ok (.aload_n 0, 1) := by decide +kernel
theorem dX4_parts_37 : decode cX4_parts 37 = .ok (.getfield 10, 3) := by decide +kernel
theorem dX4_parts_40 : decode cX4_parts 40 = .ok (.invokevirtual 144, 3) := by decide +kernel
theorem dX4_parts_43 : decode cX4_parts 43 = .ok (.invokevirtual 148, 3) := by decide +kernel
theorem dX4_parts_46 : decode cX4_parts 46 = .ok (.ireturn, 1) := by decide +kernel
set_option maxRecDepth 20000 in
theorem ggX4_worst_X4_isSecond : GoodIn wsX4_worst wsX4_isSecond := goodIn_r _ [7] (by decide +kernel) (by decide +kernel)
set_option maxRecDepth 20000 in
theorem gX4_worst_X4_isSecond : GoodIn wsX4_worst (va_wsS RX4 80 yX4_isSecond wsX4_isSecond) := goodIn_app (goodIn_of _ (by decide +kernel)) ggX4_worst_X4_isSecond
set_option maxRecDepth 20000 in
theorem ggX4_worst_X4_refuse : GoodIn wsX4_worst wsX4_refuse := goodIn_r _ [11, 12, 88, 89, 90, 91, 92, 93, 94, 95, 96, 97] (by decide +kernel) (by decide +kernel)
set_option maxRecDepth 20000 in
theorem gX4_worst_X4_refuse : GoodIn wsX4_worst (wsV RX4 58 RX4 yX4_refuse wsX4_refuse) := goodIn_app (goodIn_of _ (by decide +kernel)) ggX4_worst_X4_refuse
set_option maxRecDepth 20000 in
theorem ggX4_worst_X2_take : GoodIn wsX4_worst wsX2_take := goodIn_r _ [17, 18, 19, 20, 21, 22, 6, 23, 24, 25, 26, 16, 27, 28, 29, 30, 31, 32, 33, 34, 35, 36, 37, 38, 39, 40, 41, 42, 43, 44, 45, 46, 47, 48, 49, 50, 51, 52, 53, 54, 55, 56, 57, 58, 59, 60, 61, 62, 63, 103, 104, 105, 106, 107, 98, 99, 100, 101, 102, 108, 109] (by decide +kernel) (by decide +kernel)
set_option maxRecDepth 20000 in
theorem gX4_worst_X2_take : GoodIn wsX4_worst (wsV RX4 140 RX2 yX2_take wsX2_take) := goodIn_app (goodIn_of _ (by decide +kernel)) ggX4_worst_X2_take
set_option maxRecDepth 20000 in
theorem ggX4_worst_X0_left : GoodIn wsX4_worst wsX0_left := goodIn_r _ [68, 69, 98, 99, 100, 101, 102] (by decide +kernel) (by decide +kernel)
set_option maxRecDepth 20000 in
theorem gX4_worst_X0_left : GoodIn wsX4_worst (wsV RX4 144 RX0 yX0_left wsX0_left) := goodIn_app (goodIn_of _ (by decide +kernel)) ggX4_worst_X0_left
set_option maxRecDepth 20000 in
theorem ggX4_worst_X2_worstOf : GoodIn wsX4_worst wsX2_worstOf := goodIn_r _ [73, 74, 62, 38, 63, 75, 76, 77, 16, 78, 28, 18, 5, 6, 7, 79, 80, 81, 82, 83, 84, 85, 86, 87, 103, 104, 105, 106, 107] (by decide +kernel) (by decide +kernel)
set_option maxRecDepth 20000 in
theorem gX4_worst_X2_worstOf : GoodIn wsX4_worst (wsV RX4 152 RX2 yX2_worstOf wsX2_worstOf) := goodIn_app (goodIn_of _ (by decide +kernel)) ggX4_worst_X2_worstOf
theorem dX4_worst_0 : decode cX4_worst 0 = .ok (.iload_n 1, 1) := by decide +kernel
theorem dX4_worst_1 : decode cX4_worst 1 = .ok (.invokestatic 80, 3) := by decide +kernel
theorem dX4_worst_4 : decode cX4_worst 4 = .ok (.ifCond .ne 9, 3) := by decide +kernel
theorem dX4_worst_7 : decode cX4_worst 7 = .ok (.aload_n 0, 1) := by decide +kernel
theorem dX4_worst_8 : decode cX4_worst 8 = .ok (.iconst (-1), 1) := by decide +kernel
theorem dX4_worst_9 : decode cX4_worst 9 = .ok (.invokevirtual 58, 3) := by decide +kernel
theorem dX4_worst_12 : decode cX4_worst 12 = .ok (.ireturn, 1) := by decide +kernel
theorem dX4_worst_13 : decode cX4_worst 13 = .ok (.aload_n 0, 1) := by decide +kernel
theorem dX4_worst_14 : decode cX4_worst 14 = .ok (.getfield 36, 3) := by decide +kernel
theorem dX4_worst_17 : decode cX4_worst 17 = .ok (.aload_n 0, 1) := by decide +kernel
theorem dX4_worst_18 : decode cX4_worst 18 = .ok (.getfield 10, 3) := by decide +kernel
theorem dX4_worst_21 : decode cX4_worst 21 = .ok (.aload_n 0, 1) := by decide +kernel
theorem dX4_worst_22 : decode cX4_worst 22 = .ok (.getfield 10, 3) := by decide +kernel
theorem dX4_worst_25 : decode cX4_worst 25 = .ok (.getfield 99, 3) := by decide +kernel
theorem dX4_worst_28 : decode cX4_worst 28 = .ok (.invokevirtual 140, 3) := by decide +kernel
theorem dX4_worst_31 : decode cX4_worst 31 = .ok (.aload_n 0, 1) := by decide +kernel
theorem dX4_worst_32 : decode cX4_worst 32 = .ok (.getfield 36, 3) := by decide +kernel
theorem dX4_worst_35 : decode cX4_worst 35 = .ok (.iload_n 1, 1) := by decide +kernel
theorem dX4_worst_36 : decode cX4_worst 36 = .ok (.aload_n 0, 1) := by decide +kernel
theorem dX4_worst_37 : decode cX4_worst 37 = .ok (.getfield 10, 3) := by decide +kernel
theorem dX4_worst_40 : decode cX4_worst 40 = .ok (.invokevirtual 144, 3) := by decide +kernel
theorem dX4_worst_43 : decode cX4_worst 43 = .ok (.invokevirtual 152, 3) := by decide +kernel
theorem dX4_worst_46 : decode cX4_worst 46 = .ok (.ireturn, 1) := by decide +kernel
set_option maxRecDepth 20000 in
theorem ggX4_mean_X4_isSecond : GoodIn wsX4_mean wsX4_isSecond := goodIn_r _ [7] (by decide +kernel) (by decide +kernel)
set_option maxRecDepth 20000 in
theorem gX4_mean_X4_isSecond : GoodIn wsX4_mean (va_wsS RX4 80 yX4_isSecond wsX4_isSecond) := goodIn_app (goodIn_of _ (by decide +kernel)) ggX4_mean_X4_isSecond
set_option maxRecDepth 20000 in
theorem ggX4_mean_X4_refuseLong : GoodIn wsX4_mean wsX4_refuseLong := goodIn_r _ [11, 12, 13, 14, 15, 6, 16, 17, 108, 109, 110, 111, 112, 113, 114, 115, 116, 117] (by decide +kernel) (by decide +kernel)
set_option maxRecDepth 20000 in
theorem gX4_mean_X4_refuseLong : GoodIn wsX4_mean (wsV RX4 155 RX4 yX4_refuseLong wsX4_refuseLong) := goodIn_app (goodIn_of _ (by decide +kernel)) ggX4_mean_X4_refuseLong
set_option maxRecDepth 20000 in
theorem ggX4_mean_X4_isPart : GoodIn wsX4_mean wsX4_isPart := goodIn_r _ [20] (by decide +kernel) (by decide +kernel)
set_option maxRecDepth 20000 in
theorem gX4_mean_X4_isPart : GoodIn wsX4_mean (va_wsS RX4 159 yX4_isPart wsX4_isPart) := goodIn_app (goodIn_of _ (by decide +kernel)) ggX4_mean_X4_isPart
set_option maxRecDepth 20000 in
theorem ggX4_mean_X2_take : GoodIn wsX4_mean wsX2_take := goodIn_r _ [25, 26, 27, 28, 29, 30, 6, 31, 32, 33, 34, 24, 35, 36, 37, 38, 39, 40, 41, 42, 43, 44, 45, 46, 47, 48, 49, 50, 51, 52, 53, 54, 55, 56, 57, 58, 59, 60, 61, 62, 63, 64, 65, 66, 67, 68, 69, 70, 71, 123, 124, 125, 126, 127, 118, 119, 120, 121, 122, 128, 129] (by decide +kernel) (by decide +kernel)
set_option maxRecDepth 20000 in
theorem gX4_mean_X2_take : GoodIn wsX4_mean (wsV RX4 140 RX2 yX2_take wsX2_take) := goodIn_app (goodIn_of _ (by decide +kernel)) ggX4_mean_X2_take
set_option maxRecDepth 20000 in
theorem ggX4_mean_X0_left : GoodIn wsX4_mean wsX0_left := goodIn_r _ [76, 77, 118, 119, 120, 121, 122] (by decide +kernel) (by decide +kernel)
set_option maxRecDepth 20000 in
theorem gX4_mean_X0_left : GoodIn wsX4_mean (wsV RX4 144 RX0 yX0_left wsX0_left) := goodIn_app (goodIn_of _ (by decide +kernel)) ggX4_mean_X0_left
set_option maxRecDepth 20000 in
theorem ggX4_mean_X2_meanOf : GoodIn wsX4_mean wsX2_meanOf := goodIn_r _ [81, 82, 83, 84, 24, 85, 36, 26, 5, 6, 7, 86, 87, 88, 75, 89, 77, 90, 91, 92, 93, 94, 95, 96, 97, 98, 99, 100, 123, 124, 125, 126, 127, 118, 119, 120, 121, 122] (by decide +kernel) (by decide +kernel)
set_option maxRecDepth 20000 in
theorem gX4_mean_X2_meanOf : GoodIn wsX4_mean (wsV RX4 162 RX2 yX2_meanOf wsX2_meanOf) := goodIn_app (goodIn_of _ (by decide +kernel)) ggX4_mean_X2_meanOf
set_option maxRecDepth 20000 in
theorem ggX4_mean_X0_weightOf : GoodIn wsX4_mean wsX0_weightOf := goodIn_r _ [89, 77, 90, 6, 91, 118, 119, 120, 121, 122] (by decide +kernel) (by decide +kernel)
set_option maxRecDepth 20000 in
theorem gX4_mean_X0_weightOf : GoodIn wsX4_mean (wsV RX4 166 RX0 yX0_weightOf wsX0_weightOf) := goodIn_app (goodIn_of _ (by decide +kernel)) ggX4_mean_X0_weightOf
set_option maxRecDepth 20000 in
theorem ggX4_mean_X4_fraction : GoodIn wsX4_mean wsX4_fraction := goodIn_r _ [104, 105, 106, 6, 107] (by decide +kernel) (by decide +kernel)
set_option maxRecDepth 20000 in
theorem gX4_mean_X4_fraction : GoodIn wsX4_mean (va_wsS RX4 169 yX4_fraction wsX4_fraction) := goodIn_app (goodIn_of _ (by decide +kernel)) ggX4_mean_X4_fraction
theorem dX4_mean_0 : decode cX4_mean 0 = .ok (.iload_n 1, 1) := by decide +kernel
theorem dX4_mean_1 : decode cX4_mean 1 = .ok (.invokestatic 80, 3) := by decide +kernel
theorem dX4_mean_4 : decode cX4_mean 4 = .ok (.ifCond .ne 9, 3) := by decide +kernel
theorem dX4_mean_7 : decode cX4_mean 7 = .ok (.aload_n 0, 1) := by decide +kernel
theorem dX4_mean_8 : decode cX4_mean 8 = .ok (.iconst (-1), 1) := by decide +kernel
theorem dX4_mean_9 : decode cX4_mean 9 = .ok (.invokevirtual 155, 3) := by decide +kernel
theorem dX4_mean_12 : decode cX4_mean 12 = .ok (.lreturn, 1) := by decide +kernel
theorem dX4_mean_13 : decode cX4_mean 13 = .ok (.iload_n 2, 1) := by decide +kernel
theorem dX4_mean_14 : decode cX4_mean 14 = .ok (.invokestatic 159, 3) := by decide +kernel
theorem dX4_mean_17 : decode cX4_mean 17 = .ok (.ifCond .ne 10, 3) := by decide +kernel
theorem dX4_mean_20 : decode cX4_mean 20 = .ok (.aload_n 0, 1) := by decide +kernel
theorem dX4_mean_21 : decode cX4_mean 21 = .ok (.bipush (-2), 2) := by decide +kernel
theorem dX4_mean_23 : decode cX4_mean 23 = .ok (.invokevirtual 155, 3) := by decide +kernel
theorem dX4_mean_26 : decode cX4_mean 26 = .ok (.lreturn, 1) := by decide +kernel
theorem dX4_mean_27 : decode cX4_mean 27 = .ok (.aload_n 0, 1) := by decide +kernel
theorem dX4_mean_28 : decode cX4_mean 28 = .ok (.getfield 36, 3) := by decide +kernel
theorem dX4_mean_31 : decode cX4_mean 31 = .ok (.aload_n 0, 1) := by decide +kernel
theorem dX4_mean_32 : decode cX4_mean 32 = .ok (.getfield 10, 3) := by decide +kernel
theorem dX4_mean_35 : decode cX4_mean 35 = .ok (.aload_n 0, 1) := by decide +kernel
theorem dX4_mean_36 : decode cX4_mean 36 = .ok (.getfield 10, 3) := by decide +kernel
theorem dX4_mean_39 : decode cX4_mean 39 = .ok (.getfield 99, 3) := by decide +kernel
theorem dX4_mean_42 : decode cX4_mean 42 = .ok (.invokevirtual 140, 3) := by decide +kernel
theorem dX4_mean_45 : decode cX4_mean 45 = .ok (.aload_n 0, 1) := by decide +kernel
theorem dX4_mean_46 : decode cX4_mean 46 = .ok (.getfield 36, 3) := by decide +kernel
theorem dX4_mean_49 : decode cX4_mean 49 = .ok (.iload_n 1, 1) := by decide +kernel
theorem dX4_mean_50 : decode cX4_mean 50 = .ok (.aload_n 0, 1) := by decide +kernel
theorem dX4_mean_51 : decode cX4_mean 51 = .ok (.getfield 10, 3) := by decide +kernel
theorem dX4_mean_54 : decode cX4_mean 54 = .ok (.aload_n 0, 1) := by decide +kernel
theorem dX4_mean_55 : decode cX4_mean 55 = .ok (.getfield 10, 3) := by decide +kernel
theorem dX4_mean_58 : decode cX4_mean 58 = .ok (.invokevirtual 144, 3) := by decide +kernel
theorem dX4_mean_61 : decode cX4_mean 61 = .ok (.invokevirtual 162, 3) := by decide +kernel
theorem dX4_mean_64 : decode cX4_mean 64 = .ok (.aload_n 0, 1) := by decide +kernel
theorem dX4_mean_65 : decode cX4_mean 65 = .ok (.getfield 10, 3) := by decide +kernel
theorem dX4_mean_68 : decode cX4_mean 68 = .ok (.aload_n 0, 1) := by decide +kernel
theorem dX4_mean_69 : decode cX4_mean 69 = .ok (.getfield 10, 3) := by decide +kernel
theorem dX4_mean_72 : decode cX4_mean 72 = .ok (.invokevirtual 144, 3) := by decide +kernel
theorem dX4_mean_75 : decode cX4_mean 75 = .ok (.invokevirtual 166, 3) := by decide +kernel
theorem dX4_mean_78 : decode cX4_mean 78 = .ok (.i2l, 1) := by decide +kernel
theorem dX4_mean_79 : decode cX4_mean 79 = .ok (.iload_n 2, 1) := by decide +kernel
theorem dX4_mean_80 : decode cX4_mean 80 = .ok (.invokestatic 169, 3) := by decide +kernel
theorem dX4_mean_83 : decode cX4_mean 83 = .ok (.lreturn, 1) := by decide +kernel
set_option maxRecDepth 20000 in
theorem ggX4_best_X4_isMeasure : GoodIn wsX4_best wsX4_isMeasure := goodIn_r _ [7] (by decide +kernel) (by decide +kernel)
set_option maxRecDepth 20000 in
theorem gX4_best_X4_isMeasure : GoodIn wsX4_best (va_wsS RX4 173 yX4_isMeasure wsX4_isMeasure) := goodIn_app (goodIn_of _ (by decide +kernel)) ggX4_best_X4_isMeasure
set_option maxRecDepth 20000 in
theorem ggX4_best_X4_refuse : GoodIn wsX4_best wsX4_refuse := goodIn_r _ [11, 12, 112, 113, 114, 115, 116, 117, 118, 119, 120, 121] (by decide +kernel) (by decide +kernel)
set_option maxRecDepth 20000 in
theorem gX4_best_X4_refuse : GoodIn wsX4_best (wsV RX4 58 RX4 yX4_refuse wsX4_refuse) := goodIn_app (goodIn_of _ (by decide +kernel)) ggX4_best_X4_refuse
set_option maxRecDepth 20000 in
theorem ggX4_best_X0_left : GoodIn wsX4_best wsX0_left := goodIn_r _ [17, 18, 122, 123, 124, 125, 126] (by decide +kernel) (by decide +kernel)
set_option maxRecDepth 20000 in
theorem gX4_best_X0_left : GoodIn wsX4_best (wsV RX4 144 RX0 yX0_left wsX0_left) := goodIn_app (goodIn_of _ (by decide +kernel)) ggX4_best_X0_left
set_option maxRecDepth 20000 in
theorem ggX4_best_X2_take : GoodIn wsX4_best wsX2_take := goodIn_r _ [23, 24, 25, 26, 27, 28, 6, 29, 30, 31, 32, 22, 33, 34, 35, 36, 37, 38, 39, 40, 41, 42, 43, 44, 45, 46, 47, 48, 49, 50, 51, 52, 53, 54, 55, 56, 57, 58, 59, 60, 61, 62, 63, 64, 65, 66, 67, 68, 69, 127, 128, 129, 130, 131, 122, 123, 124, 125, 126, 132, 133] (by decide +kernel) (by decide +kernel)
set_option maxRecDepth 20000 in
theorem gX4_best_X2_take : GoodIn wsX4_best (wsV RX4 140 RX2 yX2_take wsX2_take) := goodIn_app (goodIn_of _ (by decide +kernel)) ggX4_best_X2_take
set_option maxRecDepth 20000 in
theorem ggX4_best_X2_bestBy : GoodIn wsX4_best wsX2_bestBy := goodIn_r _ [73, 74, 75, 76, 22, 77, 78, 79, 80, 81, 82, 83, 84, 85, 34, 24, 86, 6, 87, 88, 89, 90, 16, 91, 18, 92, 93, 94, 95, 96, 97, 98, 99, 100, 101, 102, 103, 104, 105, 106, 107, 108, 109, 110, 111, 68, 44, 69, 127, 128, 129, 130, 131, 122, 123, 124, 125, 126] (by decide +kernel) (by decide +kernel)
set_option maxRecDepth 20000 in
theorem gX4_best_X2_bestBy : GoodIn wsX4_best (wsV RX4 176 RX2 yX2_bestBy wsX2_bestBy) := goodIn_app (goodIn_of _ (by decide +kernel)) ggX4_best_X2_bestBy
theorem dX4_best_0 : decode cX4_best 0 = .ok (.iload_n 1, 1) := by decide +kernel
theorem dX4_best_1 : decode cX4_best 1 = .ok (.invokestatic 173, 3) := by decide +kernel
theorem dX4_best_4 : decode cX4_best 4 = .ok (.ifCond .ne 10, 3) := by decide +kernel
theorem dX4_best_7 : decode cX4_best 7 = .ok (.aload_n 0, 1) := by decide +kernel
theorem dX4_best_8 : decode cX4_best 8 = .ok (.bipush (-2), 2) := by decide +kernel
theorem dX4_best_10 : decode cX4_best 10 = .ok (.invokevirtual 58, 3) := by decide +kernel
theorem dX4_best_13 : decode cX4_best 13 = .ok (.ireturn, 1) := by decide +kernel
theorem dX4_best_14 : decode cX4_best 14 = .ok (.aload_n 0, 1) := by decide +kernel
theorem dX4_best_15 : decode cX4_best 15 = .ok (.getfield 10, 3) := by decide +kernel
theorem dX4_best_18 : decode cX4_best 18 = .ok (.invokevirtual 144, 3) := by decide +kernel
theorem dX4_best_21 : decode cX4_best 21 = .ok (.lconst 0, 1) := by decide +kernel
theorem dX4_best_22 : decode cX4_best 22 = .ok (.lcmp, 1) := by decide +kernel
theorem dX4_best_23 : decode cX4_best 23 = .ok (.ifCond .ne 10, 3) := by decide +kernel
theorem dX4_best_26 : decode cX4_best 26 = .ok (.aload_n 0, 1) := by decide +kernel
theorem dX4_best_27 : decode cX4_best 27 = .ok (.bipush (-3), 2) := by decide +kernel
theorem dX4_best_29 : decode cX4_best 29 = .ok (.invokevirtual 58, 3) := by decide +kernel
theorem dX4_best_32 : decode cX4_best 32 = .ok (.ireturn, 1) := by decide +kernel
theorem dX4_best_33 : decode cX4_best 33 = .ok (.aload_n 0, 1) := by decide +kernel
theorem dX4_best_34 : decode cX4_best 34 = .ok (.getfield 36, 3) := by decide +kernel
theorem dX4_best_37 : decode cX4_best 37 = .ok (.aload_n 0, 1) := by decide +kernel
theorem dX4_best_38 : decode cX4_best 38 = .ok (.getfield 10, 3) := by decide +kernel
theorem dX4_best_41 : decode cX4_best 41 = .ok (.aload_n 0, 1) := by decide +kernel
theorem dX4_best_42 : decode cX4_best 42 = .ok (.getfield 10, 3) := by decide +kernel
theorem dX4_best_45 : decode cX4_best 45 = .ok (.getfield 99, 3) := by decide +kernel
theorem dX4_best_48 : decode cX4_best 48 = .ok (.invokevirtual 140, 3) := by decide +kernel
theorem dX4_best_51 : decode cX4_best 51 = .ok (.aload_n 0, 1) := by decide +kernel
theorem dX4_best_52 : decode cX4_best 52 = .ok (.getfield 36, 3) := by decide +kernel
theorem dX4_best_55 : decode cX4_best 55 = .ok (.iload_n 1, 1) := by decide +kernel
theorem dX4_best_56 : decode cX4_best 56 = .ok (.aload_n 0, 1) := by decide +kernel
theorem dX4_best_57 : decode cX4_best 57 = .ok (.getfield 10, 3) := by decide +kernel
theorem dX4_best_60 : decode cX4_best 60 = .ok (.aload_n 0, 1) := by decide +kernel
theorem dX4_best_61 : decode cX4_best 61 = .ok (.getfield 10, 3) := by decide +kernel
theorem dX4_best_64 : decode cX4_best 64 = .ok (.invokevirtual 144, 3) := by decide +kernel
theorem dX4_best_67 : decode cX4_best 67 = .ok (.invokevirtual 176, 3) := by decide +kernel
theorem dX4_best_70 : decode cX4_best 70 = .ok (.ireturn, 1) := by decide +kernel
set_option maxRecDepth 20000 in
theorem ggX4_bestOf_X4_isMeasure : GoodIn wsX4_bestOf wsX4_isMeasure := goodIn_r _ [7] (by decide +kernel) (by decide +kernel)
set_option maxRecDepth 20000 in
theorem gX4_bestOf_X4_isMeasure : GoodIn wsX4_bestOf (va_wsS RX4 173 yX4_isMeasure wsX4_isMeasure) := goodIn_app (goodIn_of _ (by decide +kernel)) ggX4_bestOf_X4_isMeasure
set_option maxRecDepth 20000 in
theorem ggX4_bestOf_X4_isPart : GoodIn wsX4_bestOf wsX4_isPart := goodIn_r _ [10] (by decide +kernel) (by decide +kernel)
set_option maxRecDepth 20000 in
theorem gX4_bestOf_X4_isPart : GoodIn wsX4_bestOf (va_wsS RX4 159 yX4_isPart wsX4_isPart) := goodIn_app (goodIn_of _ (by decide +kernel)) ggX4_bestOf_X4_isPart
set_option maxRecDepth 20000 in
theorem ggX4_bestOf_X4_refuseLong : GoodIn wsX4_bestOf wsX4_refuseLong := goodIn_r _ [14, 15, 16, 17, 18, 6, 19, 20, 130, 131, 132, 133, 134, 135, 136, 137, 138, 139] (by decide +kernel) (by decide +kernel)
set_option maxRecDepth 20000 in
theorem gX4_bestOf_X4_refuseLong : GoodIn wsX4_bestOf (wsV RX4 155 RX4 yX4_refuseLong wsX4_refuseLong) := goodIn_app (goodIn_of _ (by decide +kernel)) ggX4_bestOf_X4_refuseLong
set_option maxRecDepth 20000 in
theorem ggX4_bestOf_X0_left : GoodIn wsX4_bestOf wsX0_left := goodIn_r _ [25, 26, 140, 141, 142, 143, 144] (by decide +kernel) (by decide +kernel)
set_option maxRecDepth 20000 in
theorem gX4_bestOf_X0_left : GoodIn wsX4_bestOf (wsV RX4 144 RX0 yX0_left wsX0_left) := goodIn_app (goodIn_of _ (by decide +kernel)) ggX4_bestOf_X0_left
set_option maxRecDepth 20000 in
theorem ggX4_bestOf_X2_take : GoodIn wsX4_bestOf wsX2_take := goodIn_r _ [31, 32, 33, 34, 35, 36, 6, 37, 38, 39, 40, 30, 41, 42, 43, 44, 45, 46, 47, 48, 49, 50, 51, 52, 53, 54, 55, 56, 57, 58, 59, 60, 61, 62, 63, 64, 65, 66, 67, 68, 69, 70, 71, 72, 73, 74, 75, 76, 77, 145, 146, 147, 148, 149, 140, 141, 142, 143, 144, 150, 151] (by decide +kernel) (by decide +kernel)
set_option maxRecDepth 20000 in
theorem gX4_bestOf_X2_take : GoodIn wsX4_bestOf (wsV RX4 140 RX2 yX2_take wsX2_take) := goodIn_app (goodIn_of _ (by decide +kernel)) ggX4_bestOf_X2_take
set_option maxRecDepth 20000 in
theorem ggX4_bestOf_X2_bestBy : GoodIn wsX4_bestOf wsX2_bestBy := goodIn_r _ [81, 82, 83, 84, 30, 85, 86, 87, 88, 89, 90, 91, 92, 93, 42, 32, 94, 6, 95, 96, 97, 98, 24, 99, 26, 100, 101, 102, 103, 104, 105, 106, 107, 108, 109, 110, 111, 112, 113, 114, 115, 116, 117, 118, 119, 76, 52, 77, 145, 146, 147, 148, 149, 140, 141, 142, 143, 144] (by decide +kernel) (by decide +kernel)
set_option maxRecDepth 20000 in
theorem gX4_bestOf_X2_bestBy : GoodIn wsX4_bestOf (wsV RX4 176 RX2 yX2_bestBy wsX2_bestBy) := goodIn_app (goodIn_of _ (by decide +kernel)) ggX4_bestOf_X2_bestBy
set_option maxRecDepth 20000 in
theorem ggX4_bestOf_X2_meanOf : GoodIn wsX4_bestOf wsX2_meanOf := goodIn_r _ [89, 90, 91, 92, 30, 93, 42, 32, 94, 6, 95, 96, 97, 98, 24, 99, 26, 100, 101, 102, 103, 104, 105, 106, 107, 108, 109, 110, 145, 146, 147, 148, 149, 140, 141, 142, 143, 144] (by decide +kernel) (by decide +kernel)
set_option maxRecDepth 20000 in
theorem gX4_bestOf_X2_meanOf : GoodIn wsX4_bestOf (wsV RX4 162 RX2 yX2_meanOf wsX2_meanOf) := goodIn_app (goodIn_of _ (by decide +kernel)) ggX4_bestOf_X2_meanOf
set_option maxRecDepth 20000 in
theorem ggX4_bestOf_X0_weightOf : GoodIn wsX4_bestOf wsX0_weightOf := goodIn_r _ [99, 26, 100, 6, 101, 140, 141, 142, 143, 144] (by decide +kernel) (by decide +kernel)
set_option maxRecDepth 20000 in
theorem gX4_bestOf_X0_weightOf : GoodIn wsX4_bestOf (wsV RX4 166 RX0 yX0_weightOf wsX0_weightOf) := goodIn_app (goodIn_of _ (by decide +kernel)) ggX4_bestOf_X0_weightOf
set_option maxRecDepth 20000 in
theorem ggX4_bestOf_X4_fraction : GoodIn wsX4_bestOf wsX4_fraction := goodIn_r _ [124, 125, 126, 6, 127] (by decide +kernel) (by decide +kernel)
set_option maxRecDepth 20000 in
theorem gX4_bestOf_X4_fraction : GoodIn wsX4_bestOf (va_wsS RX4 169 yX4_fraction wsX4_fraction) := goodIn_app (goodIn_of _ (by decide +kernel)) ggX4_bestOf_X4_fraction
set_option maxRecDepth 20000 in
theorem ggX4_bestOf_X2_partsOf : GoodIn wsX4_bestOf wsX2_partsOf := goodIn_r _ [114, 90, 91, 92, 30, 93, 42, 32, 94, 6, 95, 145, 146, 147, 148, 149] (by decide +kernel) (by decide +kernel)
set_option maxRecDepth 20000 in
theorem gX4_bestOf_X2_partsOf : GoodIn wsX4_bestOf (wsV RX4 148 RX2 yX2_partsOf wsX2_partsOf) := goodIn_app (goodIn_of _ (by decide +kernel)) ggX4_bestOf_X2_partsOf
set_option maxRecDepth 20000 in
theorem ggX4_bestOf_X2_worstOf : GoodIn wsX4_bestOf wsX2_worstOf := goodIn_r _ [118, 119, 76, 52, 77, 90, 91, 92, 30, 93, 42, 32, 94, 6, 95, 102, 103, 104, 105, 106, 107, 108, 109, 110, 145, 146, 147, 148, 149] (by decide +kernel) (by decide +kernel)
set_option maxRecDepth 20000 in
theorem gX4_bestOf_X2_worstOf : GoodIn wsX4_bestOf (wsV RX4 152 RX2 yX2_worstOf wsX2_worstOf) := goodIn_app (goodIn_of _ (by decide +kernel)) ggX4_bestOf_X2_worstOf
theorem dX4_bestOf_0 : decode cX4_bestOf 0 = .ok (.iload_n 1, 1) := by decide +kernel
theorem dX4_bestOf_1 : decode cX4_bestOf 1 = .ok (.invokestatic 173, 3) := by decide +kernel
theorem dX4_bestOf_4 : decode cX4_bestOf 4 = .ok (.ifCond .eq 10, 3) := by decide +kernel
theorem dX4_bestOf_7 : decode cX4_bestOf 7 = .ok (.iload_n 2, 1) := by decide +kernel
theorem dX4_bestOf_8 : decode cX4_bestOf 8 = .ok (.invokestatic 159, 3) := by decide +kernel
theorem dX4_bestOf_11 : decode cX4_bestOf 11 = .ok (.ifCond .ne 10, 3) := by decide +kernel
theorem dX4_bestOf_14 : decode cX4_bestOf 14 = .ok (.aload_n 0, 1) := by decide +kernel
theorem dX4_bestOf_15 : decode cX4_bestOf 15 = .ok (.bipush (-2), 2) := by decide +kernel
theorem dX4_bestOf_17 : decode cX4_bestOf 17 = .ok (.invokevirtual 155, 3) := by decide +kernel
theorem dX4_bestOf_20 : decode cX4_bestOf 20 = .ok (.lreturn, 1) := by decide +kernel
theorem dX4_bestOf_21 : decode cX4_bestOf 21 = .ok (.aload_n 0, 1) := by decide +kernel
theorem dX4_bestOf_22 : decode cX4_bestOf 22 = .ok (.getfield 10, 3) := by decide +kernel
theorem dX4_bestOf_25 : decode cX4_bestOf 25 = .ok (.invokevirtual 144, 3) := by decide +kernel
theorem dX4_bestOf_28 : decode cX4_bestOf 28 = .ok (.lstore_n 3, 1) := by decide +kernel
theorem dX4_bestOf_29 : decode cX4_bestOf 29 = .ok (.lload_n 3, 1) := by decide +kernel
theorem dX4_bestOf_30 : decode cX4_bestOf 30 = .ok (.lconst 0, 1) := by decide +kernel
theorem dX4_bestOf_31 : decode cX4_bestOf 31 = .ok (.lcmp, 1) := by decide +kernel
theorem dX4_bestOf_32 : decode cX4_bestOf 32 = .ok (.ifCond .ne 10, 3) := by decide +kernel
theorem dX4_bestOf_35 : decode cX4_bestOf 35 = .ok (.aload_n 0, 1) := by decide +kernel
theorem dX4_bestOf_36 : decode cX4_bestOf 36 = .ok (.bipush (-3), 2) := by decide +kernel
theorem dX4_bestOf_38 : decode cX4_bestOf 38 = .ok (.invokevirtual 155, 3) := by decide +kernel
theorem dX4_bestOf_41 : decode cX4_bestOf 41 = .ok (.lreturn, 1) := by decide +kernel
theorem dX4_bestOf_42 : decode cX4_bestOf 42 = .ok (.aload_n 0, 1) := by decide +kernel
theorem dX4_bestOf_43 : decode cX4_bestOf 43 = .ok (.getfield 36, 3) := by decide +kernel
theorem dX4_bestOf_46 : decode cX4_bestOf 46 = .ok (.aload_n 0, 1) := by decide +kernel
theorem dX4_bestOf_47 : decode cX4_bestOf 47 = .ok (.getfield 10, 3) := by decide +kernel
theorem dX4_bestOf_50 : decode cX4_bestOf 50 = .ok (.aload_n 0, 1) := by decide +kernel
theorem dX4_bestOf_51 : decode cX4_bestOf 51 = .ok (.getfield 10, 3) := by decide +kernel
theorem dX4_bestOf_54 : decode cX4_bestOf 54 = .ok (.getfield 99, 3) := by decide +kernel
theorem dX4_bestOf_57 : decode cX4_bestOf 57 = .ok (.invokevirtual 140, 3) := by decide +kernel
theorem dX4_bestOf_60 : decode cX4_bestOf 60 = .ok (.aload_n 0, 1) := by decide +kernel
theorem dX4_bestOf_61 : decode cX4_bestOf 61 = .ok (.getfield 36, 3) := by decide +kernel
theorem dX4_bestOf_64 : decode cX4_bestOf 64 = .ok (.iload_n 1, 1) := by decide +kernel
theorem dX4_bestOf_65 : decode cX4_bestOf 65 = .ok (.aload_n 0, 1) := by decide +kernel
theorem dX4_bestOf_66 : decode cX4_bestOf 66 = .ok (.getfield 10, 3) := by decide +kernel
theorem dX4_bestOf_69 : decode cX4_bestOf 69 = .ok (.lload_n 3, 1) := by decide +kernel
theorem dX4_bestOf_70 : decode cX4_bestOf 70 = .ok (.invokevirtual 176, 3) := by decide +kernel
theorem dX4_bestOf_73 : decode cX4_bestOf 73 = .ok (.istore 5, 2) := by decide +kernel
theorem dX4_bestOf_75 : decode cX4_bestOf 75 = .ok (.iload_n 1, 1) := by decide +kernel
theorem dX4_bestOf_76 : decode cX4_bestOf 76 = .ok (.iconst 1, 1) := by decide +kernel
theorem dX4_bestOf_77 : decode cX4_bestOf 77 = .ok (.if_icmp .ne 31, 3) := by decide +kernel
theorem dX4_bestOf_80 : decode cX4_bestOf 80 = .ok (.aload_n 0, 1) := by decide +kernel
theorem dX4_bestOf_81 : decode cX4_bestOf 81 = .ok (.getfield 36, 3) := by decide +kernel
theorem dX4_bestOf_84 : decode cX4_bestOf 84 = .ok (.iload 5, 2) := by decide +kernel
theorem dX4_bestOf_86 : decode cX4_bestOf 86 = .ok (.aload_n 0, 1) := by decide +kernel
theorem dX4_bestOf_87 : decode cX4_bestOf 87 = .ok (.getfield 10, 3) := by decide +kernel
theorem dX4_bestOf_90 : decode cX4_bestOf 90 = .ok (.lload_n 3, 1) := by decide +kernel
theorem dX4_bestOf_91 : decode cX4_bestOf 91 = .ok (.invokevirtual 162, 3) := by decide +kernel
theorem dX4_bestOf_94 : decode cX4_bestOf 94 = .ok (.aload_n 0, 1) := by decide +kernel
theorem dX4_bestOf_95 : decode cX4_bestOf 95 = .ok (.getfield 10, 3) := by decide +kernel
theorem dX4_bestOf_98 : decode cX4_bestOf 98 = .ok (.lload_n 3, 1) := by decide +kernel
theorem dX4_bestOf_99 : decode cX4_bestOf 99 = .ok (.invokevirtual 166, 3) := by decide +kernel
theorem dX4_bestOf_102 : decode cX4_bestOf 102 = .ok (.i2l, 1) := by decide +kernel
theorem dX4_bestOf_103 : decode cX4_bestOf 103 = .ok (.iload_n 2, 1) := by decide +kernel
theorem dX4_bestOf_104 : decode cX4_bestOf 104 = .ok (.invokestatic 169, 3) := by decide +kernel
theorem dX4_bestOf_107 : decode cX4_bestOf 107 = .ok (.lreturn, 1) := by decide +kernel
theorem dX4_bestOf_108 : decode cX4_bestOf 108 = .ok (.iload_n 1, 1) := by decide +kernel
theorem dX4_bestOf_109 : decode cX4_bestOf 109 = .ok (.iconst 2, 1) := by decide +kernel
theorem dX4_bestOf_110 : decode cX4_bestOf 110 = .ok (.if_icmp .ne 17, 3) := by decide +kernel
theorem dX4_bestOf_113 : decode cX4_bestOf 113 = .ok (.aload_n 0, 1) := by decide +kernel
theorem dX4_bestOf_114 : decode cX4_bestOf 114 = .ok (.getfield 36, 3) := by decide +kernel
theorem dX4_bestOf_117 : decode cX4_bestOf 117 = .ok (.iload 5, 2) := by decide +kernel
theorem dX4_bestOf_119 : decode cX4_bestOf 119 = .ok (.lload_n 3, 1) := by decide +kernel
theorem dX4_bestOf_120 : decode cX4_bestOf 120 = .ok (.invokevirtual 148, 3) := by decide +kernel
theorem dX4_bestOf_123 : decode cX4_bestOf 123 = .ok (.i2l, 1) := by decide +kernel
theorem dX4_bestOf_124 : decode cX4_bestOf 124 = .ok (.goto 14, 3) := by decide +kernel
theorem dX4_bestOf_127 : decode cX4_bestOf 127 = .ok (.aload_n 0, 1) := by decide +kernel
theorem dX4_bestOf_128 : decode cX4_bestOf 128 = .ok (.getfield 36, 3) := by decide +kernel
theorem dX4_bestOf_131 : decode cX4_bestOf 131 = .ok (.iload 5, 2) := by decide +kernel
theorem dX4_bestOf_133 : decode cX4_bestOf 133 = .ok (.lload_n 3, 1) := by decide +kernel
theorem dX4_bestOf_134 : decode cX4_bestOf 134 = .ok (.invokevirtual 152, 3) := by decide +kernel
theorem dX4_bestOf_137 : decode cX4_bestOf 137 = .ok (.i2l, 1) := by decide +kernel
theorem dX4_bestOf_138 : decode cX4_bestOf 138 = .ok (.lconst 1, 1) := by decide +kernel
theorem dX4_bestOf_139 : decode cX4_bestOf 139 = .ok (.iload_n 2, 1) := by decide +kernel
theorem dX4_bestOf_140 : decode cX4_bestOf 140 = .ok (.invokestatic 169, 3) := by decide +kernel
theorem dX4_bestOf_143 : decode cX4_bestOf 143 = .ok (.lreturn, 1) := by decide +kernel
set_option maxRecDepth 20000 in
theorem ggX4_bestKind_X0_left : GoodIn wsX4_bestKind wsX0_left := goodIn_r _ [7, 8, 119, 120, 121, 122, 123] (by decide +kernel) (by decide +kernel)
set_option maxRecDepth 20000 in
theorem gX4_bestKind_X0_left : GoodIn wsX4_bestKind (wsV RX4 144 RX0 yX0_left wsX0_left) := goodIn_app (goodIn_of _ (by decide +kernel)) ggX4_bestKind_X0_left
set_option maxRecDepth 20000 in
theorem ggX4_bestKind_X4_refuse : GoodIn wsX4_bestKind wsX4_refuse := goodIn_r _ [13, 14, 109, 110, 111, 112, 113, 114, 115, 116, 117, 118] (by decide +kernel) (by decide +kernel)
set_option maxRecDepth 20000 in
theorem gX4_bestKind_X4_refuse : GoodIn wsX4_bestKind (wsV RX4 58 RX4 yX4_refuse wsX4_refuse) := goodIn_app (goodIn_of _ (by decide +kernel)) ggX4_bestKind_X4_refuse
set_option maxRecDepth 20000 in
theorem ggX4_bestKind_X2_take : GoodIn wsX4_bestKind wsX2_take := goodIn_r _ [19, 20, 21, 22, 23, 24, 12, 25, 26, 27, 28, 18, 29, 30, 31, 32, 33, 34, 35, 36, 37, 38, 39, 40, 41, 42, 43, 44, 45, 46, 47, 48, 49, 50, 51, 52, 53, 54, 55, 56, 57, 58, 59, 60, 61, 62, 63, 64, 65, 124, 125, 126, 127, 128, 119, 120, 121, 122, 123, 129, 130] (by decide +kernel) (by decide +kernel)
set_option maxRecDepth 20000 in
theorem gX4_bestKind_X2_take : GoodIn wsX4_bestKind (wsV RX4 140 RX2 yX2_take wsX2_take) := goodIn_app (goodIn_of _ (by decide +kernel)) ggX4_bestKind_X2_take
set_option maxRecDepth 20000 in
theorem ggX4_bestKind_X2_bestBy : GoodIn wsX4_bestKind wsX2_bestBy := goodIn_r _ [69, 70, 71, 72, 18, 73, 74, 75, 76, 77, 78, 79, 80, 81, 30, 20, 82, 12, 83, 84, 85, 86, 6, 87, 8, 88, 89, 90, 91, 92, 93, 94, 95, 96, 97, 98, 99, 100, 101, 102, 103, 104, 105, 106, 107, 64, 40, 65, 124, 125, 126, 127, 128, 119, 120, 121, 122, 123] (by decide +kernel) (by decide +kernel)
set_option maxRecDepth 20000 in
theorem gX4_bestKind_X2_bestBy : GoodIn wsX4_bestKind (wsV RX4 176 RX2 yX2_bestBy wsX2_bestBy) := goodIn_app (goodIn_of _ (by decide +kernel)) ggX4_bestKind_X2_bestBy
set_option maxRecDepth 20000 in
theorem ggX4_bestKind_X2_worstOf : GoodIn wsX4_bestKind wsX2_worstOf := goodIn_r _ [106, 107, 64, 40, 65, 78, 79, 80, 18, 81, 30, 20, 82, 12, 83, 90, 91, 92, 93, 94, 95, 96, 97, 98, 124, 125, 126, 127, 128] (by decide +kernel) (by decide +kernel)
set_option maxRecDepth 20000 in
theorem gX4_bestKind_X2_worstOf : GoodIn wsX4_bestKind (wsV RX4 152 RX2 yX2_worstOf wsX2_worstOf) := goodIn_app (goodIn_of _ (by decide +kernel)) ggX4_bestKind_X2_worstOf
theorem dX4_bestKind_0 : decode cX4_bestKind 0 = .ok (.aload_n 0, 1) := by decide +kernel
theorem dX4_bestKind_1 : decode cX4_bestKind 1 = .ok (.getfield 10, 3) := by decide +kernel
theorem dX4_bestKind_4 : decode cX4_bestKind 4 = .ok (.invokevirtual 144, 3) := by decide +kernel
theorem dX4_bestKind_7 : decode cX4_bestKind 7 = .ok (.lstore_n 1, 1) := by decide +kernel
theorem dX4_bestKind_8 : decode cX4_bestKind 8 = .ok (.lload_n 1, 1) := by decide +kernel
theorem dX4_bestKind_9 : decode cX4_bestKind 9 = .ok (.lconst 0, 1) := by decide +kernel
theorem dX4_bestKind_10 : decode cX4_bestKind 10 = .ok (.lcmp, 1) := by decide +kernel
theorem dX4_bestKind_11 : decode cX4_bestKind 11 = .ok (.ifCond .ne 10, 3) := by decide +kernel
theorem dX4_bestKind_14 : decode cX4_bestKind 14 = .ok (.aload_n 0, 1) := by decide +kernel
theorem dX4_bestKind_15 : decode cX4_bestKind 15 = .ok (.bipush (-3), 2) := by decide +kernel
theorem dX4_bestKind_17 : decode cX4_bestKind 17 = .ok (.invokevirtual 58, 3) := by decide +kernel
theorem dX4_bestKind_20 : decode cX4_bestKind 20 = .ok (.ireturn, 1) := by decide +kernel
theorem dX4_bestKind_21 : decode cX4_bestKind 21 = .ok (.iconst 0, 1) := by decide +kernel
theorem dX4_bestKind_22 : decode cX4_bestKind 22 = .ok (.istore_n 3, 1) := by decide +kernel
theorem dX4_bestKind_23 : decode cX4_bestKind 23 = .ok (.bipush 41, 2) := by decide +kernel
theorem dX4_bestKind_25 : decode cX4_bestKind 25 = .ok (.istore 4, 2) := by decide +kernel
theorem dX4_bestKind_27 : decode cX4_bestKind 27 = .ok (.iconst 0, 1) := by decide +kernel
theorem dX4_bestKind_28 : decode cX4_bestKind 28 = .ok (.istore 5, 2) := by decide +kernel
theorem dX4_bestKind_30 : decode cX4_bestKind 30 = .ok (.iload 5, 2) := by decide +kernel
theorem dX4_bestKind_32 : decode cX4_bestKind 32 = .ok (.iconst 4, 1) := by decide +kernel
theorem dX4_bestKind_33 : decode cX4_bestKind 33 = .ok (.if_icmp .ge 59, 3) := by decide +kernel
theorem dX4_bestKind_36 : decode cX4_bestKind 36 = .ok (.aload_n 0, 1) := by decide +kernel

theorem dX9_mark_55 : decode cX9_mark 55 = .ok (.iload_n 2, 1) := by decide +kernel
theorem dX9_mark_56 : decode cX9_mark 56 = .ok (.iload_n 3, 1) := by decide +kernel
theorem dX9_mark_57 : decode cX9_mark 57 = .ok (.invokevirtual 114, 3) := by decide +kernel
theorem dX9_mark_60 : decode cX9_mark 60 = .ok (.ifCond .eq 7, 3) := by decide +kernel
theorem dX9_mark_63 : decode cX9_mark 63 = .ok (.iconst 1, 1) := by decide +kernel
theorem dX9_mark_64 : decode cX9_mark 64 = .ok (.goto 4, 3) := by decide +kernel
theorem dX9_mark_67 : decode cX9_mark 67 = .ok (.iconst 0, 1) := by decide +kernel
theorem dX9_mark_68 : decode cX9_mark 68 = .ok (.ireturn, 1) := by decide +kernel
theorem dX9_mark_69 : decode cX9_mark 69 = .ok (.bipush (-4), 2) := by decide +kernel
theorem dX9_mark_71 : decode cX9_mark 71 = .ok (.ireturn, 1) := by decide +kernel
set_option maxRecDepth 20000 in
theorem ggX9_told_X9_jobOf : GoodIn wsX9_told wsX9_jobOf := goodIn_r _ [6, 7, 8, 66, 67, 68, 69, 70, 71, 72, 73, 74] (by decide +kernel) (by decide +kernel)
set_option maxRecDepth 20000 in
theorem gX9_told_X9_jobOf : GoodIn wsX9_told (wsV RX9 61 RX9 yX9_jobOf wsX9_jobOf) := goodIn_app (goodIn_of _ (by decide +kernel)) ggX9_told_X9_jobOf
set_option maxRecDepth 20000 in
theorem ggX9_told_X9_isWay : GoodIn wsX9_told wsX9_isWay := goodIn_r _ [11] (by decide +kernel) (by decide +kernel)
set_option maxRecDepth 20000 in
theorem gX9_told_X9_isWay : GoodIn wsX9_told (va_wsS RX9 76 yX9_isWay wsX9_isWay) := goodIn_app (goodIn_of _ (by decide +kernel)) ggX9_told_X9_isWay
set_option maxRecDepth 20000 in
theorem ggX9_told_X0_lineCount : GoodIn wsX9_told wsX0_lineCount := goodIn_r _ [16, 17, 18, 75, 76, 77, 78, 79, 80, 81, 82] (by decide +kernel) (by decide +kernel)
set_option maxRecDepth 20000 in
theorem gX9_told_X0_lineCount : GoodIn wsX9_told (wsV RX9 117 RX0 yX0_lineCount wsX0_lineCount) := goodIn_app (goodIn_of _ (by decide +kernel)) ggX9_told_X0_lineCount
set_option maxRecDepth 20000 in
theorem ggX9_told_X0_isLine : GoodIn wsX9_told wsX0_isLine := goodIn_r _ [22, 23, 13, 14, 15, 16, 17, 18, 75, 76, 77, 78, 79, 80, 81, 82] (by decide +kernel) (by decide +kernel)
set_option maxRecDepth 20000 in
theorem gX9_told_X0_isLine : GoodIn wsX9_told (wsV RX9 68 RX0 yX0_isLine wsX0_isLine) := goodIn_app (goodIn_of _ (by decide +kernel)) ggX9_told_X0_isLine
set_option maxRecDepth 20000 in
theorem ggX9_told_X3_isTold : GoodIn wsX9_told wsX3_isTold := goodIn_r _ [29, 30, 45, 46, 47, 48, 49, 50, 51, 52, 53, 54, 55, 56, 57, 58, 59, 60, 61, 62, 63, 64, 65] (by decide +kernel) (by decide +kernel)
set_option maxRecDepth 20000 in
theorem gX9_told_X3_isTold_u94X1 : GoodIn wsX9_told (va_wsU RX9 94 RX1 "ShadowBench$Job" ⟨"ShadowBench$Job", "isTold", "(I)Z"⟩ yX3_isTold wsX3_isTold) := goodIn_app (goodIn_of _ (by decide +kernel)) ggX9_told_X3_isTold
set_option maxRecDepth 20000 in
theorem gX9_told_X3_isTold : GoodIn wsX9_told (wsV RX9 94 RX3 yX3_isTold wsX3_isTold) := goodIn_app (goodIn_of _ (by decide +kernel)) ggX9_told_X3_isTold
set_option maxRecDepth 20000 in
theorem gX9_told_X3_isTold_u94X4 : GoodIn wsX9_told (va_wsU RX9 94 RX4 "ShadowBench$Job" ⟨"ShadowBench$Job", "isTold", "(I)Z"⟩ yX3_isTold wsX3_isTold) := goodIn_app (goodIn_of _ (by decide +kernel)) ggX9_told_X3_isTold
set_option maxRecDepth 20000 in
theorem gX9_told_X3_isTold_u94X5 : GoodIn wsX9_told (va_wsU RX9 94 RX5 "ShadowBench$Job" ⟨"ShadowBench$Job", "isTold", "(I)Z"⟩ yX3_isTold wsX3_isTold) := goodIn_app (goodIn_of _ (by decide +kernel)) ggX9_told_X3_isTold
set_option maxRecDepth 20000 in
theorem ggX9_told_X3_sumOf : GoodIn wsX9_told wsX3_sumOf := goodIn_r _ [39, 40, 45, 46, 47, 48, 49, 50, 51, 52, 53, 54, 55, 56, 57, 58, 59, 60, 61, 62, 63, 64, 65] (by decide +kernel) (by decide +kernel)
set_option maxRecDepth 20000 in
theorem gX9_told_X3_sumOf_u120X1 : GoodIn wsX9_told (va_wsU RX9 120 RX1 "ShadowBench$Job" ⟨"ShadowBench$Job", "sumOf", "(II)I"⟩ yX3_sumOf wsX3_sumOf) := goodIn_app (goodIn_of _ (by decide +kernel)) ggX9_told_X3_sumOf
set_option maxRecDepth 20000 in
theorem gX9_told_X3_sumOf : GoodIn wsX9_told (wsV RX9 120 RX3 yX3_sumOf wsX3_sumOf) := goodIn_app (goodIn_of _ (by decide +kernel)) ggX9_told_X3_sumOf
set_option maxRecDepth 20000 in
theorem gX9_told_X3_sumOf_u120X4 : GoodIn wsX9_told (va_wsU RX9 120 RX4 "ShadowBench$Job" ⟨"ShadowBench$Job", "sumOf", "(II)I"⟩ yX3_sumOf wsX3_sumOf) := goodIn_app (goodIn_of _ (by decide +kernel)) ggX9_told_X3_sumOf
set_option maxRecDepth 20000 in
theorem gX9_told_X3_sumOf_u120X5 : GoodIn wsX9_told (va_wsU RX9 120 RX5 "ShadowBench$Job" ⟨"ShadowBench$Job", "sumOf", "(II)I"⟩ yX3_sumOf wsX3_sumOf) := goodIn_app (goodIn_of _ (by decide +kernel)) ggX9_told_X3_sumOf
theorem dX9_told_0 : decode cX9_told 0 = .ok (.aload_n 0, 1) := by decide +kernel
theorem dX9_told_1 : decode cX9_told 1 = .ok (.iload_n 1, 1) := by decide +kernel
theorem dX9_told_2 : decode cX9_told 2 = .ok (.invokevirtual 61, 3) := by decide +kernel
theorem dX9_told_5 : decode cX9_told 5 = .ok (.astore 4, 2) := by decide +kernel
theorem dX9_told_7 : decode cX9_told 7 = .ok (.aload 4, 2) := by decide +kernel
theorem dX9_told_9 : decode cX9_told 9 = .ok (.ifnull 10, 3) := by decide +kernel
theorem dX9_told_12 : decode cX9_told 12 = .ok (.iload_n 2, 1) := by decide +kernel
theorem dX9_told_13 : decode cX9_told 13 = .ok (.invokestatic 76, 3) := by decide +kernel
theorem dX9_told_16 : decode cX9_told 16 = .ok (.ifCond .ne 5, 3) := by decide +kernel
theorem dX9_told_19 : decode cX9_told 19 = .ok (.iconst (-1), 1) := by decide +kernel
theorem dX9_told_20 : decode cX9_told 20 = .ok (.ireturn, 1) := by decide +kernel
theorem dX9_told_21 : decode cX9_told 21 = .ok (.iload_n 3, 1) := by decide +kernel
theorem dX9_told_22 : decode cX9_told 22 = .ok (.iconst (-1), 1) := by decide +kernel
theorem dX9_told_23 : decode cX9_told 23 = .ok (.if_icmp .ne 13, 3) := by decide +kernel
theorem dX9_told_26 : decode cX9_told 26 = .ok (.aload 4, 2) := by decide +kernel
theorem dX9_told_28 : decode cX9_told 28 = .ok (.getfield 65, 3) := by decide +kernel
theorem dX9_told_31 : decode cX9_told 31 = .ok (.iload_n 2, 1) := by decide +kernel
theorem dX9_told_32 : decode cX9_told 32 = .ok (.invokevirtual 117, 3) := by decide +kernel
theorem dX9_told_35 : decode cX9_told 35 = .ok (.ireturn, 1) := by decide +kernel
theorem dX9_told_36 : decode cX9_told 36 = .ok (.aload 4, 2) := by decide +kernel
theorem dX9_told_38 : decode cX9_told 38 = .ok (.getfield 65, 3) := by decide +kernel
theorem dX9_told_41 : decode cX9_told 41 = .ok (.iload_n 2, 1) := by decide +kernel
theorem dX9_told_42 : decode cX9_told 42 = .ok (.iload_n 3, 1) := by decide +kernel
theorem dX9_told_43 : decode cX9_told 43 = .ok (.invokevirtual 68, 3) := by decide +kernel
theorem dX9_told_46 : decode cX9_told 46 = .ok (.ifCond .ne 5, 3) := by decide +kernel
theorem dX9_told_49 : decode cX9_told 49 = .ok (.iconst (-1), 1) := by decide +kernel
theorem dX9_told_50 : decode cX9_told 50 = .ok (.ireturn, 1) := by decide +kernel
theorem dX9_told_51 : decode cX9_told 51 = .ok (.aload 4, 2) := by decide +kernel
theorem dX9_told_53 : decode cX9_told 53 = .ok (.iload_n 2, 1) := by decide +kernel
theorem dX9_told_54 : decode cX9_told 54 = .ok (.invokevirtual 94, 3) := by decide +kernel
theorem dX9_told_57 : decode cX9_told 57 = .ok (.ifCond .eq 13, 3) := by decide +kernel
theorem dX9_told_60 : decode cX9_told 60 = .ok (.aload 4, 2) := by decide +kernel
theorem dX9_told_62 : decode cX9_told 62 = .ok (.iload_n 2, 1) := by decide +kernel
theorem dX9_told_63 : decode cX9_told 63 = .ok (.iload_n 3, 1) := by decide +kernel
theorem dX9_told_64 : decode cX9_told 64 = .ok (.invokevirtual 120, 3) := by decide +kernel
theorem dX9_told_67 : decode cX9_told 67 = .ok (.goto 5, 3) := by decide +kernel
theorem dX9_told_70 : decode cX9_told 70 = .ok (.bipush (-2), 2) := by decide +kernel
theorem dX9_told_72 : decode cX9_told 72 = .ok (.ireturn, 1) := by decide +kernel
set_option maxRecDepth 20000 in
theorem ggX9_shadow_X9_boardOf : GoodIn wsX9_shadow wsX9_boardOf := goodIn_r _ [5, 6, 7, 8, 9, 10, 11, 12, 13, 14, 15, 16, 17, 18, 19, 20, 21, 22, 23, 24, 25, 26, 27, 28, 29, 30, 31, 32, 33, 34, 35, 36, 37, 38, 39, 40, 41, 42, 43, 44, 45, 46, 47, 71, 72, 73, 74, 75, 76, 77, 78, 79, 80, 81, 82, 83, 84, 85, 86, 87] (by decide +kernel) (by decide +kernel)
set_option maxRecDepth 20000 in
theorem gX9_shadow_X9_boardOf : GoodIn wsX9_shadow (wsV RX9 53 RX9 yX9_boardOf wsX9_boardOf) := goodIn_app (goodIn_of _ (by decide +kernel)) ggX9_shadow_X9_boardOf
set_option maxRecDepth 20000 in
theorem ggX9_shadow_X0_isPicture : GoodIn wsX9_shadow wsX0_isPicture := goodIn_r _ [51, 20, 80, 81, 82, 83, 84, 85, 86, 87] (by decide +kernel) (by decide +kernel)
set_option maxRecDepth 20000 in
theorem gX9_shadow_X0_isPicture : GoodIn wsX9_shadow (wsV RX9 80 RX0 yX0_isPicture wsX0_isPicture) := goodIn_app (goodIn_of _ (by decide +kernel)) ggX9_shadow_X0_isPicture
set_option maxRecDepth 20000 in
theorem ggX9_shadow_X0_isLine : GoodIn wsX9_shadow wsX0_isLine := goodIn_r _ [55, 56, 57, 58, 9, 59, 19, 18, 80, 81, 82, 83, 84, 85, 86, 87] (by decide +kernel) (by decide +kernel)
set_option maxRecDepth 20000 in
theorem gX9_shadow_X0_isLine : GoodIn wsX9_shadow (wsV RX9 68 RX0 yX0_isLine wsX0_isLine) := goodIn_app (goodIn_of _ (by decide +kernel)) ggX9_shadow_X0_isLine
set_option maxRecDepth 20000 in
theorem ggX9_shadow_X0_onesOfLine : GoodIn wsX9_shadow wsX0_onesOfLine := goodIn_r _ [63, 17, 64, 65, 66, 67, 68, 69, 70, 80, 81, 82, 83, 84, 85, 86, 87] (by decide +kernel) (by decide +kernel)
set_option maxRecDepth 20000 in
theorem gX9_shadow_X0_onesOfLine : GoodIn wsX9_shadow (wsV RX9 124 RX0 yX0_onesOfLine wsX0_onesOfLine) := goodIn_app (goodIn_of _ (by decide +kernel)) ggX9_shadow_X0_onesOfLine
theorem dX9_shadow_0 : decode cX9_shadow 0 = .ok (.aload_n 0, 1) := by decide +kernel
theorem dX9_shadow_1 : decode cX9_shadow 1 = .ok (.iload_n 1, 1) := by decide +kernel
theorem dX9_shadow_2 : decode cX9_shadow 2 = .ok (.iload_n 2, 1) := by decide +kernel
theorem dX9_shadow_3 : decode cX9_shadow 3 = .ok (.invokevirtual 53, 3) := by decide +kernel
theorem dX9_shadow_6 : decode cX9_shadow 6 = .ok (.astore 7, 2) := by decide +kernel
theorem dX9_shadow_8 : decode cX9_shadow 8 = .ok (.aload 7, 2) := by decide +kernel
theorem dX9_shadow_10 : decode cX9_shadow 10 = .ok (.ifnull 24, 3) := by decide +kernel
theorem dX9_shadow_13 : decode cX9_shadow 13 = .ok (.aload 7, 2) := by decide +kernel
theorem dX9_shadow_15 : decode cX9_shadow 15 = .ok (.lload_n 3, 1) := by decide +kernel
theorem dX9_shadow_16 : decode cX9_shadow 16 = .ok (.invokevirtual 80, 3) := by decide +kernel
theorem dX9_shadow_19 : decode cX9_shadow 19 = .ok (.ifCond .eq 15, 3) := by decide +kernel
theorem dX9_shadow_22 : decode cX9_shadow 22 = .ok (.aload 7, 2) := by decide +kernel
theorem dX9_shadow_24 : decode cX9_shadow 24 = .ok (.iload 5, 2) := by decide +kernel
theorem dX9_shadow_26 : decode cX9_shadow 26 = .ok (.iload 6, 2) := by decide +kernel
theorem dX9_shadow_28 : decode cX9_shadow 28 = .ok (.invokevirtual 68, 3) := by decide +kernel
theorem dX9_shadow_31 : decode cX9_shadow 31 = .ok (.ifCond .ne 5, 3) := by decide +kernel
theorem dX9_shadow_34 : decode cX9_shadow 34 = .ok (.iconst (-1), 1) := by decide +kernel
theorem dX9_shadow_35 : decode cX9_shadow 35 = .ok (.ireturn, 1) := by decide +kernel
theorem dX9_shadow_36 : decode cX9_shadow 36 = .ok (.aload 7, 2) := by decide +kernel
theorem dX9_shadow_38 : decode cX9_shadow 38 = .ok (.iload 5, 2) := by decide +kernel
theorem dX9_shadow_40 : decode cX9_shadow 40 = .ok (.iload 6, 2) := by decide +kernel
theorem dX9_shadow_42 : decode cX9_shadow 42 = .ok (.lload_n 3, 1) := by decide +kernel
theorem dX9_shadow_43 : decode cX9_shadow 43 = .ok (.invokevirtual 124, 3) := by decide +kernel
theorem dX9_shadow_46 : decode cX9_shadow 46 = .ok (.ireturn, 1) := by decide +kernel
set_option maxRecDepth 20000 in
theorem ggX9_fits_X9_jobOf : GoodIn wsX9_fits wsX9_jobOf := goodIn_r _ [6, 7, 8, 138, 139, 140, 141, 142, 143, 144, 145, 146] (by decide +kernel) (by decide +kernel)
set_option maxRecDepth 20000 in
theorem gX9_fits_X9_jobOf : GoodIn wsX9_fits (wsV RX9 61 RX9 yX9_jobOf wsX9_jobOf) := goodIn_app (goodIn_of _ (by decide +kernel)) ggX9_fits_X9_jobOf
set_option maxRecDepth 20000 in
theorem ggX9_fits_X0_isPicture : GoodIn wsX9_fits wsX0_isPicture := goodIn_r _ [13, 14, 147, 148, 149, 150, 151, 152, 153, 154] (by decide +kernel) (by decide +kernel)
set_option maxRecDepth 20000 in
theorem gX9_fits_X0_isPicture : GoodIn wsX9_fits (wsV RX9 80 RX0 yX0_isPicture wsX0_isPicture) := goodIn_app (goodIn_of _ (by decide +kernel)) ggX9_fits_X0_isPicture
set_option maxRecDepth 20000 in
theorem ggX9_fits_X3_admits : GoodIn wsX9_fits wsX3_admits := goodIn_r _ [20, 21, 22, 23, 24, 25, 26, 27, 19, 28, 29, 30, 31, 32, 33, 34, 35, 36, 37, 38, 39, 40, 41, 42, 12, 43, 44, 45, 46, 47, 48, 49, 50, 51, 52, 53, 54, 55, 56, 57, 58, 59, 60, 61, 62, 63, 64, 65, 66, 67, 68, 69, 70, 71, 72, 73, 74, 75, 76, 77, 78, 79, 80, 81, 82, 83, 84, 85, 86, 87, 88, 89, 90, 91, 92, 14, 93, 94, 95, 96, 97, 98, 99, 100, 101, 102, 103, 104, 105, 106, 107, 108, 109, 110, 111, 112, 117, 118, 119, 120, 121, 122, 123, 124, 125, 126, 127, 128, 129, 130, 131, 132, 133, 134, 135, 136, 137, 147, 148, 149, 150, 151, 152, 153, 154] (by decide +kernel) (by decide +kernel)
set_option maxRecDepth 20000 in
theorem gX9_fits_X3_admits_u128X1 : GoodIn wsX9_fits (va_wsU RX9 128 RX1 "ShadowBench$Job" ⟨"ShadowBench$Job", "admits", "(J)Z"⟩ yX3_admits wsX3_admits) := goodIn_app (goodIn_of _ (by decide +kernel)) ggX9_fits_X3_admits
set_option maxRecDepth 20000 in
theorem gX9_fits_X3_admits : GoodIn wsX9_fits (wsV RX9 128 RX3 yX3_admits wsX3_admits) := goodIn_app (goodIn_of _ (by decide +kernel)) ggX9_fits_X3_admits
set_option maxRecDepth 20000 in
theorem gX9_fits_X3_admits_u128X4 : GoodIn wsX9_fits (va_wsU RX9 128 RX4 "ShadowBench$Job" ⟨"ShadowBench$Job", "admits", "(J)Z"⟩ yX3_admits wsX3_admits) := goodIn_app (goodIn_of _ (by decide +kernel)) ggX9_fits_X3_admits
set_option maxRecDepth 20000 in
theorem gX9_fits_X3_admits_u128X5 : GoodIn wsX9_fits (va_wsU RX9 128 RX5 "ShadowBench$Job" ⟨"ShadowBench$Job", "admits", "(J)Z"⟩ yX3_admits wsX3_admits) := goodIn_app (goodIn_of _ (by decide +kernel)) ggX9_fits_X3_admits
theorem dX9_fits_0 : decode cX9_fits 0 = .ok (.aload_n 0, 1) := by decide +kernel
theorem dX9_fits_1 : decode cX9_fits 1 = .ok (.iload_n 1, 1) := by decide +kernel
theorem dX9_fits_2 : decode cX9_fits 2 = .ok (.invokevirtual 61, 3) := by decide +kernel
theorem dX9_fits_5 : decode cX9_fits 5 = .ok (.astore 4, 2) := by decide +kernel
theorem dX9_fits_7 : decode cX9_fits 7 = .ok (.aload 4, 2) := by decide +kernel
theorem dX9_fits_9 : decode cX9_fits 9 = .ok (.ifnull 15, 3) := by decide +kernel
theorem dX9_fits_12 : decode cX9_fits 12 = .ok (.aload 4, 2) := by decide +kernel
theorem dX9_fits_14 : decode cX9_fits 14 = .ok (.getfield 65, 3) := by decide +kernel
theorem dX9_fits_17 : decode cX9_fits 17 = .ok (.lload_n 2, 1) := by decide +kernel
theorem dX9_fits_18 : decode cX9_fits 18 = .ok (.invokevirtual 80, 3) := by decide +kernel
theorem dX9_fits_21 : decode cX9_fits 21 = .ok (.ifCond .ne 5, 3) := by decide +kernel
theorem dX9_fits_24 : decode cX9_fits 24 = .ok (.iconst (-1), 1) := by decide +kernel
theorem dX9_fits_25 : decode cX9_fits 25 = .ok (.ireturn, 1) := by decide +kernel
theorem dX9_fits_26 : decode cX9_fits 26 = .ok (.aload 4, 2) := by decide +kernel
theorem dX9_fits_28 : decode cX9_fits 28 = .ok (.lload_n 2, 1) := by decide +kernel
theorem dX9_fits_29 : decode cX9_fits 29 = .ok (.invokevirtual 128, 3) := by decide +kernel
theorem dX9_fits_32 : decode cX9_fits 32 = .ok (.ifCond .eq 7, 3) := by decide +kernel
theorem dX9_fits_35 : decode cX9_fits 35 = .ok (.iconst 1, 1) := by decide +kernel
theorem dX9_fits_36 : decode cX9_fits 36 = .ok (.goto 4, 3) := by decide +kernel
theorem dX9_fits_39 : decode cX9_fits 39 = .ok (.iconst 0, 1) := by decide +kernel
theorem dX9_fits_40 : decode cX9_fits 40 = .ok (.ireturn, 1) := by decide +kernel
set_option maxRecDepth 20000 in
theorem ggX9_count_X9_jobOf : GoodIn wsX9_count wsX9_jobOf := goodIn_r _ [7, 8, 9, 197, 198, 199, 200, 201, 202, 203, 204, 205] (by decide +kernel) (by decide +kernel)
set_option maxRecDepth 20000 in
theorem gX9_count_X9_jobOf : GoodIn wsX9_count (wsV RX9 61 RX9 yX9_jobOf wsX9_jobOf) := goodIn_app (goodIn_of _ (by decide +kernel)) ggX9_count_X9_jobOf
set_option maxRecDepth 20000 in
theorem ggX9_count_X8_start : GoodIn wsX9_count wsX8_start := goodIn_r _ [14, 15, 16, 17, 18, 19, 20, 21, 13, 22, 23, 24, 25, 26, 27, 28, 29, 30, 31, 32, 33, 34, 35, 36, 37, 38, 39, 40, 41, 42, 43, 44, 45, 46, 47, 48, 49, 50, 51, 52, 53, 54, 55, 56, 57, 58, 59, 60, 61, 62, 63, 64, 65, 66, 67, 68, 69, 70, 71, 72, 73, 74, 75, 76, 77, 78, 79, 80, 81, 82, 83, 84, 85, 86, 87, 88, 89, 90, 91, 92, 93, 94, 95, 96, 97, 206, 207, 208, 209, 210, 211, 212, 213, 214, 215, 216, 217, 218, 219, 220, 221, 222, 223, 224, 225, 226, 227, 228, 229, 230, 231, 232, 233, 234, 235, 236, 237, 238, 239, 240, 241, 242, 243, 244] (by decide +kernel) (by decide +kernel)
set_option maxRecDepth 20000 in
theorem gX9_count_X8_start : GoodIn wsX9_count (wsV RX9 131 RX8 yX8_start wsX8_start) := goodIn_app (goodIn_of _ (by decide +kernel)) ggX9_count_X8_start
set_option maxRecDepth 20000 in
theorem ggX9_count_X8_advance : GoodIn wsX9_count wsX8_advance := goodIn_r _ [101, 102, 17, 23, 29, 30, 31, 13, 32, 15, 33, 34, 103, 104, 105, 106, 107, 24, 16, 108, 27, 26, 25, 109, 110, 111, 112, 113, 114, 115, 116, 117, 118, 119, 28, 120, 18, 19, 20, 21, 22, 35, 36, 37, 38, 39, 40, 41, 42, 43, 44, 45, 46, 47, 48, 49, 50, 51, 52, 53, 54, 55, 56, 57, 58, 59, 60, 61, 62, 63, 64, 65, 66, 67, 68, 69, 70, 71, 72, 73, 74, 75, 76, 77, 78, 79, 80, 81, 82, 83, 84, 85, 86, 87, 88, 89, 90, 91, 92, 93, 94, 95, 96, 97, 121, 122, 123, 124, 125, 126, 127, 128, 129, 130, 131, 132, 133, 134, 135, 136, 137, 138, 139, 140, 141, 142, 143, 144, 145, 146, 147, 148, 149, 150, 151, 152, 153, 154, 155, 156, 157, 158, 159, 160, 161, 162, 163, 164, 165, 166, 167, 168, 169, 170, 171, 172, 173, 174, 175, 176, 177, 178, 179, 180, 181, 182, 183, 184, 185, 186, 187, 188, 189, 190, 191, 192, 206, 207, 208, 209, 210, 211, 212, 213, 214, 215, 216, 217, 218, 219, 220, 221, 222, 223, 224, 225, 226, 227, 228, 229, 230, 231, 232, 233, 234, 235, 236, 237, 238, 239, 240, 241, 242, 243, 244] (by decide +kernel) (by decide +kernel)
set_option maxRecDepth 20000 in
theorem gX9_count_X8_advance : GoodIn wsX9_count (wsV RX9 136 RX8 yX8_advance wsX8_advance) := goodIn_app (goodIn_of _ (by decide +kernel)) ggX9_count_X8_advance
set_option maxRecDepth 20000 in
theorem ggX9_count_X8_isSpent : GoodIn wsX9_count wsX8_isSpent := goodIn_r _ [196, 17, 206, 207, 208, 209, 210, 211, 212, 213, 214, 215] (by decide +kernel) (by decide +kernel)
set_option maxRecDepth 20000 in
theorem gX9_count_X8_isSpent : GoodIn wsX9_count (wsV RX9 140 RX8 yX8_isSpent wsX8_isSpent) := goodIn_app (goodIn_of _ (by decide +kernel)) ggX9_count_X8_isSpent
theorem dX9_count_0 : decode cX9_count 0 = .ok (.aload_n 0, 1) := by decide +kernel
theorem dX9_count_1 : decode cX9_count 1 = .ok (.iload_n 1, 1) := by decide +kernel
theorem dX9_count_2 : decode cX9_count 2 = .ok (.invokevirtual 61, 3) := by decide +kernel
theorem dX9_count_5 : decode cX9_count 5 = .ok (.astore_n 2, 1) := by decide +kernel
theorem dX9_count_6 : decode cX9_count 6 = .ok (.aload_n 2, 1) := by decide +kernel
theorem dX9_count_7 : decode cX9_count 7 = .ok (.ifnonnull 5, 3) := by decide +kernel
theorem dX9_count_10 : decode cX9_count 10 = .ok (.iconst (-1), 1) := by decide +kernel
theorem dX9_count_11 : decode cX9_count 11 = .ok (.ireturn, 1) := by decide +kernel
theorem dX9_count_12 : decode cX9_count 12 = .ok (.aload_n 0, 1) := by decide +kernel
theorem dX9_count_13 : decode cX9_count 13 = .ok (.getfield 34, 3) := by decide +kernel
theorem dX9_count_16 : decode cX9_count 16 = .ok (.aload_n 2, 1) := by decide +kernel
theorem dX9_count_17 : decode cX9_count 17 = .ok (.invokevirtual 131, 3) := by decide +kernel
theorem dX9_count_20 : decode cX9_count 20 = .ok (.iconst 0, 1) := by decide +kernel
theorem dX9_count_21 : decode cX9_count 21 = .ok (.istore_n 3, 1) := by decide +kernel
theorem dX9_count_22 : decode cX9_count 22 = .ok (.iload_n 3, 1) := by decide +kernel
theorem dX9_count_23 : decode cX9_count 23 = .ok (.ldc 135, 2) := by decide +kernel
theorem dX9_count_25 : decode cX9_count 25 = .ok (.if_icmp .ge 19, 3) := by decide +kernel
theorem dX9_count_28 : decode cX9_count 28 = .ok (.aload_n 0, 1) := by decide +kernel
theorem dX9_count_29 : decode cX9_count 29 = .ok (.getfield 34, 3) := by decide +kernel
theorem dX9_count_32 : decode cX9_count 32 = .ok (.invokevirtual 136, 3) := by decide +kernel
theorem dX9_count_35 : decode cX9_count 35 = .ok (.ifCond .eq 9, 3) := by decide +kernel
theorem dX9_count_38 : decode cX9_count 38 = .ok (.iinc 3 1, 3) := by decide +kernel
theorem dX9_count_41 : decode cX9_count 41 = .ok (.goto (-19), 3) := by decide +kernel
theorem dX9_count_44 : decode cX9_count 44 = .ok (.aload_n 0, 1) := by decide +kernel
theorem dX9_count_45 : decode cX9_count 45 = .ok (.getfield 34, 3) := by decide +kernel
theorem dX9_count_48 : decode cX9_count 48 = .ok (.invokevirtual 140, 3) := by decide +kernel
theorem dX9_count_51 : decode cX9_count 51 = .ok (.ifCond .eq 8, 3) := by decide +kernel
theorem dX9_count_54 : decode cX9_count 54 = .ok (.bipush (-5), 2) := by decide +kernel
theorem dX9_count_56 : decode cX9_count 56 = .ok (.goto 4, 3) := by decide +kernel
theorem dX9_count_59 : decode cX9_count 59 = .ok (.iload_n 3, 1) := by decide +kernel
theorem dX9_count_60 : decode cX9_count 60 = .ok (.ireturn, 1) := by decide +kernel
set_option maxRecDepth 20000 in
theorem ggX9_find_X9_jobOf : GoodIn wsX9_find wsX9_jobOf := goodIn_r _ [10, 11, 12, 204, 205, 206, 207, 208, 209, 210, 211, 212] (by decide +kernel) (by decide +kernel)
set_option maxRecDepth 20000 in
theorem gX9_find_X9_jobOf : GoodIn wsX9_find (wsV RX9 61 RX9 yX9_jobOf wsX9_jobOf) := goodIn_app (goodIn_of _ (by decide +kernel)) ggX9_find_X9_jobOf
set_option maxRecDepth 20000 in
theorem ggX9_find_X8_start : GoodIn wsX9_find wsX8_start := goodIn_r _ [17, 18, 19, 20, 21, 22, 23, 24, 16, 25, 26, 27, 28, 29, 30, 31, 32, 33, 34, 35, 36, 37, 38, 39, 40, 41, 42, 43, 44, 45, 46, 47, 48, 49, 50, 51, 52, 53, 54, 55, 56, 57, 58, 59, 60, 61, 62, 63, 64, 65, 66, 67, 68, 69, 70, 71, 72, 73, 74, 75, 76, 77, 78, 79, 80, 81, 82, 83, 84, 85, 86, 87, 88, 89, 90, 91, 92, 93, 94, 95, 96, 97, 98, 99, 100, 213, 214, 215, 216, 217, 218, 219, 220, 221, 222, 223, 224, 225, 226, 227, 228, 229, 230, 231, 232, 233, 234, 235, 236, 237, 238, 239, 240, 241, 242, 243, 244, 245, 246, 247, 248, 249, 250, 251] (by decide +kernel) (by decide +kernel)
set_option maxRecDepth 20000 in
theorem gX9_find_X8_start : GoodIn wsX9_find (wsV RX9 131 RX8 yX8_start wsX8_start) := goodIn_app (goodIn_of _ (by decide +kernel)) ggX9_find_X8_start
set_option maxRecDepth 20000 in
theorem ggX9_find_X8_advance : GoodIn wsX9_find wsX8_advance := goodIn_r _ [104, 105, 20, 26, 32, 33, 34, 16, 35, 18, 36, 37, 106, 107, 108, 109, 110, 27, 19, 111, 30, 29, 28, 112, 113, 114, 115, 116, 117, 118, 119, 120, 121, 122, 31, 123, 21, 22, 23, 24, 25, 38, 39, 40, 41, 42, 43, 44, 45, 46, 47, 48, 49, 50, 51, 52, 53, 54, 55, 56, 57, 58, 59, 60, 61, 62, 63, 64, 65, 66, 67, 68, 69, 70, 71, 72, 73, 74, 75, 76, 77, 78, 79, 80, 81, 82, 83, 84, 85, 86, 87, 88, 89, 90, 91, 92, 93, 94, 95, 96, 97, 98, 99, 100, 124, 125, 126, 127, 128, 129, 130, 131, 132, 133, 134, 135, 136, 137, 138, 139, 140, 141, 142, 143, 144, 145, 146, 147, 148, 149, 150, 151, 152, 153, 154, 155, 156, 157, 158, 159, 160, 161, 162, 163, 164, 165, 166, 167, 168, 169, 170, 171, 172, 173, 174, 175, 176, 177, 178, 179, 180, 181, 182, 183, 184, 185, 186, 187, 188, 189, 190, 191, 192, 193, 194, 195, 213, 214, 215, 216, 217, 218, 219, 220, 221, 222, 223, 224, 225, 226, 227, 228, 229, 230, 231, 232, 233, 234, 235, 236, 237, 238, 239, 240, 241, 242, 243, 244, 245, 246, 247, 248, 249, 250, 251] (by decide +kernel) (by decide +kernel)
set_option maxRecDepth 20000 in
theorem gX9_find_X8_advance : GoodIn wsX9_find (wsV RX9 136 RX8 yX8_advance wsX8_advance) := goodIn_app (goodIn_of _ (by decide +kernel)) ggX9_find_X8_advance
set_option maxRecDepth 20000 in
theorem ggX9_find_X8_found : GoodIn wsX9_find wsX8_found := goodIn_r _ [199, 21, 213, 214, 215, 216, 217, 218, 219, 220, 221, 222] (by decide +kernel) (by decide +kernel)
set_option maxRecDepth 20000 in
theorem gX9_find_X8_found : GoodIn wsX9_find (wsV RX9 145 RX8 yX8_found wsX8_found) := goodIn_app (goodIn_of _ (by decide +kernel)) ggX9_find_X8_found
set_option maxRecDepth 20000 in
theorem ggX9_find_X8_isSpent : GoodIn wsX9_find wsX8_isSpent := goodIn_r _ [203, 20, 213, 214, 215, 216, 217, 218, 219, 220, 221, 222] (by decide +kernel) (by decide +kernel)
set_option maxRecDepth 20000 in
theorem gX9_find_X8_isSpent : GoodIn wsX9_find (wsV RX9 140 RX8 yX8_isSpent wsX8_isSpent) := goodIn_app (goodIn_of _ (by decide +kernel)) ggX9_find_X8_isSpent
theorem dX9_find_0 : decode cX9_find 0 = .ok (.aload_n 0, 1) := by decide +kernel
theorem dX9_find_1 : decode cX9_find 1 = .ok (.iload_n 1, 1) := by decide +kernel
theorem dX9_find_2 : decode cX9_find 2 = .ok (.invokevirtual 61, 3) := by decide +kernel
theorem dX9_find_5 : decode cX9_find 5 = .ok (.astore_n 3, 1) := by decide +kernel
theorem dX9_find_6 : decode cX9_find 6 = .ok (.aload_n 3, 1) := by decide +kernel
theorem dX9_find_7 : decode cX9_find 7 = .ok (.ifnull 7, 3) := by decide +kernel
theorem dX9_find_10 : decode cX9_find 10 = .ok (.iload_n 2, 1) := by decide +kernel
theorem dX9_find_11 : decode cX9_find 11 = .ok (.ifCond .ge 7, 3) := by decide +kernel
theorem dX9_find_14 : decode cX9_find 14 = .ok (.ldc2_w 143, 3) := by decide +kernel
theorem dX9_find_17 : decode cX9_find 17 = .ok (.lreturn, 1) := by decide +kernel
theorem dX9_find_18 : decode cX9_find 18 = .ok (.aload_n 0, 1) := by decide +kernel
theorem dX9_find_19 : decode cX9_find 19 = .ok (.getfield 34, 3) := by decide +kernel
theorem dX9_find_22 : decode cX9_find 22 = .ok (.aload_n 3, 1) := by decide +kernel
theorem dX9_find_23 : decode cX9_find 23 = .ok (.invokevirtual 131, 3) := by decide +kernel
theorem dX9_find_26 : decode cX9_find 26 = .ok (.iconst 0, 1) := by decide +kernel
theorem dX9_find_27 : decode cX9_find 27 = .ok (.istore 4, 2) := by decide +kernel
theorem dX9_find_29 : decode cX9_find 29 = .ok (.iload 4, 2) := by decide +kernel
theorem dX9_find_31 : decode cX9_find 31 = .ok (.ldc 135, 2) := by decide +kernel
theorem dX9_find_33 : decode cX9_find 33 = .ok (.if_icmp .ge 33, 3) := by decide +kernel
theorem dX9_find_36 : decode cX9_find 36 = .ok (.aload_n 0, 1) := by decide +kernel
theorem dX9_find_37 : decode cX9_find 37 = .ok (.getfield 34, 3) := by decide +kernel
theorem dX9_find_40 : decode cX9_find 40 = .ok (.invokevirtual 136, 3) := by decide +kernel
theorem dX9_find_43 : decode cX9_find 43 = .ok (.ifCond .eq 23, 3) := by decide +kernel
theorem dX9_find_46 : decode cX9_find 46 = .ok (.iload 4, 2) := by decide +kernel
theorem dX9_find_48 : decode cX9_find 48 = .ok (.iload_n 2, 1) := by decide +kernel
theorem dX9_find_49 : decode cX9_find 49 = .ok (.if_icmp .ne 11, 3) := by decide +kernel
theorem dX9_find_52 : decode cX9_find 52 = .ok (.aload_n 0, 1) := by decide +kernel
theorem dX9_find_53 : decode cX9_find 53 = .ok (.getfield 34, 3) := by decide +kernel
theorem dX9_find_56 : decode cX9_find 56 = .ok (.invokevirtual 145, 3) := by decide +kernel
theorem dX9_find_59 : decode cX9_find 59 = .ok (.lreturn, 1) := by decide +kernel
theorem dX9_find_60 : decode cX9_find 60 = .ok (.iinc 4 1, 3) := by decide +kernel
theorem dX9_find_63 : decode cX9_find 63 = .ok (.goto (-34), 3) := by decide +kernel
theorem dX9_find_66 : decode cX9_find 66 = .ok (.aload_n 0, 1) := by decide +kernel
theorem dX9_find_67 : decode cX9_find 67 = .ok (.getfield 34, 3) := by decide +kernel
theorem dX9_find_70 : decode cX9_find 70 = .ok (.invokevirtual 140, 3) := by decide +kernel
theorem dX9_find_73 : decode cX9_find 73 = .ok (.ifCond .eq 9, 3) := by decide +kernel
theorem dX9_find_76 : decode cX9_find 76 = .ok (.ldc2_w 149, 3) := by decide +kernel
theorem dX9_find_79 : decode cX9_find 79 = .ok (.goto 6, 3) := by decide +kernel
theorem dX9_find_82 : decode cX9_find 82 = .ok (.ldc2_w 151, 3) := by decide +kernel
theorem dX9_find_85 : decode cX9_find 85 = .ok (.lreturn, 1) := by decide +kernel
set_option maxRecDepth 20000 in
theorem ggX9_rank_X9_jobOf : GoodIn wsX9_rank wsX9_jobOf := goodIn_r _ [8, 9, 10, 225, 226, 227, 228, 229, 230, 231, 232, 233] (by decide +kernel) (by decide +kernel)
set_option maxRecDepth 20000 in
theorem gX9_rank_X9_jobOf : GoodIn wsX9_rank (wsV RX9 61 RX9 yX9_jobOf wsX9_jobOf) := goodIn_app (goodIn_of _ (by decide +kernel)) ggX9_rank_X9_jobOf
set_option maxRecDepth 20000 in
theorem ggX9_rank_X0_isPicture : GoodIn wsX9_rank wsX0_isPicture := goodIn_r _ [15, 16, 234, 235, 236, 237, 238, 239, 240, 241] (by decide +kernel) (by decide +kernel)
set_option maxRecDepth 20000 in
theorem gX9_rank_X0_isPicture : GoodIn wsX9_rank (wsV RX9 80 RX0 yX0_isPicture wsX0_isPicture) := goodIn_app (goodIn_of _ (by decide +kernel)) ggX9_rank_X0_isPicture
set_option maxRecDepth 20000 in
theorem ggX9_rank_X3_admits : GoodIn wsX9_rank wsX3_admits := goodIn_r _ [22, 23, 24, 25, 26, 27, 28, 29, 21, 30, 31, 32, 33, 34, 35, 36, 37, 38, 39, 40, 41, 42, 43, 44, 14, 45, 46, 47, 48, 49, 50, 51, 52, 53, 54, 55, 56, 57, 58, 59, 60, 61, 62, 63, 64, 65, 66, 67, 68, 69, 70, 71, 72, 73, 74, 75, 76, 77, 78, 79, 80, 81, 82, 83, 84, 85, 86, 87, 88, 89, 90, 91, 92, 93, 94, 16, 95, 96, 97, 98, 99, 100, 101, 102, 103, 104, 105, 106, 107, 108, 109, 110, 111, 112, 113, 114, 204, 205, 206, 207, 208, 209, 210, 211, 212, 213, 214, 215, 216, 217, 218, 219, 220, 221, 222, 223, 224, 234, 235, 236, 237, 238, 239, 240, 241] (by decide +kernel) (by decide +kernel)
set_option maxRecDepth 20000 in
theorem gX9_rank_X3_admits_u128X1 : GoodIn wsX9_rank (va_wsU RX9 128 RX1 "ShadowBench$Job" ⟨"ShadowBench$Job", "admits", "(J)Z"⟩ yX3_admits wsX3_admits) := goodIn_app (goodIn_of _ (by decide +kernel)) ggX9_rank_X3_admits
set_option maxRecDepth 20000 in
theorem gX9_rank_X3_admits : GoodIn wsX9_rank (wsV RX9 128 RX3 yX3_admits wsX3_admits) := goodIn_app (goodIn_of _ (by decide +kernel)) ggX9_rank_X3_admits
set_option maxRecDepth 20000 in
theorem gX9_rank_X3_admits_u128X4 : GoodIn wsX9_rank (va_wsU RX9 128 RX4 "ShadowBench$Job" ⟨"ShadowBench$Job", "admits", "(J)Z"⟩ yX3_admits wsX3_admits) := goodIn_app (goodIn_of _ (by decide +kernel)) ggX9_rank_X3_admits
set_option maxRecDepth 20000 in
theorem gX9_rank_X3_admits_u128X5 : GoodIn wsX9_rank (va_wsU RX9 128 RX5 "ShadowBench$Job" ⟨"ShadowBench$Job", "admits", "(J)Z"⟩ yX3_admits wsX3_admits) := goodIn_app (goodIn_of _ (by decide +kernel)) ggX9_rank_X3_admits
set_option maxRecDepth 20000 in
theorem ggX9_rank_X8_start : GoodIn wsX9_rank wsX8_start := goodIn_r _ [123, 124, 125, 126, 127, 128, 129, 130, 122, 131, 132, 133, 134, 135, 136, 137, 138, 139, 140, 141, 142, 143, 144, 61, 62, 63, 21, 64, 65, 145, 67, 68, 69, 146, 147, 148, 149, 150, 31, 25, 151, 101, 102, 14, 103, 47, 104, 152, 153, 154, 155, 156, 157, 158, 159, 160, 23, 161, 162, 163, 164, 165, 166, 167, 168, 169, 170, 48, 49, 50, 51, 52, 53, 54, 55, 56, 57, 58, 59, 60, 66, 171, 172, 173, 174, 242, 243, 244, 245, 246, 247, 248, 249, 250, 251, 204, 205, 206, 207, 208, 209, 210, 211, 212, 213, 214, 215, 216, 217, 218, 219, 220, 221, 222, 223, 224, 234, 235, 236, 237, 238, 239, 240, 241] (by decide +kernel) (by decide +kernel)
set_option maxRecDepth 20000 in
theorem gX9_rank_X8_start : GoodIn wsX9_rank (wsV RX9 131 RX8 yX8_start wsX8_start) := goodIn_app (goodIn_of _ (by decide +kernel)) ggX9_rank_X8_start
set_option maxRecDepth 20000 in
theorem ggX9_rank_X8_advance : GoodIn wsX9_rank wsX8_advance := goodIn_r _ [178, 179, 126, 132, 138, 139, 140, 122, 141, 124, 142, 143, 180, 181, 182, 183, 184, 133, 125, 185, 136, 135, 134, 186, 187, 188, 189, 190, 191, 192, 193, 194, 195, 196, 137, 197, 127, 128, 129, 130, 131, 144, 61, 62, 63, 21, 64, 65, 145, 67, 68, 69, 146, 147, 148, 149, 150, 31, 25, 151, 101, 102, 14, 103, 47, 104, 152, 153, 154, 155, 156, 157, 158, 159, 160, 23, 161, 162, 163, 164, 165, 166, 167, 168, 169, 170, 48, 49, 50, 51, 52, 53, 54, 55, 56, 57, 58, 59, 60, 66, 171, 172, 173, 174, 198, 18, 19, 20, 22, 24, 26, 27, 28, 29, 30, 32, 33, 34, 35, 36, 37, 38, 39, 40, 41, 42, 43, 44, 45, 46, 70, 71, 72, 73, 74, 75, 76, 77, 78, 79, 80, 81, 82, 83, 84, 85, 86, 87, 88, 89, 90, 91, 92, 93, 94, 16, 95, 96, 97, 98, 99, 100, 105, 106, 107, 108, 109, 110, 111, 112, 113, 114, 199, 116, 117, 118, 242, 243, 244, 245, 246, 247, 248, 249, 250, 251, 204, 205, 206, 207, 208, 209, 210, 211, 212, 213, 214, 215, 216, 217, 218, 219, 220, 221, 222, 223, 224, 234, 235, 236, 237, 238, 239, 240, 241] (by decide +kernel) (by decide +kernel)
set_option maxRecDepth 20000 in
theorem gX9_rank_X8_advance : GoodIn wsX9_rank (wsV RX9 136 RX8 yX8_advance wsX8_advance) := goodIn_app (goodIn_of _ (by decide +kernel)) ggX9_rank_X8_advance
set_option maxRecDepth 20000 in
theorem ggX9_rank_X8_found : GoodIn wsX9_rank wsX8_found := goodIn_r _ [203, 127, 242, 243, 244, 245, 246, 247, 248, 249, 250, 251] (by decide +kernel) (by decide +kernel)
set_option maxRecDepth 20000 in
theorem gX9_rank_X8_found : GoodIn wsX9_rank (wsV RX9 145 RX8 yX8_found wsX8_found) := goodIn_app (goodIn_of _ (by decide +kernel)) ggX9_rank_X8_found
theorem dX9_rank_0 : decode cX9_rank 0 = .ok (.aload_n 0, 1) := by decide +kernel
theorem dX9_rank_1 : decode cX9_rank 1 = .ok (.iload_n 1, 1) := by decide +kernel
theorem dX9_rank_2 : decode cX9_rank 2 = .ok (.invokevirtual 61, 3) := by decide +kernel
theorem dX9_rank_5 : decode cX9_rank 5 = .ok (.astore 4, 2) := by decide +kernel
theorem dX9_rank_7 : decode cX9_rank 7 = .ok (.aload 4, 2) := by decide +kernel
theorem dX9_rank_9 : decode cX9_rank 9 = .ok (.ifnull 15, 3) := by decide +kernel
theorem dX9_rank_12 : decode cX9_rank 12 = .ok (.aload 4, 2) := by decide +kernel
theorem dX9_rank_14 : decode cX9_rank 14 = .ok (.getfield 65, 3) := by decide +kernel
theorem dX9_rank_17 : decode cX9_rank 17 = .ok (.lload_n 2, 1) := by decide +kernel
theorem dX9_rank_18 : decode cX9_rank 18 = .ok (.invokevirtual 80, 3) := by decide +kernel
theorem dX9_rank_21 : decode cX9_rank 21 = .ok (.ifCond .ne 5, 3) := by decide +kernel
theorem dX9_rank_24 : decode cX9_rank 24 = .ok (.iconst (-1), 1) := by decide +kernel
theorem dX9_rank_25 : decode cX9_rank 25 = .ok (.ireturn, 1) := by decide +kernel
theorem dX9_rank_26 : decode cX9_rank 26 = .ok (.aload 4, 2) := by decide +kernel
theorem dX9_rank_28 : decode cX9_rank 28 = .ok (.lload_n 2, 1) := by decide +kernel
theorem dX9_rank_29 : decode cX9_rank 29 = .ok (.invokevirtual 128, 3) := by decide +kernel
theorem dX9_rank_32 : decode cX9_rank 32 = .ok (.ifCond .ne 6, 3) := by decide +kernel
theorem dX9_rank_35 : decode cX9_rank 35 = .ok (.bipush (-2), 2) := by decide +kernel
theorem dX9_rank_37 : decode cX9_rank 37 = .ok (.ireturn, 1) := by decide +kernel
theorem dX9_rank_38 : decode cX9_rank 38 = .ok (.aload_n 0, 1) := by decide +kernel
theorem dX9_rank_39 : decode cX9_rank 39 = .ok (.getfield 34, 3) := by decide +kernel
theorem dX9_rank_42 : decode cX9_rank 42 = .ok (.aload 4, 2) := by decide +kernel
theorem dX9_rank_44 : decode cX9_rank 44 = .ok (.invokevirtual 131, 3) := by decide +kernel
theorem dX9_rank_47 : decode cX9_rank 47 = .ok (.iconst 0, 1) := by decide +kernel
theorem dX9_rank_48 : decode cX9_rank 48 = .ok (.istore 5, 2) := by decide +kernel
theorem dX9_rank_50 : decode cX9_rank 50 = .ok (.iload 5, 2) := by decide +kernel
theorem dX9_rank_52 : decode cX9_rank 52 = .ok (.ldc 135, 2) := by decide +kernel
theorem dX9_rank_54 : decode cX9_rank 54 = .ok (.if_icmp .ge 34, 3) := by decide +kernel
theorem dX9_rank_57 : decode cX9_rank 57 = .ok (.aload_n 0, 1) := by decide +kernel
theorem dX9_rank_58 : decode cX9_rank 58 = .ok (.getfield 34, 3) := by decide +kernel
theorem dX9_rank_61 : decode cX9_rank 61 = .ok (.invokevirtual 136, 3) := by decide +kernel
theorem dX9_rank_64 : decode cX9_rank 64 = .ok (.ifCond .eq 24, 3) := by decide +kernel
theorem dX9_rank_67 : decode cX9_rank 67 = .ok (.aload_n 0, 1) := by decide +kernel
theorem dX9_rank_68 : decode cX9_rank 68 = .ok (.getfield 34, 3) := by decide +kernel
theorem dX9_rank_71 : decode cX9_rank 71 = .ok (.invokevirtual 145, 3) := by decide +kernel
theorem dX9_rank_74 : decode cX9_rank 74 = .ok (.lload_n 2, 1) := by decide +kernel
theorem dX9_rank_75 : decode cX9_rank 75 = .ok (.lcmp, 1) := by decide +kernel
theorem dX9_rank_76 : decode cX9_rank 76 = .ok (.ifCond .ne 6, 3) := by decide +kernel
theorem dX9_rank_79 : decode cX9_rank 79 = .ok (.iload 5, 2) := by decide +kernel
theorem dX9_rank_81 : decode cX9_rank 81 = .ok (.ireturn, 1) := by decide +kernel
theorem dX9_rank_82 : decode cX9_rank 82 = .ok (.iinc 5 1, 3) := by decide +kernel
theorem dX9_rank_85 : decode cX9_rank 85 = .ok (.goto (-35), 3) := by decide +kernel
theorem dX9_rank_88 : decode cX9_rank 88 = .ok (.bipush (-5), 2) := by decide +kernel
theorem dX9_rank_90 : decode cX9_rank 90 = .ok (.ireturn, 1) := by decide +kernel
set_option maxRecDepth 20000 in
theorem ggX9_sure_X9_jobOf : GoodIn wsX9_sure wsX9_jobOf := goodIn_r _ [8, 9, 10, 227, 228, 229, 230, 231, 232, 233, 234, 235] (by decide +kernel) (by decide +kernel)
set_option maxRecDepth 20000 in
theorem gX9_sure_X9_jobOf : GoodIn wsX9_sure (wsV RX9 61 RX9 yX9_jobOf wsX9_jobOf) := goodIn_app (goodIn_of _ (by decide +kernel)) ggX9_sure_X9_jobOf
set_option maxRecDepth 20000 in
theorem ggX9_sure_X0_isSquare : GoodIn wsX9_sure wsX0_isSquare := goodIn_r _ [15, 16, 236, 237, 238, 239, 240, 241, 242, 243] (by decide +kernel) (by decide +kernel)
set_option maxRecDepth 20000 in
theorem gX9_sure_X0_isSquare : GoodIn wsX9_sure (wsV RX9 101 RX0 yX0_isSquare wsX0_isSquare) := goodIn_app (goodIn_of _ (by decide +kernel)) ggX9_sure_X0_isSquare
set_option maxRecDepth 20000 in
theorem ggX9_sure_X8_start : GoodIn wsX9_sure wsX8_start := goodIn_r _ [21, 22, 23, 24, 25, 26, 27, 28, 20, 29, 30, 31, 32, 33, 34, 35, 36, 37, 38, 39, 40, 41, 42, 43, 44, 45, 46, 47, 48, 49, 50, 51, 52, 53, 54, 55, 56, 57, 58, 59, 60, 61, 62, 14, 63, 64, 65, 66, 67, 68, 69, 70, 71, 72, 73, 74, 75, 76, 77, 78, 79, 80, 81, 82, 83, 84, 85, 86, 87, 88, 89, 90, 91, 92, 93, 94, 95, 96, 97, 98, 99, 100, 101, 102, 103, 244, 245, 246, 247, 248, 249, 250, 251, 252, 253, 206, 207, 208, 209, 210, 211, 212, 213, 214, 215, 216, 217, 218, 219, 220, 221, 222, 223, 224, 225, 226, 236, 237, 238, 239, 240, 241, 242, 243] (by decide +kernel) (by decide +kernel)
set_option maxRecDepth 20000 in
theorem gX9_sure_X8_start : GoodIn wsX9_sure (wsV RX9 131 RX8 yX8_start wsX8_start) := goodIn_app (goodIn_of _ (by decide +kernel)) ggX9_sure_X8_start
set_option maxRecDepth 20000 in
theorem ggX9_sure_X8_advance : GoodIn wsX9_sure wsX8_advance := goodIn_r _ [107, 108, 24, 30, 36, 37, 38, 20, 39, 22, 40, 41, 109, 110, 111, 112, 113, 31, 23, 114, 34, 33, 32, 115, 116, 117, 118, 119, 120, 121, 122, 123, 124, 125, 35, 126, 25, 26, 27, 28, 29, 42, 43, 44, 45, 46, 47, 48, 49, 50, 51, 52, 53, 54, 55, 56, 57, 58, 59, 60, 61, 62, 14, 63, 64, 65, 66, 67, 68, 69, 70, 71, 72, 73, 74, 75, 76, 77, 78, 79, 80, 81, 82, 83, 84, 85, 86, 87, 88, 89, 90, 91, 92, 93, 94, 95, 96, 97, 98, 99, 100, 101, 102, 103, 127, 128, 129, 130, 131, 132, 133, 134, 135, 136, 137, 138, 139, 140, 141, 142, 143, 144, 145, 146, 147, 148, 149, 150, 151, 152, 153, 154, 155, 156, 157, 158, 159, 160, 161, 162, 163, 164, 165, 166, 167, 168, 169, 170, 171, 172, 173, 174, 175, 176, 177, 16, 178, 179, 180, 181, 182, 183, 184, 185, 186, 187, 188, 189, 190, 191, 192, 193, 194, 195, 196, 197, 244, 245, 246, 247, 248, 249, 250, 251, 252, 253, 206, 207, 208, 209, 210, 211, 212, 213, 214, 215, 216, 217, 218, 219, 220, 221, 222, 223, 224, 225, 226, 236, 237, 238, 239, 240, 241, 242, 243] (by decide +kernel) (by decide +kernel)
set_option maxRecDepth 20000 in
theorem gX9_sure_X8_advance : GoodIn wsX9_sure (wsV RX9 136 RX8 yX8_advance wsX8_advance) := goodIn_app (goodIn_of _ (by decide +kernel)) ggX9_sure_X8_advance
set_option maxRecDepth 20000 in
theorem ggX9_sure_X8_found : GoodIn wsX9_sure wsX8_found := goodIn_r _ [201, 25, 244, 245, 246, 247, 248, 249, 250, 251, 252, 253] (by decide +kernel) (by decide +kernel)
set_option maxRecDepth 20000 in
theorem gX9_sure_X8_found : GoodIn wsX9_sure (wsV RX9 145 RX8 yX8_found wsX8_found) := goodIn_app (goodIn_of _ (by decide +kernel)) ggX9_sure_X8_found
set_option maxRecDepth 20000 in
theorem ggX9_sure_X8_isSpent : GoodIn wsX9_sure wsX8_isSpent := goodIn_r _ [205, 24, 244, 245, 246, 247, 248, 249, 250, 251, 252, 253] (by decide +kernel) (by decide +kernel)
set_option maxRecDepth 20000 in
theorem gX9_sure_X8_isSpent : GoodIn wsX9_sure (wsV RX9 140 RX8 yX8_isSpent wsX8_isSpent) := goodIn_app (goodIn_of _ (by decide +kernel)) ggX9_sure_X8_isSpent
theorem dX9_sure_0 : decode cX9_sure 0 = .ok (.aload_n 0, 1) := by decide +kernel
theorem dX9_sure_1 : decode cX9_sure 1 = .ok (.iload_n 1, 1) := by decide +kernel
theorem dX9_sure_2 : decode cX9_sure 2 = .ok (.invokevirtual 61, 3) := by decide +kernel
theorem dX9_sure_5 : decode cX9_sure 5 = .ok (.astore_n 3, 1) := by decide +kernel
theorem dX9_sure_6 : decode cX9_sure 6 = .ok (.aload_n 3, 1) := by decide +kernel
theorem dX9_sure_7 : decode cX9_sure 7 = .ok (.ifnull 14, 3) := by decide +kernel
theorem dX9_sure_10 : decode cX9_sure 10 = .ok (.aload_n 3, 1) := by decide +kernel
theorem dX9_sure_11 : decode cX9_sure 11 = .ok (.getfield 65, 3) := by decide +kernel
theorem dX9_sure_14 : decode cX9_sure 14 = .ok (.iload_n 2, 1) := by decide +kernel
theorem dX9_sure_15 : decode cX9_sure 15 = .ok (.invokevirtual 101, 3) := by decide +kernel
theorem dX9_sure_18 : decode cX9_sure 18 = .ok (.ifCond .ne 5, 3) := by decide +kernel
theorem dX9_sure_21 : decode cX9_sure 21 = .ok (.iconst (-1), 1) := by decide +kernel
theorem dX9_sure_22 : decode cX9_sure 22 = .ok (.ireturn, 1) := by decide +kernel
theorem dX9_sure_23 : decode cX9_sure 23 = .ok (.aload_n 0, 1) := by decide +kernel
theorem dX9_sure_24 : decode cX9_sure 24 = .ok (.getfield 34, 3) := by decide +kernel
theorem dX9_sure_27 : decode cX9_sure 27 = .ok (.aload_n 3, 1) := by decide +kernel
theorem dX9_sure_28 : decode cX9_sure 28 = .ok (.invokevirtual 131, 3) := by decide +kernel
theorem dX9_sure_31 : decode cX9_sure 31 = .ok (.iconst 0, 1) := by decide +kernel
theorem dX9_sure_32 : decode cX9_sure 32 = .ok (.istore 4, 2) := by decide +kernel
theorem dX9_sure_34 : decode cX9_sure 34 = .ok (.iconst 0, 1) := by decide +kernel
theorem dX9_sure_35 : decode cX9_sure 35 = .ok (.istore 5, 2) := by decide +kernel
theorem dX9_sure_37 : decode cX9_sure 37 = .ok (.iload 4, 2) := by decide +kernel
theorem dX9_sure_39 : decode cX9_sure 39 = .ok (.ldc 135, 2) := by decide +kernel
theorem dX9_sure_41 : decode cX9_sure 41 = .ok (.if_icmp .ge 36, 3) := by decide +kernel
theorem dX9_sure_44 : decode cX9_sure 44 = .ok (.aload_n 0, 1) := by decide +kernel
theorem dX9_sure_45 : decode cX9_sure 45 = .ok (.getfield 34, 3) := by decide +kernel
theorem dX9_sure_48 : decode cX9_sure 48 = .ok (.invokevirtual 136, 3) := by decide +kernel
theorem dX9_sure_51 : decode cX9_sure 51 = .ok (.ifCond .eq 26, 3) := by decide +kernel
theorem dX9_sure_54 : decode cX9_sure 54 = .ok (.iinc 4 1, 3) := by decide +kernel
theorem dX9_sure_57 : decode cX9_sure 57 = .ok (.iload 5, 2) := by decide +kernel
theorem dX9_sure_59 : decode cX9_sure 59 = .ok (.aload_n 0, 1) := by decide +kernel
theorem dX9_sure_60 : decode cX9_sure 60 = .ok (.getfield 34, 3) := by decide +kernel
theorem dX9_sure_63 : decode cX9_sure 63 = .ok (.invokevirtual 145, 3) := by decide +kernel
theorem dX9_sure_66 : decode cX9_sure 66 = .ok (.iload_n 2, 1) := by decide +kernel
theorem dX9_sure_67 : decode cX9_sure 67 = .ok (.lushr, 1) := by decide +kernel
theorem dX9_sure_68 : decode cX9_sure 68 = .ok (.lconst 1, 1) := by decide +kernel
theorem dX9_sure_69 : decode cX9_sure 69 = .ok (.land, 1) := by decide +kernel
theorem dX9_sure_70 : decode cX9_sure 70 = .ok (.l2i, 1) := by decide +kernel
theorem dX9_sure_71 : decode cX9_sure 71 = .ok (.iadd, 1) := by decide +kernel
theorem dX9_sure_72 : decode cX9_sure 72 = .ok (.istore 5, 2) := by decide +kernel
theorem dX9_sure_74 : decode cX9_sure 74 = .ok (.goto (-37), 3) := by decide +kernel
theorem dX9_sure_77 : decode cX9_sure 77 = .ok (.aload_n 0, 1) := by decide +kernel
theorem dX9_sure_78 : decode cX9_sure 78 = .ok (.getfield 34, 3) := by decide +kernel
theorem dX9_sure_81 : decode cX9_sure 81 = .ok (.invokevirtual 140, 3) := by decide +kernel
theorem dX9_sure_84 : decode cX9_sure 84 = .ok (.ifCond .eq 6, 3) := by decide +kernel
theorem dX9_sure_87 : decode cX9_sure 87 = .ok (.bipush (-5), 2) := by decide +kernel
theorem dX9_sure_89 : decode cX9_sure 89 = .ok (.ireturn, 1) := by decide +kernel
theorem dX9_sure_90 : decode cX9_sure 90 = .ok (.iload 4, 2) := by decide +kernel
theorem dX9_sure_92 : decode cX9_sure 92 = .ok (.ifCond .ne 6, 3) := by decide +kernel
theorem dX9_sure_95 : decode cX9_sure 95 = .ok (.bipush (-2), 2) := by decide +kernel
theorem dX9_sure_97 : decode cX9_sure 97 = .ok (.ireturn, 1) := by decide +kernel
theorem dX9_sure_98 : decode cX9_sure 98 = .ok (.iload 5, 2) := by decide +kernel
theorem dX9_sure_100 : decode cX9_sure 100 = .ok (.ifCond .ne 7, 3) := by decide +kernel
theorem dX9_sure_103 : decode cX9_sure 103 = .ok (.iconst 0, 1) := by decide +kernel
theorem dX9_sure_104 : decode cX9_sure 104 = .ok (.goto 15, 3) := by decide +kernel
theorem dX9_sure_107 : decode cX9_sure 107 = .ok (.iload 5, 2) := by decide +kernel
theorem dX9_sure_109 : decode cX9_sure 109 = .ok (.iload 4, 2) := by decide +kernel
theorem dX9_sure_111 : decode cX9_sure 111 = .ok (.if_icmp .ne 7, 3) := by decide +kernel
theorem dX9_sure_114 : decode cX9_sure 114 = .ok (.iconst 1, 1) := by decide +kernel
theorem dX9_sure_115 : decode cX9_sure 115 = .ok (.goto 4, 3) := by decide +kernel
theorem dX9_sure_118 : decode cX9_sure 118 = .ok (.iconst 2, 1) := by decide +kernel
theorem dX9_sure_119 : decode cX9_sure 119 = .ok (.ireturn, 1) := by decide +kernel
set_option maxRecDepth 20000 in
theorem ggX9_clash_X9_jobOf : GoodIn wsX9_clash wsX9_jobOf := goodIn_r _ [7, 8, 9, 91, 92, 93, 94, 95, 96, 97, 98, 99] (by decide +kernel) (by decide +kernel)
set_option maxRecDepth 20000 in
theorem gX9_clash_X9_jobOf : GoodIn wsX9_clash (wsV RX9 61 RX9 yX9_jobOf wsX9_jobOf) := goodIn_app (goodIn_of _ (by decide +kernel)) ggX9_clash_X9_jobOf
set_option maxRecDepth 20000 in
theorem ggX9_clash_X3_sumOfWay : GoodIn wsX9_clash wsX3_sumOfWay := goodIn_r _ [15, 16, 17, 18, 19, 20, 21, 22, 23, 24, 25, 26, 27, 14, 28, 29, 30, 31, 32, 33, 62, 63, 64, 65, 66, 67, 68, 69, 70, 71, 72, 73, 74, 75, 76, 77, 78, 79, 80, 81, 82, 83, 84, 85, 86, 87, 88, 89, 90] (by decide +kernel) (by decide +kernel)
set_option maxRecDepth 20000 in
theorem gX9_clash_X3_sumOfWay_u153X1 : GoodIn wsX9_clash (va_wsU RX9 153 RX1 "ShadowBench$Job" ⟨"ShadowBench$Job", "sumOfWay", "(I)I"⟩ yX3_sumOfWay wsX3_sumOfWay) := goodIn_app (goodIn_of _ (by decide +kernel)) ggX9_clash_X3_sumOfWay
set_option maxRecDepth 20000 in
theorem gX9_clash_X3_sumOfWay : GoodIn wsX9_clash (wsV RX9 153 RX3 yX3_sumOfWay wsX3_sumOfWay) := goodIn_app (goodIn_of _ (by decide +kernel)) ggX9_clash_X3_sumOfWay
set_option maxRecDepth 20000 in
theorem gX9_clash_X3_sumOfWay_u153X4 : GoodIn wsX9_clash (va_wsU RX9 153 RX4 "ShadowBench$Job" ⟨"ShadowBench$Job", "sumOfWay", "(I)I"⟩ yX3_sumOfWay wsX3_sumOfWay) := goodIn_app (goodIn_of _ (by decide +kernel)) ggX9_clash_X3_sumOfWay
set_option maxRecDepth 20000 in
theorem gX9_clash_X3_sumOfWay_u153X5 : GoodIn wsX9_clash (va_wsU RX9 153 RX5 "ShadowBench$Job" ⟨"ShadowBench$Job", "sumOfWay", "(I)I"⟩ yX3_sumOfWay wsX3_sumOfWay) := goodIn_app (goodIn_of _ (by decide +kernel)) ggX9_clash_X3_sumOfWay
set_option maxRecDepth 20000 in
theorem ggX9_clash_X3_greatestColumns : GoodIn wsX9_clash wsX3_greatestColumns := goodIn_r _ [42, 16, 43, 24, 25, 26, 27, 14, 28, 29, 30, 31, 32, 33, 62, 63, 64, 65, 66, 67, 68, 69, 70, 71, 72, 73, 74, 75, 76, 77, 78, 79, 80, 81, 82, 83, 84, 85, 86, 87, 88, 89, 90] (by decide +kernel) (by decide +kernel)
set_option maxRecDepth 20000 in
theorem gX9_clash_X3_greatestColumns_u159X1 : GoodIn wsX9_clash (va_wsU RX9 159 RX1 "ShadowBench$Job" ⟨"ShadowBench$Job", "greatestColumns", "(I)I"⟩ yX3_greatestColumns wsX3_greatestColumns) := goodIn_app (goodIn_of _ (by decide +kernel)) ggX9_clash_X3_greatestColumns
set_option maxRecDepth 20000 in
theorem gX9_clash_X3_greatestColumns : GoodIn wsX9_clash (wsV RX9 159 RX3 yX3_greatestColumns wsX3_greatestColumns) := goodIn_app (goodIn_of _ (by decide +kernel)) ggX9_clash_X3_greatestColumns
set_option maxRecDepth 20000 in
theorem gX9_clash_X3_greatestColumns_u159X4 : GoodIn wsX9_clash (va_wsU RX9 159 RX4 "ShadowBench$Job" ⟨"ShadowBench$Job", "greatestColumns", "(I)I"⟩ yX3_greatestColumns wsX3_greatestColumns) := goodIn_app (goodIn_of _ (by decide +kernel)) ggX9_clash_X3_greatestColumns
set_option maxRecDepth 20000 in
theorem gX9_clash_X3_greatestColumns_u159X5 : GoodIn wsX9_clash (va_wsU RX9 159 RX5 "ShadowBench$Job" ⟨"ShadowBench$Job", "greatestColumns", "(I)I"⟩ yX3_greatestColumns wsX3_greatestColumns) := goodIn_app (goodIn_of _ (by decide +kernel)) ggX9_clash_X3_greatestColumns
set_option maxRecDepth 20000 in
theorem ggX9_clash_X3_roomInRows : GoodIn wsX9_clash wsX3_roomInRows := goodIn_r _ [52, 16, 53, 54, 55, 56, 57, 24, 25, 26, 27, 14, 28, 29, 30, 31, 32, 33, 62, 63, 64, 65, 66, 67, 68, 69, 70, 71, 72, 73, 74, 75, 76, 77, 78, 79, 80, 81, 82, 83, 84, 85, 86, 87, 88, 89, 90] (by decide +kernel) (by decide +kernel)
set_option maxRecDepth 20000 in
theorem gX9_clash_X3_roomInRows_u162X1 : GoodIn wsX9_clash (va_wsU RX9 162 RX1 "ShadowBench$Job" ⟨"ShadowBench$Job", "roomInRows", "(I)I"⟩ yX3_roomInRows wsX3_roomInRows) := goodIn_app (goodIn_of _ (by decide +kernel)) ggX9_clash_X3_roomInRows
set_option maxRecDepth 20000 in
theorem gX9_clash_X3_roomInRows : GoodIn wsX9_clash (wsV RX9 162 RX3 yX3_roomInRows wsX3_roomInRows) := goodIn_app (goodIn_of _ (by decide +kernel)) ggX9_clash_X3_roomInRows
set_option maxRecDepth 20000 in
theorem gX9_clash_X3_roomInRows_u162X4 : GoodIn wsX9_clash (va_wsU RX9 162 RX4 "ShadowBench$Job" ⟨"ShadowBench$Job", "roomInRows", "(I)I"⟩ yX3_roomInRows wsX3_roomInRows) := goodIn_app (goodIn_of _ (by decide +kernel)) ggX9_clash_X3_roomInRows
set_option maxRecDepth 20000 in
theorem gX9_clash_X3_roomInRows_u162X5 : GoodIn wsX9_clash (va_wsU RX9 162 RX5 "ShadowBench$Job" ⟨"ShadowBench$Job", "roomInRows", "(I)I"⟩ yX3_roomInRows wsX3_roomInRows) := goodIn_app (goodIn_of _ (by decide +kernel)) ggX9_clash_X3_roomInRows
theorem dX9_clash_0 : decode cX9_clash 0 = .ok (.aload_n 0, 1) := by decide +kernel
theorem dX9_clash_1 : decode cX9_clash 1 = .ok (.iload_n 1, 1) := by decide +kernel
theorem dX9_clash_2 : decode cX9_clash 2 = .ok (.invokevirtual 61, 3) := by decide +kernel
theorem dX9_clash_5 : decode cX9_clash 5 = .ok (.astore_n 2, 1) := by decide +kernel
theorem dX9_clash_6 : decode cX9_clash 6 = .ok (.aload_n 2, 1) := by decide +kernel
theorem dX9_clash_7 : decode cX9_clash 7 = .ok (.ifnonnull 5, 3) := by decide +kernel
theorem dX9_clash_10 : decode cX9_clash 10 = .ok (.iconst (-1), 1) := by decide +kernel
theorem dX9_clash_11 : decode cX9_clash 11 = .ok (.ireturn, 1) := by decide +kernel
theorem dX9_clash_12 : decode cX9_clash 12 = .ok (.aload_n 2, 1) := by decide +kernel
theorem dX9_clash_13 : decode cX9_clash 13 = .ok (.iconst 0, 1) := by decide +kernel
theorem dX9_clash_14 : decode cX9_clash 14 = .ok (.invokevirtual 153, 3) := by decide +kernel
theorem dX9_clash_17 : decode cX9_clash 17 = .ok (.aload_n 2, 1) := by decide +kernel
theorem dX9_clash_18 : decode cX9_clash 18 = .ok (.iconst 1, 1) := by decide +kernel
theorem dX9_clash_19 : decode cX9_clash 19 = .ok (.invokevirtual 153, 3) := by decide +kernel
theorem dX9_clash_22 : decode cX9_clash 22 = .ok (.if_icmp .eq 5, 3) := by decide +kernel
theorem dX9_clash_25 : decode cX9_clash 25 = .ok (.iconst 0, 1) := by decide +kernel
theorem dX9_clash_26 : decode cX9_clash 26 = .ok (.ireturn, 1) := by decide +kernel
theorem dX9_clash_27 : decode cX9_clash 27 = .ok (.iconst 1, 1) := by decide +kernel
theorem dX9_clash_28 : decode cX9_clash 28 = .ok (.istore_n 3, 1) := by decide +kernel
theorem dX9_clash_29 : decode cX9_clash 29 = .ok (.iload_n 3, 1) := by decide +kernel
theorem dX9_clash_30 : decode cX9_clash 30 = .ok (.aload_n 2, 1) := by decide +kernel
theorem dX9_clash_31 : decode cX9_clash 31 = .ok (.getfield 65, 3) := by decide +kernel
theorem dX9_clash_34 : decode cX9_clash 34 = .ok (.getfield 156, 3) := by decide +kernel
theorem dX9_clash_37 : decode cX9_clash 37 = .ok (.if_icmp .gt 24, 3) := by decide +kernel
theorem dX9_clash_40 : decode cX9_clash 40 = .ok (.aload_n 2, 1) := by decide +kernel
theorem dX9_clash_41 : decode cX9_clash 41 = .ok (.iload_n 3, 1) := by decide +kernel
theorem dX9_clash_42 : decode cX9_clash 42 = .ok (.invokevirtual 159, 3) := by decide +kernel
theorem dX9_clash_45 : decode cX9_clash 45 = .ok (.aload_n 2, 1) := by decide +kernel
theorem dX9_clash_46 : decode cX9_clash 46 = .ok (.iload_n 3, 1) := by decide +kernel
theorem dX9_clash_47 : decode cX9_clash 47 = .ok (.invokevirtual 162, 3) := by decide +kernel
theorem dX9_clash_50 : decode cX9_clash 50 = .ok (.if_icmp .le 5, 3) := by decide +kernel
theorem dX9_clash_53 : decode cX9_clash 53 = .ok (.iload_n 3, 1) := by decide +kernel
theorem dX9_clash_54 : decode cX9_clash 54 = .ok (.ireturn, 1) := by decide +kernel

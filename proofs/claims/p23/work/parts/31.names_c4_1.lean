theorem dX9_mark_33 : decode cX9_mark 33 = .ok (.if_icmp .le 5, 3) := by decide +kernel
theorem dX9_mark_36 : decode cX9_mark 36 = .ok (.iconst (-1), 1) := by decide +kernel
theorem dX9_mark_37 : decode cX9_mark 37 = .ok (.ireturn, 1) := by decide +kernel
theorem dX9_mark_38 : decode cX9_mark 38 = .ok (.aload 4, 2) := by decide +kernel
theorem dX9_mark_40 : decode cX9_mark 40 = .ok (.instanceof 112, 3) := by decide +kernel
theorem dX9_mark_43 : decode cX9_mark 43 = .ok (.ifCond .eq 26, 3) := by decide +kernel
theorem dX9_mark_46 : decode cX9_mark 46 = .ok (.aload 4, 2) := by decide +kernel
theorem dX9_mark_48 : decode cX9_mark 48 = .ok (.checkcast 112, 3) := by decide +kernel
theorem dX9_mark_51 : decode cX9_mark 51 = .ok (.astore 5, 2) := by decide +kernel
theorem dX9_mark_53 : decode cX9_mark 53 = .ok (.aload 5, 2) := by decide +kernel
theorem dX9_mark_55 : decode cX9_mark 55 = .ok (.iload_n 2, 1) := by decide +kernel
theorem dX9_mark_56 : decode cX9_mark 56 = .ok (.iload_n 3, 1) := by decide +kernel
theorem dX9_mark_57 : decode cX9_mark 57 = .ok (.invokevirtual 114, 3) := by decide +kernel
theorem dX9_mark_60 : decode cX9_mark 60 = .ok (.ifCond .eq 7, 3) := by decide +kernel
theorem dX9_mark_63 : decode cX9_mark 63 = .ok (.iconst 1, 1) := by decide +kernel
theorem dX9_mark_64 : decode cX9_mark 64 = .ok (.goto 4, 3) := by decide +kernel
theorem dX9_mark_67 : decode cX9_mark 67 = .ok (.iconst 0, 1) := by decide +kernel
theorem dX9_mark_68 : decode cX9_mark 68 = .ok (.ireturn, 1) := by decide +kernel
theorem dX9_mark_69 : decode cX9_mark 69 = .ok (.bipush (-4), 2) := by decide +kernel
theorem dX9_mark_71 : decode cX9_mark 71 = .ok (.ireturn, 1) := by decide +kernel
def chX9_told : List (List Cond) := [wsX9_told_r1, wsX9_told_r2, wsX10, wsX30, wsX40, wsX50, wsX90, wsX00]
set_option maxRecDepth 20000 in
theorem chX9_told_in : ∀ c ∈ chX9_told, ∀ w ∈ c, w ∈ wsX9_told := (all_c (P := fun c => ∀ w ∈ c, w ∈ wsX9_told) (fun w h => List.mem_cons_of_mem _ (List.mem_append_left _ (List.mem_append_left _ (List.mem_append_left _ (List.mem_append_left _ (List.mem_append_left _ (List.mem_append_left _ (List.mem_append_left _ (h))))))))) (all_c (P := fun c => ∀ w ∈ c, w ∈ wsX9_told) (fun w h => List.mem_cons_of_mem _ (List.mem_append_left _ (List.mem_append_left _ (List.mem_append_left _ (List.mem_append_left _ (List.mem_append_left _ (List.mem_append_left _ (List.mem_append_right _ (h))))))))) (all_c (P := fun c => ∀ w ∈ c, w ∈ wsX9_told) (fun w h => List.mem_cons_of_mem _ (List.mem_append_left _ (List.mem_append_left _ (List.mem_append_left _ (List.mem_append_left _ (List.mem_append_left _ (List.mem_append_right _ (h)))))))) (all_c (P := fun c => ∀ w ∈ c, w ∈ wsX9_told) (fun w h => List.mem_cons_of_mem _ (List.mem_append_left _ (List.mem_append_left _ (List.mem_append_left _ (List.mem_append_left _ (List.mem_append_right _ (h))))))) (all_c (P := fun c => ∀ w ∈ c, w ∈ wsX9_told) (fun w h => List.mem_cons_of_mem _ (List.mem_append_left _ (List.mem_append_left _ (List.mem_append_left _ (List.mem_append_right _ (h)))))) (all_c (P := fun c => ∀ w ∈ c, w ∈ wsX9_told) (fun w h => List.mem_cons_of_mem _ (List.mem_append_left _ (List.mem_append_left _ (List.mem_append_right _ (h))))) (all_c (P := fun c => ∀ w ∈ c, w ∈ wsX9_told) (fun w h => List.mem_cons_of_mem _ (List.mem_append_left _ (List.mem_append_right _ (h)))) (all_c (P := fun c => ∀ w ∈ c, w ∈ wsX9_told) (fun w h => List.mem_cons_of_mem _ (List.mem_append_right _ (h))) (fun _ h => nomatch h)))))))))
set_option maxRecDepth 20000 in
theorem ggX9_told_X9_jobOf : GoodIn wsX9_told wsX9_jobOf := goodIn_c chX9_told chX9_told_in _ [(0, 5), (0, 6), (0, 7), (6, 0), (6, 1), (6, 2), (6, 3), (6, 4), (6, 5), (6, 6), (6, 7), (6, 8)] (by rfl) (by decide +kernel)
set_option maxRecDepth 20000 in
theorem gX9_told_X9_jobOf : GoodIn wsX9_told (wsV RX9 61 RX9 yX9_jobOf wsX9_jobOf) := goodIn_app (goodIn_of _ (by decide +kernel)) ggX9_told_X9_jobOf
set_option maxRecDepth 20000 in
theorem ggX9_told_X9_isWay : GoodIn wsX9_told wsX9_isWay := goodIn_r _ [11] (by decide +kernel) (by decide +kernel)
set_option maxRecDepth 20000 in
theorem gX9_told_X9_isWay : GoodIn wsX9_told (va_wsS RX9 76 yX9_isWay wsX9_isWay) := goodIn_app (goodIn_of _ (by decide +kernel)) ggX9_told_X9_isWay
set_option maxRecDepth 20000 in
theorem ggX9_told_X0_lineCount : GoodIn wsX9_told wsX0_lineCount := goodIn_c chX9_told chX9_told_in _ [(0, 15), (0, 16), (0, 17), (7, 0), (7, 1), (7, 2), (7, 3), (7, 4), (7, 5), (7, 6), (7, 7)] (by rfl) (by decide +kernel)
set_option maxRecDepth 20000 in
theorem gX9_told_X0_lineCount : GoodIn wsX9_told (wsV RX9 117 RX0 yX0_lineCount wsX0_lineCount) := goodIn_app (goodIn_of _ (by decide +kernel)) ggX9_told_X0_lineCount
set_option maxRecDepth 20000 in
theorem ggX9_told_X0_isLine : GoodIn wsX9_told wsX0_isLine := goodIn_c chX9_told chX9_told_in _ [(0, 21), (0, 22), (0, 12), (0, 13), (0, 14), (0, 15), (0, 16), (0, 17), (7, 0), (7, 1), (7, 2), (7, 3), (7, 4), (7, 5), (7, 6), (7, 7)] (by rfl) (by decide +kernel)
set_option maxRecDepth 20000 in
theorem gX9_told_X0_isLine : GoodIn wsX9_told (wsV RX9 68 RX0 yX0_isLine wsX0_isLine) := goodIn_app (goodIn_of _ (by decide +kernel)) ggX9_told_X0_isLine
set_option maxRecDepth 20000 in
theorem ggX9_told_X3_isTold : GoodIn wsX9_told wsX3_isTold := goodIn_c chX9_told chX9_told_in _ [(1, 4), (1, 5), (2, 0), (2, 1), (2, 2), (2, 3), (2, 4), (3, 0), (3, 1), (3, 2), (3, 3), (3, 4), (4, 0), (4, 1), (4, 2), (4, 3), (4, 4), (5, 0), (5, 1), (5, 2), (5, 3), (5, 4), (5, 5)] (by rfl) (by decide +kernel)
set_option maxRecDepth 20000 in
theorem gX9_told_X3_isTold_u94X1 : GoodIn wsX9_told (va_wsU RX9 94 RX1 "ShadowBench$Job" ⟨"ShadowBench$Job", "isTold", "(I)Z"⟩ yX3_isTold wsX3_isTold) := goodIn_app (goodIn_of _ (by decide +kernel)) ggX9_told_X3_isTold
set_option maxRecDepth 20000 in
theorem gX9_told_X3_isTold : GoodIn wsX9_told (wsV RX9 94 RX3 yX3_isTold wsX3_isTold) := goodIn_app (goodIn_of _ (by decide +kernel)) ggX9_told_X3_isTold
set_option maxRecDepth 20000 in
theorem gX9_told_X3_isTold_u94X4 : GoodIn wsX9_told (va_wsU RX9 94 RX4 "ShadowBench$Job" ⟨"ShadowBench$Job", "isTold", "(I)Z"⟩ yX3_isTold wsX3_isTold) := goodIn_app (goodIn_of _ (by decide +kernel)) ggX9_told_X3_isTold
set_option maxRecDepth 20000 in
theorem gX9_told_X3_isTold_u94X5 : GoodIn wsX9_told (va_wsU RX9 94 RX5 "ShadowBench$Job" ⟨"ShadowBench$Job", "isTold", "(I)Z"⟩ yX3_isTold wsX3_isTold) := goodIn_app (goodIn_of _ (by decide +kernel)) ggX9_told_X3_isTold
set_option maxRecDepth 20000 in
theorem ggX9_told_X3_sumOf : GoodIn wsX9_told wsX3_sumOf := goodIn_c chX9_told chX9_told_in _ [(1, 14), (1, 15), (2, 0), (2, 1), (2, 2), (2, 3), (2, 4), (3, 0), (3, 1), (3, 2), (3, 3), (3, 4), (4, 0), (4, 1), (4, 2), (4, 3), (4, 4), (5, 0), (5, 1), (5, 2), (5, 3), (5, 4), (5, 5)] (by rfl) (by decide +kernel)
set_option maxRecDepth 20000 in
theorem gX9_told_X3_sumOf_u120X1 : GoodIn wsX9_told (va_wsU RX9 120 RX1 "ShadowBench$Job" ⟨"ShadowBench$Job", "sumOf", "(II)I"⟩ yX3_sumOf wsX3_sumOf) := goodIn_app (goodIn_of _ (by decide +kernel)) ggX9_told_X3_sumOf
set_option maxRecDepth 20000 in
theorem gX9_told_X3_sumOf : GoodIn wsX9_told (wsV RX9 120 RX3 yX3_sumOf wsX3_sumOf) := goodIn_app (goodIn_of _ (by decide +kernel)) ggX9_told_X3_sumOf
set_option maxRecDepth 20000 in
theorem gX9_told_X3_sumOf_u120X4 : GoodIn wsX9_told (va_wsU RX9 120 RX4 "ShadowBench$Job" ⟨"ShadowBench$Job", "sumOf", "(II)I"⟩ yX3_sumOf wsX3_sumOf) := goodIn_app (goodIn_of _ (by decide +kernel)) ggX9_told_X3_sumOf
set_option maxRecDepth 20000 in
theorem gX9_told_X3_sumOf_u120X5 : GoodIn wsX9_told (va_wsU RX9 120 RX5 "ShadowBench$Job" ⟨"ShadowBench$Job", "sumOf", "(II)I"⟩ yX3_sumOf wsX3_sumOf) := goodIn_app (goodIn_of _ (by decide +kernel)) ggX9_told_X3_sumOf
theorem dX9_told_0 : decode cX9_told 0 = .ok (.aload_n 0, 1) := by decide +kernel
theorem dX9_told_1 : decode cX9_told 1 = .ok (.iload_n 1, 1) := by decide +kernel
theorem dX9_told_2 : decode cX9_told 2 = .ok (.invokevirtual 61, 3) := by decide +kernel
theorem dX9_told_5 : decode cX9_told 5 = .ok (.astore 4, 2) := by decide +kernel
theorem dX9_told_7 : decode cX9_told 7 = .ok (.aload 4, 2) := by decide +kernel
theorem dX9_told_9 : decode cX9_told 9 = .ok (.ifnull 10, 3) := by decide +kernel
theorem dX9_told_12 : decode cX9_told 12 = .ok (.iload_n 2, 1) := by decide +kernel
theorem dX9_told_13 : decode cX9_told 13 = .ok (.invokestatic 76, 3) := by decide +kernel
theorem dX9_told_16 : decode cX9_told 16 = .ok (.ifCond .ne 5, 3) := by decide +kernel
theorem dX9_told_19 : decode cX9_told 19 = .ok (.iconst (-1), 1) := by decide +kernel
theorem dX9_told_20 : decode cX9_told 20 = .ok (.ireturn, 1) := by decide +kernel
theorem dX9_told_21 : decode cX9_told 21 = .ok (.iload_n 3, 1) := by decide +kernel
theorem dX9_told_22 : decode cX9_told 22 = .ok (.iconst (-1), 1) := by decide +kernel
theorem dX9_told_23 : decode cX9_told 23 = .ok (.if_icmp .ne 13, 3) := by decide +kernel
theorem dX9_told_26 : decode cX9_told 26 = .ok (.aload 4, 2) := by decide +kernel
theorem dX9_told_28 : decode cX9_told 28 = .ok (.getfield 65, 3) := by decide +kernel
theorem dX9_told_31 : decode cX9_told 31 = .ok (.iload_n 2, 1) := by decide +kernel
theorem dX9_told_32 : decode cX9_told 32 = .ok (.invokevirtual 117, 3) := by decide +kernel
theorem dX9_told_35 : decode cX9_told 35 = .ok (.ireturn, 1) := by decide +kernel
theorem dX9_told_36 : decode cX9_told 36 = .ok (.aload 4, 2) := by decide +kernel
theorem dX9_told_38 : decode cX9_told 38 = .ok (.getfield 65, 3) := by decide +kernel
theorem dX9_told_41 : decode cX9_told 41 = .ok (.iload_n 2, 1) := by decide +kernel
theorem dX9_told_42 : decode cX9_told 42 = .ok (.iload_n 3, 1) := by decide +kernel
theorem dX9_told_43 : decode cX9_told 43 = .ok (.invokevirtual 68, 3) := by decide +kernel
theorem dX9_told_46 : decode cX9_told 46 = .ok (.ifCond .ne 5, 3) := by decide +kernel
theorem dX9_told_49 : decode cX9_told 49 = .ok (.iconst (-1), 1) := by decide +kernel
theorem dX9_told_50 : decode cX9_told 50 = .ok (.ireturn, 1) := by decide +kernel
theorem dX9_told_51 : decode cX9_told 51 = .ok (.aload 4, 2) := by decide +kernel
theorem dX9_told_53 : decode cX9_told 53 = .ok (.iload_n 2, 1) := by decide +kernel
theorem dX9_told_54 : decode cX9_told 54 = .ok (.invokevirtual 94, 3) := by decide +kernel
theorem dX9_told_57 : decode cX9_told 57 = .ok (.ifCond .eq 13, 3) := by decide +kernel
theorem dX9_told_60 : decode cX9_told 60 = .ok (.aload 4, 2) := by decide +kernel
theorem dX9_told_62 : decode cX9_told 62 = .ok (.iload_n 2, 1) := by decide +kernel
theorem dX9_told_63 : decode cX9_told 63 = .ok (.iload_n 3, 1) := by decide +kernel
theorem dX9_told_64 : decode cX9_told 64 = .ok (.invokevirtual 120, 3) := by decide +kernel
theorem dX9_told_67 : decode cX9_told 67 = .ok (.goto 5, 3) := by decide +kernel
theorem dX9_told_70 : decode cX9_told 70 = .ok (.bipush (-2), 2) := by decide +kernel
theorem dX9_told_72 : decode cX9_told 72 = .ok (.ireturn, 1) := by decide +kernel
def chX9_shadow : List (List Cond) := [wsX9_shadow_r1, wsX9_shadow_r2, wsX9_shadow_r3, wsX90, wsX00]
set_option maxRecDepth 20000 in
theorem chX9_shadow_in : ∀ c ∈ chX9_shadow, ∀ w ∈ c, w ∈ wsX9_shadow := (all_c (P := fun c => ∀ w ∈ c, w ∈ wsX9_shadow) (fun w h => List.mem_cons_of_mem _ (List.mem_append_left _ (List.mem_append_left _ (List.mem_append_left _ (h))))) (all_c (P := fun c => ∀ w ∈ c, w ∈ wsX9_shadow) (fun w h => List.mem_cons_of_mem _ (List.mem_append_left _ (List.mem_append_left _ (List.mem_append_right _ (List.mem_append_left _ (h)))))) (all_c (P := fun c => ∀ w ∈ c, w ∈ wsX9_shadow) (fun w h => List.mem_cons_of_mem _ (List.mem_append_left _ (List.mem_append_left _ (List.mem_append_right _ (List.mem_append_right _ (h)))))) (all_c (P := fun c => ∀ w ∈ c, w ∈ wsX9_shadow) (fun w h => List.mem_cons_of_mem _ (List.mem_append_left _ (List.mem_append_right _ (h)))) (all_c (P := fun c => ∀ w ∈ c, w ∈ wsX9_shadow) (fun w h => List.mem_cons_of_mem _ (List.mem_append_right _ (h))) (fun _ h => nomatch h))))))
set_option maxRecDepth 20000 in
theorem ggX9_shadow_X9_boardOf : GoodIn wsX9_shadow wsX9_boardOf := goodIn_c chX9_shadow chX9_shadow_in _ [(0, 4), (0, 5), (0, 6), (0, 7), (0, 8), (0, 9), (0, 10), (0, 11), (0, 12), (0, 13), (0, 14), (0, 15), (0, 16), (0, 17), (0, 18), (0, 19), (0, 20), (0, 21), (0, 22), (0, 23), (1, 0), (1, 1), (1, 2), (1, 3), (1, 4), (1, 5), (1, 6), (1, 7), (1, 8), (1, 9), (1, 10), (1, 11), (1, 12), (1, 13), (1, 14), (1, 15), (1, 16), (1, 17), (1, 18), (1, 19), (1, 20), (1, 21), (1, 22), (3, 0), (3, 1), (3, 2), (3, 3), (3, 4), (3, 5), (3, 6), (3, 7), (3, 8), (4, 0), (4, 1), (4, 2), (4, 3), (4, 4), (4, 5), (4, 6), (4, 7)] (by rfl) (by decide +kernel)
set_option maxRecDepth 20000 in
theorem gX9_shadow_X9_boardOf : GoodIn wsX9_shadow (wsV RX9 53 RX9 yX9_boardOf wsX9_boardOf) := goodIn_app (goodIn_of _ (by decide +kernel)) ggX9_shadow_X9_boardOf
set_option maxRecDepth 20000 in
theorem ggX9_shadow_X0_isPicture : GoodIn wsX9_shadow wsX0_isPicture := goodIn_c chX9_shadow chX9_shadow_in _ [(2, 2), (0, 19), (4, 0), (4, 1), (4, 2), (4, 3), (4, 4), (4, 5), (4, 6), (4, 7)] (by rfl) (by decide +kernel)
set_option maxRecDepth 20000 in
theorem gX9_shadow_X0_isPicture : GoodIn wsX9_shadow (wsV RX9 80 RX0 yX0_isPicture wsX0_isPicture) := goodIn_app (goodIn_of _ (by decide +kernel)) ggX9_shadow_X0_isPicture
set_option maxRecDepth 20000 in
theorem ggX9_shadow_X0_isLine : GoodIn wsX9_shadow wsX0_isLine := goodIn_c chX9_shadow chX9_shadow_in _ [(2, 6), (2, 7), (2, 8), (2, 9), (0, 8), (2, 10), (0, 18), (0, 17), (4, 0), (4, 1), (4, 2), (4, 3), (4, 4), (4, 5), (4, 6), (4, 7)] (by rfl) (by decide +kernel)
set_option maxRecDepth 20000 in
theorem gX9_shadow_X0_isLine : GoodIn wsX9_shadow (wsV RX9 68 RX0 yX0_isLine wsX0_isLine) := goodIn_app (goodIn_of _ (by decide +kernel)) ggX9_shadow_X0_isLine
set_option maxRecDepth 20000 in
theorem ggX9_shadow_X0_onesOfLine : GoodIn wsX9_shadow wsX0_onesOfLine := goodIn_c chX9_shadow chX9_shadow_in _ [(2, 14), (0, 16), (2, 15), (2, 16), (2, 17), (2, 18), (2, 19), (2, 20), (2, 21), (4, 0), (4, 1), (4, 2), (4, 3), (4, 4), (4, 5), (4, 6), (4, 7)] (by rfl) (by decide +kernel)
set_option maxRecDepth 20000 in
theorem gX9_shadow_X0_onesOfLine : GoodIn wsX9_shadow (wsV RX9 124 RX0 yX0_onesOfLine wsX0_onesOfLine) := goodIn_app (goodIn_of _ (by decide +kernel)) ggX9_shadow_X0_onesOfLine
theorem dX9_shadow_0 : decode cX9_shadow 0 = .ok (.aload_n 0, 1) := by decide +kernel
theorem dX9_shadow_1 : decode cX9_shadow 1 = .ok (.iload_n 1, 1) := by decide +kernel
theorem dX9_shadow_2 : decode cX9_shadow 2 = .ok (.iload_n 2, 1) := by decide +kernel
theorem dX9_shadow_3 : decode cX9_shadow 3 = .ok (.invokevirtual 53, 3) := by decide +kernel
theorem dX9_shadow_6 : decode cX9_shadow 6 = .ok (.astore 7, 2) := by decide +kernel
theorem dX9_shadow_8 : decode cX9_shadow 8 = .ok (.aload 7, 2) := by decide +kernel
theorem dX9_shadow_10 : decode cX9_shadow 10 = .ok (.ifnull 24, 3) := by decide +kernel
theorem dX9_shadow_13 : decode cX9_shadow 13 = .ok (.aload 7, 2) := by decide +kernel
theorem dX9_shadow_15 : decode cX9_shadow 15 = .ok (.lload_n 3, 1) := by decide +kernel
theorem dX9_shadow_16 : decode cX9_shadow 16 = .ok (.invokevirtual 80, 3) := by decide +kernel
theorem dX9_shadow_19 : decode cX9_shadow 19 = .ok (.ifCond .eq 15, 3) := by decide +kernel
theorem dX9_shadow_22 : decode cX9_shadow 22 = .ok (.aload 7, 2) := by decide +kernel
theorem dX9_shadow_24 : decode cX9_shadow 24 = .ok (.iload 5, 2) := by decide +kernel
theorem dX9_shadow_26 : decode cX9_shadow 26 = .ok (.iload 6, 2) := by decide +kernel
theorem dX9_shadow_28 : decode cX9_shadow 28 = .ok (.invokevirtual 68, 3) := by decide +kernel
theorem dX9_shadow_31 : decode cX9_shadow 31 = .ok (.ifCond .ne 5, 3) := by decide +kernel
theorem dX9_shadow_34 : decode cX9_shadow 34 = .ok (.iconst (-1), 1) := by decide +kernel
theorem dX9_shadow_35 : decode cX9_shadow 35 = .ok (.ireturn, 1) := by decide +kernel
theorem dX9_shadow_36 : decode cX9_shadow 36 = .ok (.aload 7, 2) := by decide +kernel
theorem dX9_shadow_38 : decode cX9_shadow 38 = .ok (.iload 5, 2) := by decide +kernel
theorem dX9_shadow_40 : decode cX9_shadow 40 = .ok (.iload 6, 2) := by decide +kernel
theorem dX9_shadow_42 : decode cX9_shadow 42 = .ok (.lload_n 3, 1) := by decide +kernel
theorem dX9_shadow_43 : decode cX9_shadow 43 = .ok (.invokevirtual 124, 3) := by decide +kernel
theorem dX9_shadow_46 : decode cX9_shadow 46 = .ok (.ireturn, 1) := by decide +kernel
def chX9_fits : List (List Cond) := [wsX9_fits_r1, wsX9_fits_r2, wsX9_fits_r3, wsX9_fits_r4, wsX9_fits_r5, wsX10, wsX30, wsX40, wsX50, wsX90, wsX00]
set_option maxRecDepth 20000 in
theorem chX9_fits_in : ∀ c ∈ chX9_fits, ∀ w ∈ c, w ∈ wsX9_fits := (all_c (P := fun c => ∀ w ∈ c, w ∈ wsX9_fits) (fun w h => List.mem_cons_of_mem _ (List.mem_append_left _ (List.mem_append_left _ (List.mem_append_left _ (List.mem_append_left _ (List.mem_append_left _ (List.mem_append_left _ (List.mem_append_left _ (h))))))))) (all_c (P := fun c => ∀ w ∈ c, w ∈ wsX9_fits) (fun w h => List.mem_cons_of_mem _ (List.mem_append_left _ (List.mem_append_left _ (List.mem_append_left _ (List.mem_append_left _ (List.mem_append_left _ (List.mem_append_left _ (List.mem_append_right _ (List.mem_append_left _ (h)))))))))) (all_c (P := fun c => ∀ w ∈ c, w ∈ wsX9_fits) (fun w h => List.mem_cons_of_mem _ (List.mem_append_left _ (List.mem_append_left _ (List.mem_append_left _ (List.mem_append_left _ (List.mem_append_left _ (List.mem_append_left _ (List.mem_append_right _ (List.mem_append_right _ (List.mem_append_left _ (h))))))))))) (all_c (P := fun c => ∀ w ∈ c, w ∈ wsX9_fits) (fun w h => List.mem_cons_of_mem _ (List.mem_append_left _ (List.mem_append_left _ (List.mem_append_left _ (List.mem_append_left _ (List.mem_append_left _ (List.mem_append_left _ (List.mem_append_right _ (List.mem_append_right _ (List.mem_append_right _ (List.mem_append_left _ (h)))))))))))) (all_c (P := fun c => ∀ w ∈ c, w ∈ wsX9_fits) (fun w h => List.mem_cons_of_mem _ (List.mem_append_left _ (List.mem_append_left _ (List.mem_append_left _ (List.mem_append_left _ (List.mem_append_left _ (List.mem_append_left _ (List.mem_append_right _ (List.mem_append_right _ (List.mem_append_right _ (List.mem_append_right _ (h)))))))))))) (all_c (P := fun c => ∀ w ∈ c, w ∈ wsX9_fits) (fun w h => List.mem_cons_of_mem _ (List.mem_append_left _ (List.mem_append_left _ (List.mem_append_left _ (List.mem_append_left _ (List.mem_append_left _ (List.mem_append_right _ (h)))))))) (all_c (P := fun c => ∀ w ∈ c, w ∈ wsX9_fits) (fun w h => List.mem_cons_of_mem _ (List.mem_append_left _ (List.mem_append_left _ (List.mem_append_left _ (List.mem_append_left _ (List.mem_append_right _ (h))))))) (all_c (P := fun c => ∀ w ∈ c, w ∈ wsX9_fits) (fun w h => List.mem_cons_of_mem _ (List.mem_append_left _ (List.mem_append_left _ (List.mem_append_left _ (List.mem_append_right _ (h)))))) (all_c (P := fun c => ∀ w ∈ c, w ∈ wsX9_fits) (fun w h => List.mem_cons_of_mem _ (List.mem_append_left _ (List.mem_append_left _ (List.mem_append_right _ (h))))) (all_c (P := fun c => ∀ w ∈ c, w ∈ wsX9_fits) (fun w h => List.mem_cons_of_mem _ (List.mem_append_left _ (List.mem_append_right _ (h)))) (all_c (P := fun c => ∀ w ∈ c, w ∈ wsX9_fits) (fun w h => List.mem_cons_of_mem _ (List.mem_append_right _ (h))) (fun _ h => nomatch h))))))))))))
set_option maxRecDepth 20000 in
theorem ggX9_fits_X9_jobOf : GoodIn wsX9_fits wsX9_jobOf := goodIn_c chX9_fits chX9_fits_in _ [(0, 5), (0, 6), (0, 7), (9, 0), (9, 1), (9, 2), (9, 3), (9, 4), (9, 5), (9, 6), (9, 7), (9, 8)] (by rfl) (by decide +kernel)
set_option maxRecDepth 20000 in
theorem gX9_fits_X9_jobOf : GoodIn wsX9_fits (wsV RX9 61 RX9 yX9_jobOf wsX9_jobOf) := goodIn_app (goodIn_of _ (by decide +kernel)) ggX9_fits_X9_jobOf
set_option maxRecDepth 20000 in
theorem ggX9_fits_X0_isPicture : GoodIn wsX9_fits wsX0_isPicture := goodIn_c chX9_fits chX9_fits_in _ [(0, 12), (0, 13), (10, 0), (10, 1), (10, 2), (10, 3), (10, 4), (10, 5), (10, 6), (10, 7)] (by rfl) (by decide +kernel)
set_option maxRecDepth 20000 in
theorem gX9_fits_X0_isPicture : GoodIn wsX9_fits (wsV RX9 80 RX0 yX0_isPicture wsX0_isPicture) := goodIn_app (goodIn_of _ (by decide +kernel)) ggX9_fits_X0_isPicture
set_option maxRecDepth 20000 in
theorem ggX9_fits_X3_admits : GoodIn wsX9_fits wsX3_admits := goodIn_c chX9_fits chX9_fits_in _ [(0, 19), (0, 20), (0, 21), (0, 22), (0, 23), (1, 0), (1, 1), (1, 2), (0, 18), (1, 3), (1, 4), (1, 5), (1, 6), (1, 7), (1, 8), (1, 9), (1, 10), (1, 11), (1, 12), (1, 13), (1, 14), (1, 15), (1, 16), (1, 17), (0, 11), (1, 18), (1, 19), (1, 20), (1, 21), (1, 22), (1, 23), (2, 0), (2, 1), (2, 2), (2, 3), (2, 4), (2, 5), (2, 6), (2, 7), (2, 8), (2, 9), (2, 10), (2, 11), (2, 12), (2, 13), (2, 14), (2, 15), (2, 16), (2, 17), (2, 18), (2, 19), (2, 20), (2, 21), (2, 22), (2, 23), (3, 0), (3, 1), (3, 2), (3, 3), (3, 4), (3, 5), (3, 6), (3, 7), (3, 8), (3, 9), (3, 10), (3, 11), (3, 12), (3, 13), (3, 14), (3, 15), (3, 16), (3, 17), (3, 18), (3, 19), (0, 13), (3, 20), (3, 21), (3, 22), (3, 23), (4, 0), (4, 1), (4, 2), (4, 3), (4, 4), (4, 5), (4, 6), (4, 7), (4, 8), (4, 9), (4, 10), (4, 11), (4, 12), (4, 13), (4, 14), (4, 15), (5, 0), (5, 1), (5, 2), (5, 3), (5, 4), (6, 0), (6, 1), (6, 2), (6, 3), (6, 4), (7, 0), (7, 1), (7, 2), (7, 3), (7, 4), (8, 0), (8, 1), (8, 2), (8, 3), (8, 4), (8, 5), (10, 0), (10, 1), (10, 2), (10, 3), (10, 4), (10, 5), (10, 6), (10, 7)] (by rfl) (by decide +kernel)
set_option maxRecDepth 20000 in
theorem gX9_fits_X3_admits_u128X1 : GoodIn wsX9_fits (va_wsU RX9 128 RX1 "ShadowBench$Job" ⟨"ShadowBench$Job", "admits", "(J)Z"⟩ yX3_admits wsX3_admits) := goodIn_app (goodIn_of _ (by decide +kernel)) ggX9_fits_X3_admits
set_option maxRecDepth 20000 in
theorem gX9_fits_X3_admits : GoodIn wsX9_fits (wsV RX9 128 RX3 yX3_admits wsX3_admits) := goodIn_app (goodIn_of _ (by decide +kernel)) ggX9_fits_X3_admits
set_option maxRecDepth 20000 in
theorem gX9_fits_X3_admits_u128X4 : GoodIn wsX9_fits (va_wsU RX9 128 RX4 "ShadowBench$Job" ⟨"ShadowBench$Job", "admits", "(J)Z"⟩ yX3_admits wsX3_admits) := goodIn_app (goodIn_of _ (by decide +kernel)) ggX9_fits_X3_admits
set_option maxRecDepth 20000 in
theorem gX9_fits_X3_admits_u128X5 : GoodIn wsX9_fits (va_wsU RX9 128 RX5 "ShadowBench$Job" ⟨"ShadowBench$Job", "admits", "(J)Z"⟩ yX3_admits wsX3_admits) := goodIn_app (goodIn_of _ (by decide +kernel)) ggX9_fits_X3_admits
theorem dX9_fits_0 : decode cX9_fits 0 = .ok (.aload_n 0, 1) := by decide +kernel
theorem dX9_fits_1 : decode cX9_fits 1 = .ok (.iload_n 1, 1) := by decide +kernel
theorem dX9_fits_2 : decode cX9_fits 2 = .ok (.invokevirtual 61, 3) := by decide +kernel
theorem dX9_fits_5 : decode cX9_fits 5 = .ok (.astore 4, 2) := by decide +kernel
theorem dX9_fits_7 : decode cX9_fits 7 = .ok (.aload 4, 2) := by decide +kernel
theorem dX9_fits_9 : decode cX9_fits 9 = .ok (.ifnull 15, 3) := by decide +kernel
theorem dX9_fits_12 : decode cX9_fits 12 = .ok (.aload 4, 2) := by decide +kernel
theorem dX9_fits_14 : decode cX9_fits 14 = .ok (.getfield 65, 3) := by decide +kernel
theorem dX9_fits_17 : decode cX9_fits 17 = .ok (.lload_n 2, 1) := by decide +kernel
theorem dX9_fits_18 : decode cX9_fits 18 = .ok (.invokevirtual 80, 3) := by decide +kernel
theorem dX9_fits_21 : decode cX9_fits 21 = .ok (.ifCond .ne 5, 3) := by decide +kernel
theorem dX9_fits_24 : decode cX9_fits 24 = .ok (.iconst (-1), 1) := by decide +kernel
theorem dX9_fits_25 : decode cX9_fits 25 = .ok (.ireturn, 1) := by decide +kernel
theorem dX9_fits_26 : decode cX9_fits 26 = .ok (.aload 4, 2) := by decide +kernel
theorem dX9_fits_28 : decode cX9_fits 28 = .ok (.lload_n 2, 1) := by decide +kernel
theorem dX9_fits_29 : decode cX9_fits 29 = .ok (.invokevirtual 128, 3) := by decide +kernel
theorem dX9_fits_32 : decode cX9_fits 32 = .ok (.ifCond .eq 7, 3) := by decide +kernel
theorem dX9_fits_35 : decode cX9_fits 35 = .ok (.iconst 1, 1) := by decide +kernel
theorem dX9_fits_36 : decode cX9_fits 36 = .ok (.goto 4, 3) := by decide +kernel
theorem dX9_fits_39 : decode cX9_fits 39 = .ok (.iconst 0, 1) := by decide +kernel
theorem dX9_fits_40 : decode cX9_fits 40 = .ok (.ireturn, 1) := by decide +kernel
def chX9_count : List (List Cond) := [wsX9_count_r1, wsX9_count_r2, wsX9_count_r3, wsX9_count_r4, wsX9_count_r5, wsX9_count_r6, wsX9_count_r7, wsX9_count_r8, wsX9_count_r9, wsX90, wsX80, wsX10, wsX30, wsX40, wsX50, wsX00]
set_option maxRecDepth 20000 in
theorem chX9_count_in : ∀ c ∈ chX9_count, ∀ w ∈ c, w ∈ wsX9_count := (all_c (P := fun c => ∀ w ∈ c, w ∈ wsX9_count) (fun w h => List.mem_cons_of_mem _ (List.mem_append_left _ (List.mem_append_left _ (List.mem_append_left _ (List.mem_append_left _ (List.mem_append_left _ (List.mem_append_left _ (List.mem_append_left _ (List.mem_append_left _ (h)))))))))) (all_c (P := fun c => ∀ w ∈ c, w ∈ wsX9_count) (fun w h => List.mem_cons_of_mem _ (List.mem_append_left _ (List.mem_append_left _ (List.mem_append_left _ (List.mem_append_left _ (List.mem_append_left _ (List.mem_append_left _ (List.mem_append_left _ (List.mem_append_right _ (List.mem_append_left _ (h))))))))))) (all_c (P := fun c => ∀ w ∈ c, w ∈ wsX9_count) (fun w h => List.mem_cons_of_mem _ (List.mem_append_left _ (List.mem_append_left _ (List.mem_append_left _ (List.mem_append_left _ (List.mem_append_left _ (List.mem_append_left _ (List.mem_append_left _ (List.mem_append_right _ (List.mem_append_right _ (List.mem_append_left _ (h)))))))))))) (all_c (P := fun c => ∀ w ∈ c, w ∈ wsX9_count) (fun w h => List.mem_cons_of_mem _ (List.mem_append_left _ (List.mem_append_left _ (List.mem_append_left _ (List.mem_append_left _ (List.mem_append_left _ (List.mem_append_left _ (List.mem_append_left _ (List.mem_append_right _ (List.mem_append_right _ (List.mem_append_right _ (List.mem_append_left _ (h))))))))))))) (all_c (P := fun c => ∀ w ∈ c, w ∈ wsX9_count) (fun w h => List.mem_cons_of_mem _ (List.mem_append_left _ (List.mem_append_left _ (List.mem_append_left _ (List.mem_append_left _ (List.mem_append_left _ (List.mem_append_left _ (List.mem_append_left _ (List.mem_append_right _ (List.mem_append_right _ (List.mem_append_right _ (List.mem_append_right _ (List.mem_append_left _ (h)))))))))))))) (all_c (P := fun c => ∀ w ∈ c, w ∈ wsX9_count) (fun w h => List.mem_cons_of_mem _ (List.mem_append_left _ (List.mem_append_left _ (List.mem_append_left _ (List.mem_append_left _ (List.mem_append_left _ (List.mem_append_left _ (List.mem_append_left _ (List.mem_append_right _ (List.mem_append_right _ (List.mem_append_right _ (List.mem_append_right _ (List.mem_append_right _ (List.mem_append_left _ (h))))))))))))))) (all_c (P := fun c => ∀ w ∈ c, w ∈ wsX9_count) (fun w h => List.mem_cons_of_mem _ (List.mem_append_left _ (List.mem_append_left _ (List.mem_append_left _ (List.mem_append_left _ (List.mem_append_left _ (List.mem_append_left _ (List.mem_append_left _ (List.mem_append_right _ (List.mem_append_right _ (List.mem_append_right _ (List.mem_append_right _ (List.mem_append_right _ (List.mem_append_right _ (List.mem_append_left _ (h)))))))))))))))) (all_c (P := fun c => ∀ w ∈ c, w ∈ wsX9_count) (fun w h => List.mem_cons_of_mem _ (List.mem_append_left _ (List.mem_append_left _ (List.mem_append_left _ (List.mem_append_left _ (List.mem_append_left _ (List.mem_append_left _ (List.mem_append_left _ (List.mem_append_right _ (List.mem_append_right _ (List.mem_append_right _ (List.mem_append_right _ (List.mem_append_right _ (List.mem_append_right _ (List.mem_append_right _ (List.mem_append_left _ (h))))))))))))))))) (all_c (P := fun c => ∀ w ∈ c, w ∈ wsX9_count) (fun w h => List.mem_cons_of_mem _ (List.mem_append_left _ (List.mem_append_left _ (List.mem_append_left _ (List.mem_append_left _ (List.mem_append_left _ (List.mem_append_left _ (List.mem_append_left _ (List.mem_append_right _ (List.mem_append_right _ (List.mem_append_right _ (List.mem_append_right _ (List.mem_append_right _ (List.mem_append_right _ (List.mem_append_right _ (List.mem_append_right _ (h))))))))))))))))) (all_c (P := fun c => ∀ w ∈ c, w ∈ wsX9_count) (fun w h => List.mem_cons_of_mem _ (List.mem_append_left _ (List.mem_append_left _ (List.mem_append_left _ (List.mem_append_left _ (List.mem_append_left _ (List.mem_append_left _ (List.mem_append_right _ (h))))))))) (all_c (P := fun c => ∀ w ∈ c, w ∈ wsX9_count) (fun w h => List.mem_cons_of_mem _ (List.mem_append_left _ (List.mem_append_left _ (List.mem_append_left _ (List.mem_append_left _ (List.mem_append_left _ (List.mem_append_right _ (h)))))))) (all_c (P := fun c => ∀ w ∈ c, w ∈ wsX9_count) (fun w h => List.mem_cons_of_mem _ (List.mem_append_left _ (List.mem_append_left _ (List.mem_append_left _ (List.mem_append_left _ (List.mem_append_right _ (h))))))) (all_c (P := fun c => ∀ w ∈ c, w ∈ wsX9_count) (fun w h => List.mem_cons_of_mem _ (List.mem_append_left _ (List.mem_append_left _ (List.mem_append_left _ (List.mem_append_right _ (h)))))) (all_c (P := fun c => ∀ w ∈ c, w ∈ wsX9_count) (fun w h => List.mem_cons_of_mem _ (List.mem_append_left _ (List.mem_append_left _ (List.mem_append_right _ (h))))) (all_c (P := fun c => ∀ w ∈ c, w ∈ wsX9_count) (fun w h => List.mem_cons_of_mem _ (List.mem_append_left _ (List.mem_append_right _ (h)))) (all_c (P := fun c => ∀ w ∈ c, w ∈ wsX9_count) (fun w h => List.mem_cons_of_mem _ (List.mem_append_right _ (h))) (fun _ h => nomatch h)))))))))))))))))
set_option maxRecDepth 20000 in
theorem ggX9_count_X9_jobOf : GoodIn wsX9_count wsX9_jobOf := goodIn_c chX9_count chX9_count_in _ [(0, 6), (0, 7), (0, 8), (9, 0), (9, 1), (9, 2), (9, 3), (9, 4), (9, 5), (9, 6), (9, 7), (9, 8)] (by rfl) (by decide +kernel)
set_option maxRecDepth 20000 in
theorem gX9_count_X9_jobOf : GoodIn wsX9_count (wsV RX9 61 RX9 yX9_jobOf wsX9_jobOf) := goodIn_app (goodIn_of _ (by decide +kernel)) ggX9_count_X9_jobOf
set_option maxRecDepth 20000 in
theorem ggX9_count_X8_start : GoodIn wsX9_count wsX8_start := goodIn_c chX9_count chX9_count_in _ [(0, 13), (0, 14), (0, 15), (0, 16), (0, 17), (0, 18), (0, 19), (0, 20), (0, 12), (0, 21), (0, 22), (0, 23), (1, 0), (1, 1), (1, 2), (1, 3), (1, 4), (1, 5), (1, 6), (1, 7), (1, 8), (1, 9), (1, 10), (1, 11), (1, 12), (1, 13), (1, 14), (1, 15), (1, 16), (1, 17), (1, 18), (1, 19), (1, 20), (1, 21), (1, 22), (1, 23), (2, 0), (2, 1), (2, 2), (2, 3), (2, 4), (2, 5), (2, 6), (2, 7), (2, 8), (2, 9), (2, 10), (2, 11), (2, 12), (2, 13), (2, 14), (2, 15), (2, 16), (2, 17), (2, 18), (2, 19), (2, 20), (2, 21), (2, 22), (2, 23), (3, 0), (3, 1), (3, 2), (3, 3), (3, 4), (3, 5), (3, 6), (3, 7), (3, 8), (3, 9), (3, 10), (3, 11), (3, 12), (3, 13), (3, 14), (3, 15), (3, 16), (3, 17), (3, 18), (3, 19), (3, 20), (3, 21), (3, 22), (3, 23), (4, 0), (10, 0), (10, 1), (10, 2), (10, 3), (10, 4), (10, 5), (10, 6), (10, 7), (10, 8), (10, 9), (11, 0), (11, 1), (11, 2), (11, 3), (11, 4), (12, 0), (12, 1), (12, 2), (12, 3), (12, 4), (13, 0), (13, 1), (13, 2), (13, 3), (13, 4), (14, 0), (14, 1), (14, 2), (14, 3), (14, 4), (14, 5), (15, 0), (15, 1), (15, 2), (15, 3), (15, 4), (15, 5), (15, 6), (15, 7)] (by rfl) (by decide +kernel)
set_option maxRecDepth 20000 in
theorem gX9_count_X8_start : GoodIn wsX9_count (wsV RX9 131 RX8 yX8_start wsX8_start) := goodIn_app (goodIn_of _ (by decide +kernel)) ggX9_count_X8_start
set_option maxRecDepth 20000 in
theorem ggX9_count_X8_advance : GoodIn wsX9_count wsX8_advance := goodIn_c chX9_count chX9_count_in _ [(4, 4), (4, 5), (0, 16), (0, 22), (1, 4), (1, 5), (1, 6), (0, 12), (1, 7), (0, 14), (1, 8), (1, 9), (4, 6), (4, 7), (4, 8), (4, 9), (4, 10), (0, 23), (0, 15), (4, 11), (1, 2), (1, 1), (1, 0), (4, 12), (4, 13), (4, 14), (4, 15), (4, 16), (4, 17), (4, 18), (4, 19), (4, 20), (4, 21), (4, 22), (1, 3), (4, 23), (0, 17), (0, 18), (0, 19), (0, 20), (0, 21), (1, 10), (1, 11), (1, 12), (1, 13), (1, 14), (1, 15), (1, 16), (1, 17), (1, 18), (1, 19), (1, 20), (1, 21), (1, 22), (1, 23), (2, 0), (2, 1), (2, 2), (2, 3), (2, 4), (2, 5), (2, 6), (2, 7), (2, 8), (2, 9), (2, 10), (2, 11), (2, 12), (2, 13), (2, 14), (2, 15), (2, 16), (2, 17), (2, 18), (2, 19), (2, 20), (2, 21), (2, 22), (2, 23), (3, 0), (3, 1), (3, 2), (3, 3), (3, 4), (3, 5), (3, 6), (3, 7), (3, 8), (3, 9), (3, 10), (3, 11), (3, 12), (3, 13), (3, 14), (3, 15), (3, 16), (3, 17), (3, 18), (3, 19), (3, 20), (3, 21), (3, 22), (3, 23), (4, 0), (5, 0), (5, 1), (5, 2), (5, 3), (5, 4), (5, 5), (5, 6), (5, 7), (5, 8), (5, 9), (5, 10), (5, 11), (5, 12), (5, 13), (5, 14), (5, 15), (5, 16), (5, 17), (5, 18), (5, 19), (5, 20), (5, 21), (5, 22), (5, 23), (6, 0), (6, 1), (6, 2), (6, 3), (6, 4), (6, 5), (6, 6), (6, 7), (6, 8), (6, 9), (6, 10), (6, 11), (6, 12), (6, 13), (6, 14), (6, 15), (6, 16), (6, 17), (6, 18), (6, 19), (6, 20), (6, 21), (6, 22), (6, 23), (7, 0), (7, 1), (7, 2), (7, 3), (7, 4), (7, 5), (7, 6), (7, 7), (7, 8), (7, 9), (7, 10), (7, 11), (7, 12), (7, 13), (7, 14), (7, 15), (7, 16), (7, 17), (7, 18), (7, 19), (7, 20), (7, 21), (7, 22), (7, 23), (10, 0), (10, 1), (10, 2), (10, 3), (10, 4), (10, 5), (10, 6), (10, 7), (10, 8), (10, 9), (11, 0), (11, 1), (11, 2), (11, 3), (11, 4), (12, 0), (12, 1), (12, 2), (12, 3), (12, 4), (13, 0), (13, 1), (13, 2), (13, 3), (13, 4), (14, 0), (14, 1), (14, 2), (14, 3), (14, 4), (14, 5), (15, 0), (15, 1), (15, 2), (15, 3), (15, 4), (15, 5), (15, 6), (15, 7)] (by rfl) (by decide +kernel)
set_option maxRecDepth 20000 in
theorem gX9_count_X8_advance : GoodIn wsX9_count (wsV RX9 136 RX8 yX8_advance wsX8_advance) := goodIn_app (goodIn_of _ (by decide +kernel)) ggX9_count_X8_advance
set_option maxRecDepth 20000 in
theorem ggX9_count_X8_isSpent : GoodIn wsX9_count wsX8_isSpent := goodIn_c chX9_count chX9_count_in _ [(8, 3), (0, 16), (10, 0), (10, 1), (10, 2), (10, 3), (10, 4), (10, 5), (10, 6), (10, 7), (10, 8), (10, 9)] (by rfl) (by decide +kernel)
set_option maxRecDepth 20000 in
theorem gX9_count_X8_isSpent : GoodIn wsX9_count (wsV RX9 140 RX8 yX8_isSpent wsX8_isSpent) := goodIn_app (goodIn_of _ (by decide +kernel)) ggX9_count_X8_isSpent
theorem dX9_count_0 : decode cX9_count 0 = .ok (.aload_n 0, 1) := by decide +kernel
theorem dX9_count_1 : decode cX9_count 1 = .ok (.iload_n 1, 1) := by decide +kernel
theorem dX9_count_2 : decode cX9_count 2 = .ok (.invokevirtual 61, 3) := by decide +kernel
theorem dX9_count_5 : decode cX9_count 5 = .ok (.astore_n 2, 1) := by decide +kernel
theorem dX9_count_6 : decode cX9_count 6 = .ok (.aload_n 2, 1) := by decide +kernel
theorem dX9_count_7 : decode cX9_count 7 = .ok (.ifnonnull 5, 3) := by decide +kernel
theorem dX9_count_10 : decode cX9_count 10 = .ok (.iconst (-1), 1) := by decide +kernel
theorem dX9_count_11 : decode cX9_count 11 = .ok (.ireturn, 1) := by decide +kernel
theorem dX9_count_12 : decode cX9_count 12 = .ok (.aload_n 0, 1) := by decide +kernel
theorem dX9_count_13 : decode cX9_count 13 = .ok (.getfield 34, 3) := by decide +kernel
theorem dX9_count_16 : decode cX9_count 16 = .ok (.aload_n 2, 1) := by decide +kernel
theorem dX9_count_17 : decode cX9_count 17 = .ok (.invokevirtual 131, 3) := by decide +kernel
theorem dX9_count_20 : decode cX9_count 20 = .ok (.iconst 0, 1) := by decide +kernel
theorem dX9_count_21 : decode cX9_count 21 = .ok (.istore_n 3, 1) := by decide +kernel
theorem dX9_count_22 : decode cX9_count 22 = .ok (.iload_n 3, 1) := by decide +kernel
theorem dX9_count_23 : decode cX9_count 23 = .ok (.ldc 135, 2) := by decide +kernel
theorem dX9_count_25 : decode cX9_count 25 = .ok (.if_icmp .ge 19, 3) := by decide +kernel
theorem dX9_count_28 : decode cX9_count 28 = .ok (.aload_n 0, 1) := by decide +kernel
theorem dX9_count_29 : decode cX9_count 29 = .ok (.getfield 34, 3) := by decide +kernel
theorem dX9_count_32 : decode cX9_count 32 = .ok (.invokevirtual 136, 3) := by decide +kernel
theorem dX9_count_35 : decode cX9_count 35 = .ok (.ifCond .eq 9, 3) := by decide +kernel
theorem dX9_count_38 : decode cX9_count 38 = .ok (.iinc 3 1, 3) := by decide +kernel
theorem dX9_count_41 : decode cX9_count 41 = .ok (.goto (-19), 3) := by decide +kernel
theorem dX9_count_44 : decode cX9_count 44 = .ok (.aload_n 0, 1) := by decide +kernel
theorem dX9_count_45 : decode cX9_count 45 = .ok (.getfield 34, 3) := by decide +kernel
theorem dX9_count_48 : decode cX9_count 48 = .ok (.invokevirtual 140, 3) := by decide +kernel
theorem dX9_count_51 : decode cX9_count 51 = .ok (.ifCond .eq 8, 3) := by decide +kernel
theorem dX9_count_54 : decode cX9_count 54 = .ok (.bipush (-5), 2) := by decide +kernel
theorem dX9_count_56 : decode cX9_count 56 = .ok (.goto 4, 3) := by decide +kernel
theorem dX9_count_59 : decode cX9_count 59 = .ok (.iload_n 3, 1) := by decide +kernel
theorem dX9_count_60 : decode cX9_count 60 = .ok (.ireturn, 1) := by decide +kernel
def chX9_find : List (List Cond) := [wsX9_find_r1, wsX9_find_r2, wsX9_find_r3, wsX9_find_r4, wsX9_find_r5, wsX9_find_r6, wsX9_find_r7, wsX9_find_r8, wsX9_find_r9, wsX90, wsX80, wsX10, wsX30, wsX40, wsX50, wsX00]
set_option maxRecDepth 20000 in
theorem chX9_find_in : ∀ c ∈ chX9_find, ∀ w ∈ c, w ∈ wsX9_find := (all_c (P := fun c => ∀ w ∈ c, w ∈ wsX9_find) (fun w h => List.mem_cons_of_mem _ (List.mem_append_left _ (List.mem_append_left _ (List.mem_append_left _ (List.mem_append_left _ (List.mem_append_left _ (List.mem_append_left _ (List.mem_append_left _ (List.mem_append_left _ (h)))))))))) (all_c (P := fun c => ∀ w ∈ c, w ∈ wsX9_find) (fun w h => List.mem_cons_of_mem _ (List.mem_append_left _ (List.mem_append_left _ (List.mem_append_left _ (List.mem_append_left _ (List.mem_append_left _ (List.mem_append_left _ (List.mem_append_left _ (List.mem_append_right _ (List.mem_append_left _ (h))))))))))) (all_c (P := fun c => ∀ w ∈ c, w ∈ wsX9_find) (fun w h => List.mem_cons_of_mem _ (List.mem_append_left _ (List.mem_append_left _ (List.mem_append_left _ (List.mem_append_left _ (List.mem_append_left _ (List.mem_append_left _ (List.mem_append_left _ (List.mem_append_right _ (List.mem_append_right _ (List.mem_append_left _ (h)))))))))))) (all_c (P := fun c => ∀ w ∈ c, w ∈ wsX9_find) (fun w h => List.mem_cons_of_mem _ (List.mem_append_left _ (List.mem_append_left _ (List.mem_append_left _ (List.mem_append_left _ (List.mem_append_left _ (List.mem_append_left _ (List.mem_append_left _ (List.mem_append_right _ (List.mem_append_right _ (List.mem_append_right _ (List.mem_append_left _ (h))))))))))))) (all_c (P := fun c => ∀ w ∈ c, w ∈ wsX9_find) (fun w h => List.mem_cons_of_mem _ (List.mem_append_left _ (List.mem_append_left _ (List.mem_append_left _ (List.mem_append_left _ (List.mem_append_left _ (List.mem_append_left _ (List.mem_append_left _ (List.mem_append_right _ (List.mem_append_right _ (List.mem_append_right _ (List.mem_append_right _ (List.mem_append_left _ (h)))))))))))))) (all_c (P := fun c => ∀ w ∈ c, w ∈ wsX9_find) (fun w h => List.mem_cons_of_mem _ (List.mem_append_left _ (List.mem_append_left _ (List.mem_append_left _ (List.mem_append_left _ (List.mem_append_left _ (List.mem_append_left _ (List.mem_append_left _ (List.mem_append_right _ (List.mem_append_right _ (List.mem_append_right _ (List.mem_append_right _ (List.mem_append_right _ (List.mem_append_left _ (h))))))))))))))) (all_c (P := fun c => ∀ w ∈ c, w ∈ wsX9_find) (fun w h => List.mem_cons_of_mem _ (List.mem_append_left _ (List.mem_append_left _ (List.mem_append_left _ (List.mem_append_left _ (List.mem_append_left _ (List.mem_append_left _ (List.mem_append_left _ (List.mem_append_right _ (List.mem_append_right _ (List.mem_append_right _ (List.mem_append_right _ (List.mem_append_right _ (List.mem_append_right _ (List.mem_append_left _ (h)))))))))))))))) (all_c (P := fun c => ∀ w ∈ c, w ∈ wsX9_find) (fun w h => List.mem_cons_of_mem _ (List.mem_append_left _ (List.mem_append_left _ (List.mem_append_left _ (List.mem_append_left _ (List.mem_append_left _ (List.mem_append_left _ (List.mem_append_left _ (List.mem_append_right _ (List.mem_append_right _ (List.mem_append_right _ (List.mem_append_right _ (List.mem_append_right _ (List.mem_append_right _ (List.mem_append_right _ (List.mem_append_left _ (h))))))))))))))))) (all_c (P := fun c => ∀ w ∈ c, w ∈ wsX9_find) (fun w h => List.mem_cons_of_mem _ (List.mem_append_left _ (List.mem_append_left _ (List.mem_append_left _ (List.mem_append_left _ (List.mem_append_left _ (List.mem_append_left _ (List.mem_append_left _ (List.mem_append_right _ (List.mem_append_right _ (List.mem_append_right _ (List.mem_append_right _ (List.mem_append_right _ (List.mem_append_right _ (List.mem_append_right _ (List.mem_append_right _ (h))))))))))))))))) (all_c (P := fun c => ∀ w ∈ c, w ∈ wsX9_find) (fun w h => List.mem_cons_of_mem _ (List.mem_append_left _ (List.mem_append_left _ (List.mem_append_left _ (List.mem_append_left _ (List.mem_append_left _ (List.mem_append_left _ (List.mem_append_right _ (h))))))))) (all_c (P := fun c => ∀ w ∈ c, w ∈ wsX9_find) (fun w h => List.mem_cons_of_mem _ (List.mem_append_left _ (List.mem_append_left _ (List.mem_append_left _ (List.mem_append_left _ (List.mem_append_left _ (List.mem_append_right _ (h)))))))) (all_c (P := fun c => ∀ w ∈ c, w ∈ wsX9_find) (fun w h => List.mem_cons_of_mem _ (List.mem_append_left _ (List.mem_append_left _ (List.mem_append_left _ (List.mem_append_left _ (List.mem_append_right _ (h))))))) (all_c (P := fun c => ∀ w ∈ c, w ∈ wsX9_find) (fun w h => List.mem_cons_of_mem _ (List.mem_append_left _ (List.mem_append_left _ (List.mem_append_left _ (List.mem_append_right _ (h)))))) (all_c (P := fun c => ∀ w ∈ c, w ∈ wsX9_find) (fun w h => List.mem_cons_of_mem _ (List.mem_append_left _ (List.mem_append_left _ (List.mem_append_right _ (h))))) (all_c (P := fun c => ∀ w ∈ c, w ∈ wsX9_find) (fun w h => List.mem_cons_of_mem _ (List.mem_append_left _ (List.mem_append_right _ (h)))) (all_c (P := fun c => ∀ w ∈ c, w ∈ wsX9_find) (fun w h => List.mem_cons_of_mem _ (List.mem_append_right _ (h))) (fun _ h => nomatch h)))))))))))))))))
set_option maxRecDepth 20000 in
theorem ggX9_find_X9_jobOf : GoodIn wsX9_find wsX9_jobOf := goodIn_c chX9_find chX9_find_in _ [(0, 9), (0, 10), (0, 11), (9, 0), (9, 1), (9, 2), (9, 3), (9, 4), (9, 5), (9, 6), (9, 7), (9, 8)] (by rfl) (by decide +kernel)
set_option maxRecDepth 20000 in
theorem gX9_find_X9_jobOf : GoodIn wsX9_find (wsV RX9 61 RX9 yX9_jobOf wsX9_jobOf) := goodIn_app (goodIn_of _ (by decide +kernel)) ggX9_find_X9_jobOf
set_option maxRecDepth 20000 in
theorem ggX9_find_X8_start : GoodIn wsX9_find wsX8_start := goodIn_c chX9_find chX9_find_in _ [(0, 16), (0, 17), (0, 18), (0, 19), (0, 20), (0, 21), (0, 22), (0, 23), (0, 15), (1, 0), (1, 1), (1, 2), (1, 3), (1, 4), (1, 5), (1, 6), (1, 7), (1, 8), (1, 9), (1, 10), (1, 11), (1, 12), (1, 13), (1, 14), (1, 15), (1, 16), (1, 17), (1, 18), (1, 19), (1, 20), (1, 21), (1, 22), (1, 23), (2, 0), (2, 1), (2, 2), (2, 3), (2, 4), (2, 5), (2, 6), (2, 7), (2, 8), (2, 9), (2, 10), (2, 11), (2, 12), (2, 13), (2, 14), (2, 15), (2, 16), (2, 17), (2, 18), (2, 19), (2, 20), (2, 21), (2, 22), (2, 23), (3, 0), (3, 1), (3, 2), (3, 3), (3, 4), (3, 5), (3, 6), (3, 7), (3, 8), (3, 9), (3, 10), (3, 11), (3, 12), (3, 13), (3, 14), (3, 15), (3, 16), (3, 17), (3, 18), (3, 19), (3, 20), (3, 21), (3, 22), (3, 23), (4, 0), (4, 1), (4, 2), (4, 3), (10, 0), (10, 1), (10, 2), (10, 3), (10, 4), (10, 5), (10, 6), (10, 7), (10, 8), (10, 9), (11, 0), (11, 1), (11, 2), (11, 3), (11, 4), (12, 0), (12, 1), (12, 2), (12, 3), (12, 4), (13, 0), (13, 1), (13, 2), (13, 3), (13, 4), (14, 0), (14, 1), (14, 2), (14, 3), (14, 4), (14, 5), (15, 0), (15, 1), (15, 2), (15, 3), (15, 4), (15, 5), (15, 6), (15, 7)] (by rfl) (by decide +kernel)
set_option maxRecDepth 20000 in
theorem gX9_find_X8_start : GoodIn wsX9_find (wsV RX9 131 RX8 yX8_start wsX8_start) := goodIn_app (goodIn_of _ (by decide +kernel)) ggX9_find_X8_start
set_option maxRecDepth 20000 in
theorem ggX9_find_X8_advance : GoodIn wsX9_find wsX8_advance := goodIn_c chX9_find chX9_find_in _ [(4, 7), (4, 8), (0, 19), (1, 1), (1, 7), (1, 8), (1, 9), (0, 15), (1, 10), (0, 17), (1, 11), (1, 12), (4, 9), (4, 10), (4, 11), (4, 12), (4, 13), (1, 2), (0, 18), (4, 14), (1, 5), (1, 4), (1, 3), (4, 15), (4, 16), (4, 17), (4, 18), (4, 19), (4, 20), (4, 21), (4, 22), (4, 23), (5, 0), (5, 1), (1, 6), (5, 2), (0, 20), (0, 21), (0, 22), (0, 23), (1, 0), (1, 13), (1, 14), (1, 15), (1, 16), (1, 17), (1, 18), (1, 19), (1, 20), (1, 21), (1, 22), (1, 23), (2, 0), (2, 1), (2, 2), (2, 3), (2, 4), (2, 5), (2, 6), (2, 7), (2, 8), (2, 9), (2, 10), (2, 11), (2, 12), (2, 13), (2, 14), (2, 15), (2, 16), (2, 17), (2, 18), (2, 19), (2, 20), (2, 21), (2, 22), (2, 23), (3, 0), (3, 1), (3, 2), (3, 3), (3, 4), (3, 5), (3, 6), (3, 7), (3, 8), (3, 9), (3, 10), (3, 11), (3, 12), (3, 13), (3, 14), (3, 15), (3, 16), (3, 17), (3, 18), (3, 19), (3, 20), (3, 21), (3, 22), (3, 23), (4, 0), (4, 1), (4, 2), (4, 3), (5, 3), (5, 4), (5, 5), (5, 6), (5, 7), (5, 8), (5, 9), (5, 10), (5, 11), (5, 12), (5, 13), (5, 14), (5, 15), (5, 16), (5, 17), (5, 18), (5, 19), (5, 20), (5, 21), (5, 22), (5, 23), (6, 0), (6, 1), (6, 2), (6, 3), (6, 4), (6, 5), (6, 6), (6, 7), (6, 8), (6, 9), (6, 10), (6, 11), (6, 12), (6, 13), (6, 14), (6, 15), (6, 16), (6, 17), (6, 18), (6, 19), (6, 20), (6, 21), (6, 22), (6, 23), (7, 0), (7, 1), (7, 2), (7, 3), (7, 4), (7, 5), (7, 6), (7, 7), (7, 8), (7, 9), (7, 10), (7, 11), (7, 12), (7, 13), (7, 14), (7, 15), (7, 16), (7, 17), (7, 18), (7, 19), (7, 20), (7, 21), (7, 22), (7, 23), (8, 0), (8, 1), (8, 2), (10, 0), (10, 1), (10, 2), (10, 3), (10, 4), (10, 5), (10, 6), (10, 7), (10, 8), (10, 9), (11, 0), (11, 1), (11, 2), (11, 3), (11, 4), (12, 0), (12, 1), (12, 2), (12, 3), (12, 4), (13, 0), (13, 1), (13, 2), (13, 3), (13, 4), (14, 0), (14, 1), (14, 2), (14, 3), (14, 4), (14, 5), (15, 0), (15, 1), (15, 2), (15, 3), (15, 4), (15, 5), (15, 6), (15, 7)] (by rfl) (by decide +kernel)
set_option maxRecDepth 20000 in
theorem gX9_find_X8_advance : GoodIn wsX9_find (wsV RX9 136 RX8 yX8_advance wsX8_advance) := goodIn_app (goodIn_of _ (by decide +kernel)) ggX9_find_X8_advance
set_option maxRecDepth 20000 in
theorem ggX9_find_X8_found : GoodIn wsX9_find wsX8_found := goodIn_c chX9_find chX9_find_in _ [(8, 6), (0, 20), (10, 0), (10, 1), (10, 2), (10, 3), (10, 4), (10, 5), (10, 6), (10, 7), (10, 8), (10, 9)] (by rfl) (by decide +kernel)
set_option maxRecDepth 20000 in
theorem gX9_find_X8_found : GoodIn wsX9_find (wsV RX9 145 RX8 yX8_found wsX8_found) := goodIn_app (goodIn_of _ (by decide +kernel)) ggX9_find_X8_found
set_option maxRecDepth 20000 in
theorem ggX9_find_X8_isSpent : GoodIn wsX9_find wsX8_isSpent := goodIn_c chX9_find chX9_find_in _ [(8, 10), (0, 19), (10, 0), (10, 1), (10, 2), (10, 3), (10, 4), (10, 5), (10, 6), (10, 7), (10, 8), (10, 9)] (by rfl) (by decide +kernel)
set_option maxRecDepth 20000 in
theorem gX9_find_X8_isSpent : GoodIn wsX9_find (wsV RX9 140 RX8 yX8_isSpent wsX8_isSpent) := goodIn_app (goodIn_of _ (by decide +kernel)) ggX9_find_X8_isSpent
theorem dX9_find_0 : decode cX9_find 0 = .ok (.aload_n 0, 1) := by decide +kernel
theorem dX9_find_1 : decode cX9_find 1 = .ok (.iload_n 1, 1) := by decide +kernel
theorem dX9_find_2 : decode cX9_find 2 = .ok (.invokevirtual 61, 3) := by decide +kernel
theorem dX9_find_5 : decode cX9_find 5 = .ok (.astore_n 3, 1) := by decide +kernel
theorem dX9_find_6 : decode cX9_find 6 = .ok (.aload_n 3, 1) := by decide +kernel
theorem dX9_find_7 : decode cX9_find 7 = .ok (.ifnull 7, 3) := by decide +kernel
theorem dX9_find_10 : decode cX9_find 10 = .ok (.iload_n 2, 1) := by decide +kernel
theorem dX9_find_11 : decode cX9_find 11 = .ok (.ifCond .ge 7, 3) := by decide +kernel
theorem dX9_find_14 : decode cX9_find 14 = .ok (.ldc2_w 143, 3) := by decide +kernel
theorem dX9_find_17 : decode cX9_find 17 = .ok (.lreturn, 1) := by decide +kernel
theorem dX9_find_18 : decode cX9_find 18 = .ok (.aload_n 0, 1) := by decide +kernel
theorem dX9_find_19 : decode cX9_find 19 = .ok (.getfield 34, 3) := by decide +kernel
theorem dX9_find_22 : decode cX9_find 22 = .ok (.aload_n 3, 1) := by decide +kernel
theorem dX9_find_23 : decode cX9_find 23 = .ok (.invokevirtual 131, 3) := by decide +kernel
theorem dX9_find_26 : decode cX9_find 26 = .ok (.iconst 0, 1) := by decide +kernel
theorem dX9_find_27 : decode cX9_find 27 = .ok (.istore 4, 2) := by decide +kernel
theorem dX9_find_29 : decode cX9_find 29 = .ok (.iload 4, 2) := by decide +kernel
theorem dX9_find_31 : decode cX9_find 31 = .ok (.ldc 135, 2) := by decide +kernel
theorem dX9_find_33 : decode cX9_find 33 = .ok (.if_icmp .ge 33, 3) := by decide +kernel
theorem dX9_find_36 : decode cX9_find 36 = .ok (.aload_n 0, 1) := by decide +kernel
theorem dX9_find_37 : decode cX9_find 37 = .ok (.getfield 34, 3) := by decide +kernel
theorem dX9_find_40 : decode cX9_find 40 = .ok (.invokevirtual 136, 3) := by decide +kernel
theorem dX9_find_43 : decode cX9_find 43 = .ok (.ifCond .eq 23, 3) := by decide +kernel
theorem dX9_find_46 : decode cX9_find 46 = .ok (.iload 4, 2) := by decide +kernel
theorem dX9_find_48 : decode cX9_find 48 = .ok (.iload_n 2, 1) := by decide +kernel
theorem dX9_find_49 : decode cX9_find 49 = .ok (.if_icmp .ne 11, 3) := by decide +kernel
theorem dX9_find_52 : decode cX9_find 52 = .ok (.aload_n 0, 1) := by decide +kernel
theorem dX9_find_53 : decode cX9_find 53 = .ok (.getfield 34, 3) := by decide +kernel
theorem dX9_find_56 : decode cX9_find 56 = .ok (.invokevirtual 145, 3) := by decide +kernel
theorem dX9_find_59 : decode cX9_find 59 = .ok (.lreturn, 1) := by decide +kernel
theorem dX9_find_60 : decode cX9_find 60 = .ok (.iinc 4 1, 3) := by decide +kernel
theorem dX9_find_63 : decode cX9_find 63 = .ok (.goto (-34), 3) := by decide +kernel
theorem dX9_find_66 : decode cX9_find 66 = .ok (.aload_n 0, 1) := by decide +kernel
theorem dX9_find_67 : decode cX9_find 67 = .ok (.getfield 34, 3) := by decide +kernel
theorem dX9_find_70 : decode cX9_find 70 = .ok (.invokevirtual 140, 3) := by decide +kernel
theorem dX9_find_73 : decode cX9_find 73 = .ok (.ifCond .eq 9, 3) := by decide +kernel
theorem dX9_find_76 : decode cX9_find 76 = .ok (.ldc2_w 149, 3) := by decide +kernel
theorem dX9_find_79 : decode cX9_find 79 = .ok (.goto 6, 3) := by decide +kernel
theorem dX9_find_82 : decode cX9_find 82 = .ok (.ldc2_w 151, 3) := by decide +kernel
theorem dX9_find_85 : decode cX9_find 85 = .ok (.lreturn, 1) := by decide +kernel
def chX9_rank : List (List Cond) := [wsX9_rank_r1, wsX9_rank_r2, wsX9_rank_r3, wsX9_rank_r4, wsX9_rank_r5, wsX9_rank_r6, wsX9_rank_r7, wsX9_rank_r8, wsX9_rank_r9, wsX10, wsX30, wsX40, wsX50, wsX90, wsX00, wsX80]
set_option maxRecDepth 20000 in
theorem chX9_rank_in : ∀ c ∈ chX9_rank, ∀ w ∈ c, w ∈ wsX9_rank := (all_c (P := fun c => ∀ w ∈ c, w ∈ wsX9_rank) (fun w h => List.mem_cons_of_mem _ (List.mem_append_left _ (List.mem_append_left _ (List.mem_append_left _ (List.mem_append_left _ (List.mem_append_left _ (List.mem_append_left _ (List.mem_append_left _ (List.mem_append_left _ (h)))))))))) (all_c (P := fun c => ∀ w ∈ c, w ∈ wsX9_rank) (fun w h => List.mem_cons_of_mem _ (List.mem_append_left _ (List.mem_append_left _ (List.mem_append_left _ (List.mem_append_left _ (List.mem_append_left _ (List.mem_append_left _ (List.mem_append_left _ (List.mem_append_right _ (List.mem_append_left _ (h))))))))))) (all_c (P := fun c => ∀ w ∈ c, w ∈ wsX9_rank) (fun w h => List.mem_cons_of_mem _ (List.mem_append_left _ (List.mem_append_left _ (List.mem_append_left _ (List.mem_append_left _ (List.mem_append_left _ (List.mem_append_left _ (List.mem_append_left _ (List.mem_append_right _ (List.mem_append_right _ (List.mem_append_left _ (h)))))))))))) (all_c (P := fun c => ∀ w ∈ c, w ∈ wsX9_rank) (fun w h => List.mem_cons_of_mem _ (List.mem_append_left _ (List.mem_append_left _ (List.mem_append_left _ (List.mem_append_left _ (List.mem_append_left _ (List.mem_append_left _ (List.mem_append_left _ (List.mem_append_right _ (List.mem_append_right _ (List.mem_append_right _ (List.mem_append_left _ (h))))))))))))) (all_c (P := fun c => ∀ w ∈ c, w ∈ wsX9_rank) (fun w h => List.mem_cons_of_mem _ (List.mem_append_left _ (List.mem_append_left _ (List.mem_append_left _ (List.mem_append_left _ (List.mem_append_left _ (List.mem_append_left _ (List.mem_append_left _ (List.mem_append_right _ (List.mem_append_right _ (List.mem_append_right _ (List.mem_append_right _ (List.mem_append_left _ (h)))))))))))))) (all_c (P := fun c => ∀ w ∈ c, w ∈ wsX9_rank) (fun w h => List.mem_cons_of_mem _ (List.mem_append_left _ (List.mem_append_left _ (List.mem_append_left _ (List.mem_append_left _ (List.mem_append_left _ (List.mem_append_left _ (List.mem_append_left _ (List.mem_append_right _ (List.mem_append_right _ (List.mem_append_right _ (List.mem_append_right _ (List.mem_append_right _ (List.mem_append_left _ (h))))))))))))))) (all_c (P := fun c => ∀ w ∈ c, w ∈ wsX9_rank) (fun w h => List.mem_cons_of_mem _ (List.mem_append_left _ (List.mem_append_left _ (List.mem_append_left _ (List.mem_append_left _ (List.mem_append_left _ (List.mem_append_left _ (List.mem_append_left _ (List.mem_append_right _ (List.mem_append_right _ (List.mem_append_right _ (List.mem_append_right _ (List.mem_append_right _ (List.mem_append_right _ (List.mem_append_left _ (h)))))))))))))))) (all_c (P := fun c => ∀ w ∈ c, w ∈ wsX9_rank) (fun w h => List.mem_cons_of_mem _ (List.mem_append_left _ (List.mem_append_left _ (List.mem_append_left _ (List.mem_append_left _ (List.mem_append_left _ (List.mem_append_left _ (List.mem_append_left _ (List.mem_append_right _ (List.mem_append_right _ (List.mem_append_right _ (List.mem_append_right _ (List.mem_append_right _ (List.mem_append_right _ (List.mem_append_right _ (List.mem_append_left _ (h))))))))))))))))) (all_c (P := fun c => ∀ w ∈ c, w ∈ wsX9_rank) (fun w h => List.mem_cons_of_mem _ (List.mem_append_left _ (List.mem_append_left _ (List.mem_append_left _ (List.mem_append_left _ (List.mem_append_left _ (List.mem_append_left _ (List.mem_append_left _ (List.mem_append_right _ (List.mem_append_right _ (List.mem_append_right _ (List.mem_append_right _ (List.mem_append_right _ (List.mem_append_right _ (List.mem_append_right _ (List.mem_append_right _ (h))))))))))))))))) (all_c (P := fun c => ∀ w ∈ c, w ∈ wsX9_rank) (fun w h => List.mem_cons_of_mem _ (List.mem_append_left _ (List.mem_append_left _ (List.mem_append_left _ (List.mem_append_left _ (List.mem_append_left _ (List.mem_append_left _ (List.mem_append_right _ (h))))))))) (all_c (P := fun c => ∀ w ∈ c, w ∈ wsX9_rank) (fun w h => List.mem_cons_of_mem _ (List.mem_append_left _ (List.mem_append_left _ (List.mem_append_left _ (List.mem_append_left _ (List.mem_append_left _ (List.mem_append_right _ (h)))))))) (all_c (P := fun c => ∀ w ∈ c, w ∈ wsX9_rank) (fun w h => List.mem_cons_of_mem _ (List.mem_append_left _ (List.mem_append_left _ (List.mem_append_left _ (List.mem_append_left _ (List.mem_append_right _ (h))))))) (all_c (P := fun c => ∀ w ∈ c, w ∈ wsX9_rank) (fun w h => List.mem_cons_of_mem _ (List.mem_append_left _ (List.mem_append_left _ (List.mem_append_left _ (List.mem_append_right _ (h)))))) (all_c (P := fun c => ∀ w ∈ c, w ∈ wsX9_rank) (fun w h => List.mem_cons_of_mem _ (List.mem_append_left _ (List.mem_append_left _ (List.mem_append_right _ (h))))) (all_c (P := fun c => ∀ w ∈ c, w ∈ wsX9_rank) (fun w h => List.mem_cons_of_mem _ (List.mem_append_left _ (List.mem_append_right _ (h)))) (all_c (P := fun c => ∀ w ∈ c, w ∈ wsX9_rank) (fun w h => List.mem_cons_of_mem _ (List.mem_append_right _ (h))) (fun _ h => nomatch h)))))))))))))))))
set_option maxRecDepth 20000 in
theorem ggX9_rank_X9_jobOf : GoodIn wsX9_rank wsX9_jobOf := goodIn_c chX9_rank chX9_rank_in _ [(0, 7), (0, 8), (0, 9), (13, 0), (13, 1), (13, 2), (13, 3), (13, 4), (13, 5), (13, 6), (13, 7), (13, 8)] (by rfl) (by decide +kernel)
set_option maxRecDepth 20000 in
theorem gX9_rank_X9_jobOf : GoodIn wsX9_rank (wsV RX9 61 RX9 yX9_jobOf wsX9_jobOf) := goodIn_app (goodIn_of _ (by decide +kernel)) ggX9_rank_X9_jobOf
set_option maxRecDepth 20000 in
theorem ggX9_rank_X0_isPicture : GoodIn wsX9_rank wsX0_isPicture := goodIn_c chX9_rank chX9_rank_in _ [(0, 14), (0, 15), (14, 0), (14, 1), (14, 2), (14, 3), (14, 4), (14, 5), (14, 6), (14, 7)] (by rfl) (by decide +kernel)
set_option maxRecDepth 20000 in
theorem gX9_rank_X0_isPicture : GoodIn wsX9_rank (wsV RX9 80 RX0 yX0_isPicture wsX0_isPicture) := goodIn_app (goodIn_of _ (by decide +kernel)) ggX9_rank_X0_isPicture
set_option maxRecDepth 20000 in
theorem ggX9_rank_X3_admits : GoodIn wsX9_rank wsX3_admits := goodIn_c chX9_rank chX9_rank_in _ [(0, 21), (0, 22), (0, 23), (1, 0), (1, 1), (1, 2), (1, 3), (1, 4), (0, 20), (1, 5), (1, 6), (1, 7), (1, 8), (1, 9), (1, 10), (1, 11), (1, 12), (1, 13), (1, 14), (1, 15), (1, 16), (1, 17), (1, 18), (1, 19), (0, 13), (1, 20), (1, 21), (1, 22), (1, 23), (2, 0), (2, 1), (2, 2), (2, 3), (2, 4), (2, 5), (2, 6), (2, 7), (2, 8), (2, 9), (2, 10), (2, 11), (2, 12), (2, 13), (2, 14), (2, 15), (2, 16), (2, 17), (2, 18), (2, 19), (2, 20), (2, 21), (2, 22), (2, 23), (3, 0), (3, 1), (3, 2), (3, 3), (3, 4), (3, 5), (3, 6), (3, 7), (3, 8), (3, 9), (3, 10), (3, 11), (3, 12), (3, 13), (3, 14), (3, 15), (3, 16), (3, 17), (3, 18), (3, 19), (3, 20), (3, 21), (0, 15), (3, 22), (3, 23), (4, 0), (4, 1), (4, 2), (4, 3), (4, 4), (4, 5), (4, 6), (4, 7), (4, 8), (4, 9), (4, 10), (4, 11), (4, 12), (4, 13), (4, 14), (4, 15), (4, 16), (4, 17), (9, 0), (9, 1), (9, 2), (9, 3), (9, 4), (10, 0), (10, 1), (10, 2), (10, 3), (10, 4), (11, 0), (11, 1), (11, 2), (11, 3), (11, 4), (12, 0), (12, 1), (12, 2), (12, 3), (12, 4), (12, 5), (14, 0), (14, 1), (14, 2), (14, 3), (14, 4), (14, 5), (14, 6), (14, 7)] (by rfl) (by decide +kernel)
set_option maxRecDepth 20000 in
theorem gX9_rank_X3_admits_u128X1 : GoodIn wsX9_rank (va_wsU RX9 128 RX1 "ShadowBench$Job" ⟨"ShadowBench$Job", "admits", "(J)Z"⟩ yX3_admits wsX3_admits) := goodIn_app (goodIn_of _ (by decide +kernel)) ggX9_rank_X3_admits
set_option maxRecDepth 20000 in
theorem gX9_rank_X3_admits : GoodIn wsX9_rank (wsV RX9 128 RX3 yX3_admits wsX3_admits) := goodIn_app (goodIn_of _ (by decide +kernel)) ggX9_rank_X3_admits
set_option maxRecDepth 20000 in
theorem gX9_rank_X3_admits_u128X4 : GoodIn wsX9_rank (va_wsU RX9 128 RX4 "ShadowBench$Job" ⟨"ShadowBench$Job", "admits", "(J)Z"⟩ yX3_admits wsX3_admits) := goodIn_app (goodIn_of _ (by decide +kernel)) ggX9_rank_X3_admits
set_option maxRecDepth 20000 in
theorem gX9_rank_X3_admits_u128X5 : GoodIn wsX9_rank (va_wsU RX9 128 RX5 "ShadowBench$Job" ⟨"ShadowBench$Job", "admits", "(J)Z"⟩ yX3_admits wsX3_admits) := goodIn_app (goodIn_of _ (by decide +kernel)) ggX9_rank_X3_admits
set_option maxRecDepth 20000 in
theorem ggX9_rank_X8_start : GoodIn wsX9_rank wsX8_start := goodIn_c chX9_rank chX9_rank_in _ [(5, 2), (5, 3), (5, 4), (5, 5), (5, 6), (5, 7), (5, 8), (5, 9), (5, 1), (5, 10), (5, 11), (5, 12), (5, 13), (5, 14), (5, 15), (5, 16), (5, 17), (5, 18), (5, 19), (5, 20), (5, 21), (5, 22), (5, 23), (2, 12), (2, 13), (2, 14), (0, 20), (2, 15), (2, 16), (6, 0), (2, 18), (2, 19), (2, 20), (6, 1), (6, 2), (6, 3), (6, 4), (6, 5), (1, 6), (1, 0), (6, 6), (4, 4), (4, 5), (0, 13), (4, 6), (1, 22), (4, 7), (6, 7), (6, 8), (6, 9), (6, 10), (6, 11), (6, 12), (6, 13), (6, 14), (6, 15), (0, 22), (6, 16), (6, 17), (6, 18), (6, 19), (6, 20), (6, 21), (6, 22), (6, 23), (7, 0), (7, 1), (1, 23), (2, 0), (2, 1), (2, 2), (2, 3), (2, 4), (2, 5), (2, 6), (2, 7), (2, 8), (2, 9), (2, 10), (2, 11), (2, 17), (7, 2), (7, 3), (7, 4), (7, 5), (15, 0), (15, 1), (15, 2), (15, 3), (15, 4), (15, 5), (15, 6), (15, 7), (15, 8), (15, 9), (9, 0), (9, 1), (9, 2), (9, 3), (9, 4), (10, 0), (10, 1), (10, 2), (10, 3), (10, 4), (11, 0), (11, 1), (11, 2), (11, 3), (11, 4), (12, 0), (12, 1), (12, 2), (12, 3), (12, 4), (12, 5), (14, 0), (14, 1), (14, 2), (14, 3), (14, 4), (14, 5), (14, 6), (14, 7)] (by rfl) (by decide +kernel)
set_option maxRecDepth 20000 in
theorem gX9_rank_X8_start : GoodIn wsX9_rank (wsV RX9 131 RX8 yX8_start wsX8_start) := goodIn_app (goodIn_of _ (by decide +kernel)) ggX9_rank_X8_start
set_option maxRecDepth 20000 in
theorem ggX9_rank_X8_advance : GoodIn wsX9_rank wsX8_advance := goodIn_c chX9_rank chX9_rank_in _ [(7, 9), (7, 10), (5, 5), (5, 11), (5, 17), (5, 18), (5, 19), (5, 1), (5, 20), (5, 3), (5, 21), (5, 22), (7, 11), (7, 12), (7, 13), (7, 14), (7, 15), (5, 12), (5, 4), (7, 16), (5, 15), (5, 14), (5, 13), (7, 17), (7, 18), (7, 19), (7, 20), (7, 21), (7, 22), (7, 23), (8, 0), (8, 1), (8, 2), (8, 3), (5, 16), (8, 4), (5, 6), (5, 7), (5, 8), (5, 9), (5, 10), (5, 23), (2, 12), (2, 13), (2, 14), (0, 20), (2, 15), (2, 16), (6, 0), (2, 18), (2, 19), (2, 20), (6, 1), (6, 2), (6, 3), (6, 4), (6, 5), (1, 6), (1, 0), (6, 6), (4, 4), (4, 5), (0, 13), (4, 6), (1, 22), (4, 7), (6, 7), (6, 8), (6, 9), (6, 10), (6, 11), (6, 12), (6, 13), (6, 14), (6, 15), (0, 22), (6, 16), (6, 17), (6, 18), (6, 19), (6, 20), (6, 21), (6, 22), (6, 23), (7, 0), (7, 1), (1, 23), (2, 0), (2, 1), (2, 2), (2, 3), (2, 4), (2, 5), (2, 6), (2, 7), (2, 8), (2, 9), (2, 10), (2, 11), (2, 17), (7, 2), (7, 3), (7, 4), (7, 5), (8, 5), (0, 17), (0, 18), (0, 19), (0, 21), (0, 23), (1, 1), (1, 2), (1, 3), (1, 4), (1, 5), (1, 7), (1, 8), (1, 9), (1, 10), (1, 11), (1, 12), (1, 13), (1, 14), (1, 15), (1, 16), (1, 17), (1, 18), (1, 19), (1, 20), (1, 21), (2, 21), (2, 22), (2, 23), (3, 0), (3, 1), (3, 2), (3, 3), (3, 4), (3, 5), (3, 6), (3, 7), (3, 8), (3, 9), (3, 10), (3, 11), (3, 12), (3, 13), (3, 14), (3, 15), (3, 16), (3, 17), (3, 18), (3, 19), (3, 20), (3, 21), (0, 15), (3, 22), (3, 23), (4, 0), (4, 1), (4, 2), (4, 3), (4, 8), (4, 9), (4, 10), (4, 11), (4, 12), (4, 13), (4, 14), (4, 15), (4, 16), (4, 17), (8, 6), (4, 19), (4, 20), (4, 21), (15, 0), (15, 1), (15, 2), (15, 3), (15, 4), (15, 5), (15, 6), (15, 7), (15, 8), (15, 9), (9, 0), (9, 1), (9, 2), (9, 3), (9, 4), (10, 0), (10, 1), (10, 2), (10, 3), (10, 4), (11, 0), (11, 1), (11, 2), (11, 3), (11, 4), (12, 0), (12, 1), (12, 2), (12, 3), (12, 4), (12, 5), (14, 0), (14, 1), (14, 2), (14, 3), (14, 4), (14, 5), (14, 6), (14, 7)] (by rfl) (by decide +kernel)
set_option maxRecDepth 20000 in
theorem gX9_rank_X8_advance : GoodIn wsX9_rank (wsV RX9 136 RX8 yX8_advance wsX8_advance) := goodIn_app (goodIn_of _ (by decide +kernel)) ggX9_rank_X8_advance
set_option maxRecDepth 20000 in
theorem ggX9_rank_X8_found : GoodIn wsX9_rank wsX8_found := goodIn_c chX9_rank chX9_rank_in _ [(8, 10), (5, 6), (15, 0), (15, 1), (15, 2), (15, 3), (15, 4), (15, 5), (15, 6), (15, 7), (15, 8), (15, 9)] (by rfl) (by decide +kernel)
set_option maxRecDepth 20000 in
theorem gX9_rank_X8_found : GoodIn wsX9_rank (wsV RX9 145 RX8 yX8_found wsX8_found) := goodIn_app (goodIn_of _ (by decide +kernel)) ggX9_rank_X8_found
theorem dX9_rank_0 : decode cX9_rank 0 = .ok (.aload_n 0, 1) := by decide +kernel
theorem dX9_rank_1 : decode cX9_rank 1 = .ok (.iload_n 1, 1) := by decide +kernel
theorem dX9_rank_2 : decode cX9_rank 2 = .ok (.invokevirtual 61, 3) := by decide +kernel
theorem dX9_rank_5 : decode cX9_rank 5 = .ok (.astore 4, 2) := by decide +kernel
theorem dX9_rank_7 : decode cX9_rank 7 = .ok (.aload 4, 2) := by decide +kernel
theorem dX9_rank_9 : decode cX9_rank 9 = .ok (.ifnull 15, 3) := by decide +kernel
theorem dX9_rank_12 : decode cX9_rank 12 = .ok (.aload 4, 2) := by decide +kernel
theorem dX9_rank_14 : decode cX9_rank 14 = .ok (.getfield 65, 3) := by decide +kernel
theorem dX9_rank_17 : decode cX9_rank 17 = .ok (.lload_n 2, 1) := by decide +kernel
theorem dX9_rank_18 : decode cX9_rank 18 = .ok (.invokevirtual 80, 3) := by decide +kernel
theorem dX9_rank_21 : decode cX9_rank 21 = .ok (.ifCond .ne 5, 3) := by decide +kernel
theorem dX9_rank_24 : decode cX9_rank 24 = .ok (.iconst (-1), 1) := by decide +kernel
theorem dX9_rank_25 : decode cX9_rank 25 = .ok (.ireturn, 1) := by decide +kernel
theorem dX9_rank_26 : decode cX9_rank 26 = .ok (.aload 4, 2) := by decide +kernel
theorem dX9_rank_28 : decode cX9_rank 28 = .ok (.lload_n 2, 1) := by decide +kernel
theorem dX9_rank_29 : decode cX9_rank 29 = .ok (.invokevirtual 128, 3) := by decide +kernel
theorem dX9_rank_32 : decode cX9_rank 32 = .ok (.ifCond .ne 6, 3) := by decide +kernel
theorem dX9_rank_35 : decode cX9_rank 35 = .ok (.bipush (-2), 2) := by decide +kernel
theorem dX9_rank_37 : decode cX9_rank 37 = .ok (.ireturn, 1) := by decide +kernel
theorem dX9_rank_38 : decode cX9_rank 38 = .ok (.aload_n 0, 1) := by decide +kernel
theorem dX9_rank_39 : decode cX9_rank 39 = .ok (.getfield 34, 3) := by decide +kernel
theorem dX9_rank_42 : decode cX9_rank 42 = .ok (.aload 4, 2) := by decide +kernel
theorem dX9_rank_44 : decode cX9_rank 44 = .ok (.invokevirtual 131, 3) := by decide +kernel
theorem dX9_rank_47 : decode cX9_rank 47 = .ok (.iconst 0, 1) := by decide +kernel
theorem dX9_rank_48 : decode cX9_rank 48 = .ok (.istore 5, 2) := by decide +kernel
theorem dX9_rank_50 : decode cX9_rank 50 = .ok (.iload 5, 2) := by decide +kernel
theorem dX9_rank_52 : decode cX9_rank 52 = .ok (.ldc 135, 2) := by decide +kernel
theorem dX9_rank_54 : decode cX9_rank 54 = .ok (.if_icmp .ge 34, 3) := by decide +kernel
theorem dX9_rank_57 : decode cX9_rank 57 = .ok (.aload_n 0, 1) := by decide +kernel
theorem dX9_rank_58 : decode cX9_rank 58 = .ok (.getfield 34, 3) := by decide +kernel
theorem dX9_rank_61 : decode cX9_rank 61 = .ok (.invokevirtual 136, 3) := by decide +kernel
theorem dX9_rank_64 : decode cX9_rank 64 = .ok (.ifCond .eq 24, 3) := by decide +kernel
theorem dX9_rank_67 : decode cX9_rank 67 = .ok (.aload_n 0, 1) := by decide +kernel
theorem dX9_rank_68 : decode cX9_rank 68 = .ok (.getfield 34, 3) := by decide +kernel
theorem dX9_rank_71 : decode cX9_rank 71 = .ok (.invokevirtual 145, 3) := by decide +kernel
theorem dX9_rank_74 : decode cX9_rank 74 = .ok (.lload_n 2, 1) := by decide +kernel
theorem dX9_rank_75 : decode cX9_rank 75 = .ok (.lcmp, 1) := by decide +kernel
theorem dX9_rank_76 : decode cX9_rank 76 = .ok (.ifCond .ne 6, 3) := by decide +kernel
theorem dX9_rank_79 : decode cX9_rank 79 = .ok (.iload 5, 2) := by decide +kernel
theorem dX9_rank_81 : decode cX9_rank 81 = .ok (.ireturn, 1) := by decide +kernel
theorem dX9_rank_82 : decode cX9_rank 82 = .ok (.iinc 5 1, 3) := by decide +kernel
theorem dX9_rank_85 : decode cX9_rank 85 = .ok (.goto (-35), 3) := by decide +kernel
theorem dX9_rank_88 : decode cX9_rank 88 = .ok (.bipush (-5), 2) := by decide +kernel
theorem dX9_rank_90 : decode cX9_rank 90 = .ok (.ireturn, 1) := by decide +kernel
def chX9_sure : List (List Cond) := [wsX9_sure_r1, wsX9_sure_r2, wsX9_sure_r3, wsX9_sure_r4, wsX9_sure_r5, wsX9_sure_r6, wsX9_sure_r7, wsX9_sure_r8, wsX9_sure_r9, wsX10, wsX30, wsX40, wsX50, wsX90, wsX00, wsX80]
set_option maxRecDepth 20000 in
theorem chX9_sure_in : ∀ c ∈ chX9_sure, ∀ w ∈ c, w ∈ wsX9_sure := (all_c (P := fun c => ∀ w ∈ c, w ∈ wsX9_sure) (fun w h => List.mem_cons_of_mem _ (List.mem_append_left _ (List.mem_append_left _ (List.mem_append_left _ (List.mem_append_left _ (List.mem_append_left _ (List.mem_append_left _ (List.mem_append_left _ (List.mem_append_left _ (h)))))))))) (all_c (P := fun c => ∀ w ∈ c, w ∈ wsX9_sure) (fun w h => List.mem_cons_of_mem _ (List.mem_append_left _ (List.mem_append_left _ (List.mem_append_left _ (List.mem_append_left _ (List.mem_append_left _ (List.mem_append_left _ (List.mem_append_left _ (List.mem_append_right _ (List.mem_append_left _ (h))))))))))) (all_c (P := fun c => ∀ w ∈ c, w ∈ wsX9_sure) (fun w h => List.mem_cons_of_mem _ (List.mem_append_left _ (List.mem_append_left _ (List.mem_append_left _ (List.mem_append_left _ (List.mem_append_left _ (List.mem_append_left _ (List.mem_append_left _ (List.mem_append_right _ (List.mem_append_right _ (List.mem_append_left _ (h)))))))))))) (all_c (P := fun c => ∀ w ∈ c, w ∈ wsX9_sure) (fun w h => List.mem_cons_of_mem _ (List.mem_append_left _ (List.mem_append_left _ (List.mem_append_left _ (List.mem_append_left _ (List.mem_append_left _ (List.mem_append_left _ (List.mem_append_left _ (List.mem_append_right _ (List.mem_append_right _ (List.mem_append_right _ (List.mem_append_left _ (h))))))))))))) (all_c (P := fun c => ∀ w ∈ c, w ∈ wsX9_sure) (fun w h => List.mem_cons_of_mem _ (List.mem_append_left _ (List.mem_append_left _ (List.mem_append_left _ (List.mem_append_left _ (List.mem_append_left _ (List.mem_append_left _ (List.mem_append_left _ (List.mem_append_right _ (List.mem_append_right _ (List.mem_append_right _ (List.mem_append_right _ (List.mem_append_left _ (h)))))))))))))) (all_c (P := fun c => ∀ w ∈ c, w ∈ wsX9_sure) (fun w h => List.mem_cons_of_mem _ (List.mem_append_left _ (List.mem_append_left _ (List.mem_append_left _ (List.mem_append_left _ (List.mem_append_left _ (List.mem_append_left _ (List.mem_append_left _ (List.mem_append_right _ (List.mem_append_right _ (List.mem_append_right _ (List.mem_append_right _ (List.mem_append_right _ (List.mem_append_left _ (h))))))))))))))) (all_c (P := fun c => ∀ w ∈ c, w ∈ wsX9_sure) (fun w h => List.mem_cons_of_mem _ (List.mem_append_left _ (List.mem_append_left _ (List.mem_append_left _ (List.mem_append_left _ (List.mem_append_left _ (List.mem_append_left _ (List.mem_append_left _ (List.mem_append_right _ (List.mem_append_right _ (List.mem_append_right _ (List.mem_append_right _ (List.mem_append_right _ (List.mem_append_right _ (List.mem_append_left _ (h)))))))))))))))) (all_c (P := fun c => ∀ w ∈ c, w ∈ wsX9_sure) (fun w h => List.mem_cons_of_mem _ (List.mem_append_left _ (List.mem_append_left _ (List.mem_append_left _ (List.mem_append_left _ (List.mem_append_left _ (List.mem_append_left _ (List.mem_append_left _ (List.mem_append_right _ (List.mem_append_right _ (List.mem_append_right _ (List.mem_append_right _ (List.mem_append_right _ (List.mem_append_right _ (List.mem_append_right _ (List.mem_append_left _ (h))))))))))))))))) (all_c (P := fun c => ∀ w ∈ c, w ∈ wsX9_sure) (fun w h => List.mem_cons_of_mem _ (List.mem_append_left _ (List.mem_append_left _ (List.mem_append_left _ (List.mem_append_left _ (List.mem_append_left _ (List.mem_append_left _ (List.mem_append_left _ (List.mem_append_right _ (List.mem_append_right _ (List.mem_append_right _ (List.mem_append_right _ (List.mem_append_right _ (List.mem_append_right _ (List.mem_append_right _ (List.mem_append_right _ (h))))))))))))))))) (all_c (P := fun c => ∀ w ∈ c, w ∈ wsX9_sure) (fun w h => List.mem_cons_of_mem _ (List.mem_append_left _ (List.mem_append_left _ (List.mem_append_left _ (List.mem_append_left _ (List.mem_append_left _ (List.mem_append_left _ (List.mem_append_right _ (h))))))))) (all_c (P := fun c => ∀ w ∈ c, w ∈ wsX9_sure) (fun w h => List.mem_cons_of_mem _ (List.mem_append_left _ (List.mem_append_left _ (List.mem_append_left _ (List.mem_append_left _ (List.mem_append_left _ (List.mem_append_right _ (h)))))))) (all_c (P := fun c => ∀ w ∈ c, w ∈ wsX9_sure) (fun w h => List.mem_cons_of_mem _ (List.mem_append_left _ (List.mem_append_left _ (List.mem_append_left _ (List.mem_append_left _ (List.mem_append_right _ (h))))))) (all_c (P := fun c => ∀ w ∈ c, w ∈ wsX9_sure) (fun w h => List.mem_cons_of_mem _ (List.mem_append_left _ (List.mem_append_left _ (List.mem_append_left _ (List.mem_append_right _ (h)))))) (all_c (P := fun c => ∀ w ∈ c, w ∈ wsX9_sure) (fun w h => List.mem_cons_of_mem _ (List.mem_append_left _ (List.mem_append_left _ (List.mem_append_right _ (h))))) (all_c (P := fun c => ∀ w ∈ c, w ∈ wsX9_sure) (fun w h => List.mem_cons_of_mem _ (List.mem_append_left _ (List.mem_append_right _ (h)))) (all_c (P := fun c => ∀ w ∈ c, w ∈ wsX9_sure) (fun w h => List.mem_cons_of_mem _ (List.mem_append_right _ (h))) (fun _ h => nomatch h)))))))))))))))))
set_option maxRecDepth 20000 in
theorem ggX9_sure_X9_jobOf : GoodIn wsX9_sure wsX9_jobOf := goodIn_c chX9_sure chX9_sure_in _ [(0, 7), (0, 8), (0, 9), (13, 0), (13, 1), (13, 2), (13, 3), (13, 4), (13, 5), (13, 6), (13, 7), (13, 8)] (by rfl) (by decide +kernel)
set_option maxRecDepth 20000 in
theorem gX9_sure_X9_jobOf : GoodIn wsX9_sure (wsV RX9 61 RX9 yX9_jobOf wsX9_jobOf) := goodIn_app (goodIn_of _ (by decide +kernel)) ggX9_sure_X9_jobOf
set_option maxRecDepth 20000 in
theorem ggX9_sure_X0_isSquare : GoodIn wsX9_sure wsX0_isSquare := goodIn_c chX9_sure chX9_sure_in _ [(0, 14), (0, 15), (14, 0), (14, 1), (14, 2), (14, 3), (14, 4), (14, 5), (14, 6), (14, 7)] (by rfl) (by decide +kernel)
set_option maxRecDepth 20000 in
theorem gX9_sure_X0_isSquare : GoodIn wsX9_sure (wsV RX9 101 RX0 yX0_isSquare wsX0_isSquare) := goodIn_app (goodIn_of _ (by decide +kernel)) ggX9_sure_X0_isSquare
set_option maxRecDepth 20000 in
theorem ggX9_sure_X8_start : GoodIn wsX9_sure wsX8_start := goodIn_c chX9_sure chX9_sure_in _ [(0, 20), (0, 21), (0, 22), (0, 23), (1, 0), (1, 1), (1, 2), (1, 3), (0, 19), (1, 4), (1, 5), (1, 6), (1, 7), (1, 8), (1, 9), (1, 10), (1, 11), (1, 12), (1, 13), (1, 14), (1, 15), (1, 16), (1, 17), (1, 18), (1, 19), (1, 20), (1, 21), (1, 22), (1, 23), (2, 0), (2, 1), (2, 2), (2, 3), (2, 4), (2, 5), (2, 6), (2, 7), (2, 8), (2, 9), (2, 10), (2, 11), (2, 12), (2, 13), (0, 13), (2, 14), (2, 15), (2, 16), (2, 17), (2, 18), (2, 19), (2, 20), (2, 21), (2, 22), (2, 23), (3, 0), (3, 1), (3, 2), (3, 3), (3, 4), (3, 5), (3, 6), (3, 7), (3, 8), (3, 9), (3, 10), (3, 11), (3, 12), (3, 13), (3, 14), (3, 15), (3, 16), (3, 17), (3, 18), (3, 19), (3, 20), (3, 21), (3, 22), (3, 23), (4, 0), (4, 1), (4, 2), (4, 3), (4, 4), (4, 5), (4, 6), (15, 0), (15, 1), (15, 2), (15, 3), (15, 4), (15, 5), (15, 6), (15, 7), (15, 8), (15, 9), (9, 0), (9, 1), (9, 2), (9, 3), (9, 4), (10, 0), (10, 1), (10, 2), (10, 3), (10, 4), (11, 0), (11, 1), (11, 2), (11, 3), (11, 4), (12, 0), (12, 1), (12, 2), (12, 3), (12, 4), (12, 5), (14, 0), (14, 1), (14, 2), (14, 3), (14, 4), (14, 5), (14, 6), (14, 7)] (by rfl) (by decide +kernel)
set_option maxRecDepth 20000 in
theorem gX9_sure_X8_start : GoodIn wsX9_sure (wsV RX9 131 RX8 yX8_start wsX8_start) := goodIn_app (goodIn_of _ (by decide +kernel)) ggX9_sure_X8_start
set_option maxRecDepth 20000 in
theorem ggX9_sure_X8_advance : GoodIn wsX9_sure wsX8_advance := goodIn_c chX9_sure chX9_sure_in _ [(4, 10), (4, 11), (0, 23), (1, 5), (1, 11), (1, 12), (1, 13), (0, 19), (1, 14), (0, 21), (1, 15), (1, 16), (4, 12), (4, 13), (4, 14), (4, 15), (4, 16), (1, 6), (0, 22), (4, 17), (1, 9), (1, 8), (1, 7), (4, 18), (4, 19), (4, 20), (4, 21), (4, 22), (4, 23), (5, 0), (5, 1), (5, 2), (5, 3), (5, 4), (1, 10), (5, 5), (1, 0), (1, 1), (1, 2), (1, 3), (1, 4), (1, 17), (1, 18), (1, 19), (1, 20), (1, 21), (1, 22), (1, 23), (2, 0), (2, 1), (2, 2), (2, 3), (2, 4), (2, 5), (2, 6), (2, 7), (2, 8), (2, 9), (2, 10), (2, 11), (2, 12), (2, 13), (0, 13), (2, 14), (2, 15), (2, 16), (2, 17), (2, 18), (2, 19), (2, 20), (2, 21), (2, 22), (2, 23), (3, 0), (3, 1), (3, 2), (3, 3), (3, 4), (3, 5), (3, 6), (3, 7), (3, 8), (3, 9), (3, 10), (3, 11), (3, 12), (3, 13), (3, 14), (3, 15), (3, 16), (3, 17), (3, 18), (3, 19), (3, 20), (3, 21), (3, 22), (3, 23), (4, 0), (4, 1), (4, 2), (4, 3), (4, 4), (4, 5), (4, 6), (5, 6), (5, 7), (5, 8), (5, 9), (5, 10), (5, 11), (5, 12), (5, 13), (5, 14), (5, 15), (5, 16), (5, 17), (5, 18), (5, 19), (5, 20), (5, 21), (5, 22), (5, 23), (6, 0), (6, 1), (6, 2), (6, 3), (6, 4), (6, 5), (6, 6), (6, 7), (6, 8), (6, 9), (6, 10), (6, 11), (6, 12), (6, 13), (6, 14), (6, 15), (6, 16), (6, 17), (6, 18), (6, 19), (6, 20), (6, 21), (6, 22), (6, 23), (7, 0), (7, 1), (7, 2), (7, 3), (7, 4), (7, 5), (7, 6), (7, 7), (7, 8), (0, 15), (7, 9), (7, 10), (7, 11), (7, 12), (7, 13), (7, 14), (7, 15), (7, 16), (7, 17), (7, 18), (7, 19), (7, 20), (7, 21), (7, 22), (7, 23), (8, 0), (8, 1), (8, 2), (8, 3), (8, 4), (15, 0), (15, 1), (15, 2), (15, 3), (15, 4), (15, 5), (15, 6), (15, 7), (15, 8), (15, 9), (9, 0), (9, 1), (9, 2), (9, 3), (9, 4), (10, 0), (10, 1), (10, 2), (10, 3), (10, 4), (11, 0), (11, 1), (11, 2), (11, 3), (11, 4), (12, 0), (12, 1), (12, 2), (12, 3), (12, 4), (12, 5), (14, 0), (14, 1), (14, 2), (14, 3), (14, 4), (14, 5), (14, 6), (14, 7)] (by rfl) (by decide +kernel)
set_option maxRecDepth 20000 in
theorem gX9_sure_X8_advance : GoodIn wsX9_sure (wsV RX9 136 RX8 yX8_advance wsX8_advance) := goodIn_app (goodIn_of _ (by decide +kernel)) ggX9_sure_X8_advance
set_option maxRecDepth 20000 in
theorem ggX9_sure_X8_found : GoodIn wsX9_sure wsX8_found := goodIn_c chX9_sure chX9_sure_in _ [(8, 8), (1, 0), (15, 0), (15, 1), (15, 2), (15, 3), (15, 4), (15, 5), (15, 6), (15, 7), (15, 8), (15, 9)] (by rfl) (by decide +kernel)
set_option maxRecDepth 20000 in
theorem gX9_sure_X8_found : GoodIn wsX9_sure (wsV RX9 145 RX8 yX8_found wsX8_found) := goodIn_app (goodIn_of _ (by decide +kernel)) ggX9_sure_X8_found
set_option maxRecDepth 20000 in
theorem ggX9_sure_X8_isSpent : GoodIn wsX9_sure wsX8_isSpent := goodIn_c chX9_sure chX9_sure_in _ [(8, 12), (0, 23), (15, 0), (15, 1), (15, 2), (15, 3), (15, 4), (15, 5), (15, 6), (15, 7), (15, 8), (15, 9)] (by rfl) (by decide +kernel)
set_option maxRecDepth 20000 in
theorem gX9_sure_X8_isSpent : GoodIn wsX9_sure (wsV RX9 140 RX8 yX8_isSpent wsX8_isSpent) := goodIn_app (goodIn_of _ (by decide +kernel)) ggX9_sure_X8_isSpent
theorem dX9_sure_0 : decode cX9_sure 0 = .ok (.aload_n 0, 1) := by decide +kernel
theorem dX9_sure_1 : decode cX9_sure 1 = .ok (.iload_n 1, 1) := by decide +kernel
theorem dX9_sure_2 : decode cX9_sure 2 = .ok (.invokevirtual 61, 3) := by decide +kernel
theorem dX9_sure_5 : decode cX9_sure 5 = .ok (.astore_n 3, 1) := by decide +kernel
theorem dX9_sure_6 : decode cX9_sure 6 = .ok (.aload_n 3, 1) := by decide +kernel
theorem dX9_sure_7 : decode cX9_sure 7 = .ok (.ifnull 14, 3) := by decide +kernel
theorem dX9_sure_10 : decode cX9_sure 10 = .ok (.aload_n 3, 1) := by decide +kernel
theorem dX9_sure_11 : decode cX9_sure 11 = .ok (.getfield 65, 3) := by decide +kernel
theorem dX9_sure_14 : decode cX9_sure 14 = .ok (.iload_n 2, 1) := by decide +kernel
theorem dX9_sure_15 : decode cX9_sure 15 = .ok (.invokevirtual 101, 3) := by decide +kernel
theorem dX9_sure_18 : decode cX9_sure 18 = .ok (.ifCond .ne 5, 3) := by decide +kernel
theorem dX9_sure_21 : decode cX9_sure 21 = .ok (.iconst (-1), 1) := by decide +kernel
theorem dX9_sure_22 : decode cX9_sure 22 = .ok (.ireturn, 1) := by decide +kernel
theorem dX9_sure_23 : decode cX9_sure 23 = .ok (.aload_n 0, 1) := by decide +kernel
theorem dX9_sure_24 : decode cX9_sure 24 = .ok (.getfield 34, 3) := by decide +kernel
theorem dX9_sure_27 : decode cX9_sure 27 = .ok (.aload_n 3, 1) := by decide +kernel
theorem dX9_sure_28 : decode cX9_sure 28 = .ok (.invokevirtual 131, 3) := by decide +kernel
theorem dX9_sure_31 : decode cX9_sure 31 = .ok (.iconst 0, 1) := by decide +kernel
theorem dX9_sure_32 : decode cX9_sure 32 = .ok (.istore 4, 2) := by decide +kernel
theorem dX9_sure_34 : decode cX9_sure 34 = .ok (.iconst 0, 1) := by decide +kernel
theorem dX9_sure_35 : decode cX9_sure 35 = .ok (.istore 5, 2) := by decide +kernel
theorem dX9_sure_37 : decode cX9_sure 37 = .ok (.iload 4, 2) := by decide +kernel
theorem dX9_sure_39 : decode cX9_sure 39 = .ok (.ldc 135, 2) := by decide +kernel
theorem dX9_sure_41 : decode cX9_sure 41 = .ok (.if_icmp .ge 36, 3) := by decide +kernel
theorem dX9_sure_44 : decode cX9_sure 44 = .ok (.aload_n 0, 1) := by decide +kernel
theorem dX9_sure_45 : decode cX9_sure 45 = .ok (.getfield 34, 3) := by decide +kernel
theorem dX9_sure_48 : decode cX9_sure 48 = .ok (.invokevirtual 136, 3) := by decide +kernel
theorem dX9_sure_51 : decode cX9_sure 51 = .ok (.ifCond .eq 26, 3) := by decide +kernel
theorem dX9_sure_54 : decode cX9_sure 54 = .ok (.iinc 4 1, 3) := by decide +kernel
theorem dX9_sure_57 : decode cX9_sure 57 = .ok (.iload 5, 2) := by decide +kernel
theorem dX9_sure_59 : decode cX9_sure 59 = .ok (.aload_n 0, 1) := by decide +kernel
theorem dX9_sure_60 : decode cX9_sure 60 = .ok (.getfield 34, 3) := by decide +kernel
theorem dX9_sure_63 : decode cX9_sure 63 = .ok (.invokevirtual 145, 3) := by decide +kernel
theorem dX9_sure_66 : decode cX9_sure 66 = .ok (.iload_n 2, 1) := by decide +kernel
theorem dX9_sure_67 : decode cX9_sure 67 = .ok (.lushr, 1) := by decide +kernel
theorem dX9_sure_68 : decode cX9_sure 68 = .ok (.lconst 1, 1) := by decide +kernel
theorem dX9_sure_69 : decode cX9_sure 69 = .ok (.land, 1) := by decide +kernel
theorem dX9_sure_70 : decode cX9_sure 70 = .ok (.l2i, 1) := by decide +kernel
theorem dX9_sure_71 : decode cX9_sure 71 = .ok (.iadd, 1) := by decide +kernel
theorem dX9_sure_72 : decode cX9_sure 72 = .ok (.istore 5, 2) := by decide +kernel
theorem dX9_sure_74 : decode cX9_sure 74 = .ok (.goto (-37), 3) := by decide +kernel
theorem dX9_sure_77 : decode cX9_sure 77 = .ok (.aload_n 0, 1) := by decide +kernel
theorem dX9_sure_78 : decode cX9_sure 78 = .ok (.getfield 34, 3) := by decide +kernel
theorem dX9_sure_81 : decode cX9_sure 81 = .ok (.invokevirtual 140, 3) := by decide +kernel
theorem dX9_sure_84 : decode cX9_sure 84 = .ok (.ifCond .eq 6, 3) := by decide +kernel
theorem dX9_sure_87 : decode cX9_sure 87 = .ok (.bipush (-5), 2) := by decide +kernel
theorem dX9_sure_89 : decode cX9_sure 89 = .ok (.ireturn, 1) := by decide +kernel
theorem dX9_sure_90 : decode cX9_sure 90 = .ok (.iload 4, 2) := by decide +kernel
theorem dX9_sure_92 : decode cX9_sure 92 = .ok (.ifCond .ne 6, 3) := by decide +kernel
theorem dX9_sure_95 : decode cX9_sure 95 = .ok (.bipush (-2), 2) := by decide +kernel
theorem dX9_sure_97 : decode cX9_sure 97 = .ok (.ireturn, 1) := by decide +kernel
theorem dX9_sure_98 : decode cX9_sure 98 = .ok (.iload 5, 2) := by decide +kernel
theorem dX9_sure_100 : decode cX9_sure 100 = .ok (.ifCond .ne 7, 3) := by decide +kernel
theorem dX9_sure_103 : decode cX9_sure 103 = .ok (.iconst 0, 1) := by decide +kernel
theorem dX9_sure_104 : decode cX9_sure 104 = .ok (.goto 15, 3) := by decide +kernel
theorem dX9_sure_107 : decode cX9_sure 107 = .ok (.iload 5, 2) := by decide +kernel
theorem dX9_sure_109 : decode cX9_sure 109 = .ok (.iload 4, 2) := by decide +kernel
theorem dX9_sure_111 : decode cX9_sure 111 = .ok (.if_icmp .ne 7, 3) := by decide +kernel
theorem dX9_sure_114 : decode cX9_sure 114 = .ok (.iconst 1, 1) := by decide +kernel
theorem dX9_sure_115 : decode cX9_sure 115 = .ok (.goto 4, 3) := by decide +kernel
theorem dX9_sure_118 : decode cX9_sure 118 = .ok (.iconst 2, 1) := by decide +kernel
theorem dX9_sure_119 : decode cX9_sure 119 = .ok (.ireturn, 1) := by decide +kernel
def chX9_clash : List (List Cond) := [wsX9_clash_r1, wsX9_clash_r2, wsX9_clash_r3, wsX10, wsX30, wsX40, wsX50, wsX00, wsX90]
set_option maxRecDepth 20000 in
theorem chX9_clash_in : ∀ c ∈ chX9_clash, ∀ w ∈ c, w ∈ wsX9_clash := (all_c (P := fun c => ∀ w ∈ c, w ∈ wsX9_clash) (fun w h => List.mem_cons_of_mem _ (List.mem_append_left _ (List.mem_append_left _ (List.mem_append_left _ (List.mem_append_left _ (List.mem_append_left _ (List.mem_append_left _ (List.mem_append_left _ (h))))))))) (all_c (P := fun c => ∀ w ∈ c, w ∈ wsX9_clash) (fun w h => List.mem_cons_of_mem _ (List.mem_append_left _ (List.mem_append_left _ (List.mem_append_left _ (List.mem_append_left _ (List.mem_append_left _ (List.mem_append_left _ (List.mem_append_right _ (List.mem_append_left _ (h)))))))))) (all_c (P := fun c => ∀ w ∈ c, w ∈ wsX9_clash) (fun w h => List.mem_cons_of_mem _ (List.mem_append_left _ (List.mem_append_left _ (List.mem_append_left _ (List.mem_append_left _ (List.mem_append_left _ (List.mem_append_left _ (List.mem_append_right _ (List.mem_append_right _ (h)))))))))) (all_c (P := fun c => ∀ w ∈ c, w ∈ wsX9_clash) (fun w h => List.mem_cons_of_mem _ (List.mem_append_left _ (List.mem_append_left _ (List.mem_append_left _ (List.mem_append_left _ (List.mem_append_left _ (List.mem_append_right _ (h)))))))) (all_c (P := fun c => ∀ w ∈ c, w ∈ wsX9_clash) (fun w h => List.mem_cons_of_mem _ (List.mem_append_left _ (List.mem_append_left _ (List.mem_append_left _ (List.mem_append_left _ (List.mem_append_right _ (h))))))) (all_c (P := fun c => ∀ w ∈ c, w ∈ wsX9_clash) (fun w h => List.mem_cons_of_mem _ (List.mem_append_left _ (List.mem_append_left _ (List.mem_append_left _ (List.mem_append_right _ (h)))))) (all_c (P := fun c => ∀ w ∈ c, w ∈ wsX9_clash) (fun w h => List.mem_cons_of_mem _ (List.mem_append_left _ (List.mem_append_left _ (List.mem_append_right _ (h))))) (all_c (P := fun c => ∀ w ∈ c, w ∈ wsX9_clash) (fun w h => List.mem_cons_of_mem _ (List.mem_append_left _ (List.mem_append_right _ (h)))) (all_c (P := fun c => ∀ w ∈ c, w ∈ wsX9_clash) (fun w h => List.mem_cons_of_mem _ (List.mem_append_right _ (h))) (fun _ h => nomatch h))))))))))
set_option maxRecDepth 20000 in
theorem ggX9_clash_X9_jobOf : GoodIn wsX9_clash wsX9_jobOf := goodIn_c chX9_clash chX9_clash_in _ [(0, 6), (0, 7), (0, 8), (8, 0), (8, 1), (8, 2), (8, 3), (8, 4), (8, 5), (8, 6), (8, 7), (8, 8)] (by rfl) (by decide +kernel)
set_option maxRecDepth 20000 in
theorem gX9_clash_X9_jobOf : GoodIn wsX9_clash (wsV RX9 61 RX9 yX9_jobOf wsX9_jobOf) := goodIn_app (goodIn_of _ (by decide +kernel)) ggX9_clash_X9_jobOf
set_option maxRecDepth 20000 in
theorem ggX9_clash_X3_sumOfWay : GoodIn wsX9_clash wsX3_sumOfWay := goodIn_c chX9_clash chX9_clash_in _ [(0, 14), (0, 15), (0, 16), (0, 17), (0, 18), (0, 19), (0, 20), (0, 21), (0, 22), (0, 23), (1, 0), (1, 1), (1, 2), (0, 13), (1, 3), (1, 4), (1, 5), (1, 6), (1, 7), (1, 8), (3, 0), (3, 1), (3, 2), (3, 3), (3, 4), (4, 0), (4, 1), (4, 2), (4, 3), (4, 4), (5, 0), (5, 1), (5, 2), (5, 3), (5, 4), (6, 0), (6, 1), (6, 2), (6, 3), (6, 4), (6, 5), (7, 0), (7, 1), (7, 2), (7, 3), (7, 4), (7, 5), (7, 6), (7, 7)] (by rfl) (by decide +kernel)
set_option maxRecDepth 20000 in
theorem gX9_clash_X3_sumOfWay_u153X1 : GoodIn wsX9_clash (va_wsU RX9 153 RX1 "ShadowBench$Job" ⟨"ShadowBench$Job", "sumOfWay", "(I)I"⟩ yX3_sumOfWay wsX3_sumOfWay) := goodIn_app (goodIn_of _ (by decide +kernel)) ggX9_clash_X3_sumOfWay
set_option maxRecDepth 20000 in
theorem gX9_clash_X3_sumOfWay : GoodIn wsX9_clash (wsV RX9 153 RX3 yX3_sumOfWay wsX3_sumOfWay) := goodIn_app (goodIn_of _ (by decide +kernel)) ggX9_clash_X3_sumOfWay
set_option maxRecDepth 20000 in
theorem gX9_clash_X3_sumOfWay_u153X4 : GoodIn wsX9_clash (va_wsU RX9 153 RX4 "ShadowBench$Job" ⟨"ShadowBench$Job", "sumOfWay", "(I)I"⟩ yX3_sumOfWay wsX3_sumOfWay) := goodIn_app (goodIn_of _ (by decide +kernel)) ggX9_clash_X3_sumOfWay
set_option maxRecDepth 20000 in
theorem gX9_clash_X3_sumOfWay_u153X5 : GoodIn wsX9_clash (va_wsU RX9 153 RX5 "ShadowBench$Job" ⟨"ShadowBench$Job", "sumOfWay", "(I)I"⟩ yX3_sumOfWay wsX3_sumOfWay) := goodIn_app (goodIn_of _ (by decide +kernel)) ggX9_clash_X3_sumOfWay
set_option maxRecDepth 20000 in
theorem ggX9_clash_X3_greatestColumns : GoodIn wsX9_clash wsX3_greatestColumns := goodIn_c chX9_clash chX9_clash_in _ [(1, 17), (0, 15), (1, 18), (0, 23), (1, 0), (1, 1), (1, 2), (0, 13), (1, 3), (1, 4), (1, 5), (1, 6), (1, 7), (1, 8), (3, 0), (3, 1), (3, 2), (3, 3), (3, 4), (4, 0), (4, 1), (4, 2), (4, 3), (4, 4), (5, 0), (5, 1), (5, 2), (5, 3), (5, 4), (6, 0), (6, 1), (6, 2), (6, 3), (6, 4), (6, 5), (7, 0), (7, 1), (7, 2), (7, 3), (7, 4), (7, 5), (7, 6), (7, 7)] (by rfl) (by decide +kernel)
set_option maxRecDepth 20000 in
theorem gX9_clash_X3_greatestColumns_u159X1 : GoodIn wsX9_clash (va_wsU RX9 159 RX1 "ShadowBench$Job" ⟨"ShadowBench$Job", "greatestColumns", "(I)I"⟩ yX3_greatestColumns wsX3_greatestColumns) := goodIn_app (goodIn_of _ (by decide +kernel)) ggX9_clash_X3_greatestColumns
set_option maxRecDepth 20000 in
theorem gX9_clash_X3_greatestColumns : GoodIn wsX9_clash (wsV RX9 159 RX3 yX3_greatestColumns wsX3_greatestColumns) := goodIn_app (goodIn_of _ (by decide +kernel)) ggX9_clash_X3_greatestColumns
set_option maxRecDepth 20000 in
theorem gX9_clash_X3_greatestColumns_u159X4 : GoodIn wsX9_clash (va_wsU RX9 159 RX4 "ShadowBench$Job" ⟨"ShadowBench$Job", "greatestColumns", "(I)I"⟩ yX3_greatestColumns wsX3_greatestColumns) := goodIn_app (goodIn_of _ (by decide +kernel)) ggX9_clash_X3_greatestColumns
set_option maxRecDepth 20000 in
theorem gX9_clash_X3_greatestColumns_u159X5 : GoodIn wsX9_clash (va_wsU RX9 159 RX5 "ShadowBench$Job" ⟨"ShadowBench$Job", "greatestColumns", "(I)I"⟩ yX3_greatestColumns wsX3_greatestColumns) := goodIn_app (goodIn_of _ (by decide +kernel)) ggX9_clash_X3_greatestColumns
set_option maxRecDepth 20000 in
theorem ggX9_clash_X3_roomInRows : GoodIn wsX9_clash wsX3_roomInRows := goodIn_c chX9_clash chX9_clash_in _ [(2, 3), (0, 15), (2, 4), (2, 5), (2, 6), (2, 7), (2, 8), (0, 23), (1, 0), (1, 1), (1, 2), (0, 13), (1, 3), (1, 4), (1, 5), (1, 6), (1, 7), (1, 8), (3, 0), (3, 1), (3, 2), (3, 3), (3, 4), (4, 0), (4, 1), (4, 2), (4, 3), (4, 4), (5, 0), (5, 1), (5, 2), (5, 3), (5, 4), (6, 0), (6, 1), (6, 2), (6, 3), (6, 4), (6, 5), (7, 0), (7, 1), (7, 2), (7, 3), (7, 4), (7, 5), (7, 6), (7, 7)] (by rfl) (by decide +kernel)
set_option maxRecDepth 20000 in
theorem gX9_clash_X3_roomInRows_u162X1 : GoodIn wsX9_clash (va_wsU RX9 162 RX1 "ShadowBench$Job" ⟨"ShadowBench$Job", "roomInRows", "(I)I"⟩ yX3_roomInRows wsX3_roomInRows) := goodIn_app (goodIn_of _ (by decide +kernel)) ggX9_clash_X3_roomInRows
set_option maxRecDepth 20000 in
theorem gX9_clash_X3_roomInRows : GoodIn wsX9_clash (wsV RX9 162 RX3 yX3_roomInRows wsX3_roomInRows) := goodIn_app (goodIn_of _ (by decide +kernel)) ggX9_clash_X3_roomInRows
set_option maxRecDepth 20000 in
theorem gX9_clash_X3_roomInRows_u162X4 : GoodIn wsX9_clash (va_wsU RX9 162 RX4 "ShadowBench$Job" ⟨"ShadowBench$Job", "roomInRows", "(I)I"⟩ yX3_roomInRows wsX3_roomInRows) := goodIn_app (goodIn_of _ (by decide +kernel)) ggX9_clash_X3_roomInRows
set_option maxRecDepth 20000 in
theorem gX9_clash_X3_roomInRows_u162X5 : GoodIn wsX9_clash (va_wsU RX9 162 RX5 "ShadowBench$Job" ⟨"ShadowBench$Job", "roomInRows", "(I)I"⟩ yX3_roomInRows wsX3_roomInRows) := goodIn_app (goodIn_of _ (by decide +kernel)) ggX9_clash_X3_roomInRows
theorem dX9_clash_0 : decode cX9_clash 0 = .ok (.aload_n 0, 1) := by decide +kernel
theorem dX9_clash_1 : decode cX9_clash 1 = .ok (.iload_n 1, 1) := by decide +kernel
theorem dX9_clash_2 : decode cX9_clash 2 = .ok (.invokevirtual 61, 3) := by decide +kernel
theorem dX9_clash_5 : decode cX9_clash 5 = .ok (.astore_n 2, 1) := by decide +kernel
theorem dX9_clash_6 : decode cX9_clash 6 = .ok (.aload_n 2, 1) := by decide +kernel
theorem dX9_clash_7 : decode cX9_clash 7 = .ok (.ifnonnull 5, 3) := by decide +kernel
theorem dX9_clash_10 : decode cX9_clash 10 = .ok (.iconst (-1), 1) := by decide +kernel

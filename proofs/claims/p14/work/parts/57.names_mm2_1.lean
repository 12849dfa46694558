set_option maxRecDepth 20000 in
theorem ggX10_ghosts_X10_isBoard : GoodIn wsX10_ghosts wsX10_isBoard := goodIn_c chX10_ghosts chX10_ghosts_in _ [(0, 8), (0, 9), (0, 2), (0, 3), (0, 4), (0, 5)] (by rfl) (by decide +kernel)
set_option maxRecDepth 20000 in
theorem gX10_ghosts_X10_isBoard : GoodIn wsX10_ghosts (va_wsS RX10 89 yX10_isBoard wsX10_isBoard) := goodIn_app (goodIn_c chX10_ghosts chX10_ghosts_in _ [(0, 6), (0, 7), (0, 4)] (by rfl) (by decide +kernel)) ggX10_ghosts_X10_isBoard
set_option maxRecDepth 20000 in
theorem ggX10_ghosts_X10_placesOf : GoodIn wsX10_ghosts wsX10_placesOf := goodIn_r _ [14, 15, 16, 5, 17] (by decide +kernel) (by decide +kernel)
set_option maxRecDepth 20000 in
theorem gX10_ghosts_X10_placesOf : GoodIn wsX10_ghosts (wsV RX10 256 RX10 yX10_placesOf wsX10_placesOf) := goodIn_app (goodIn_c chX10_ghosts chX10_ghosts_in _ [(0, 10), (0, 11), (0, 12), (0, 4)] (by rfl) (by decide +kernel)) ggX10_ghosts_X10_placesOf
theorem dX10_ghosts_0 : decode cX10_ghosts 0 = .ok (.aload_n 0, 1) := by decide +kernel
theorem dX10_ghosts_1 : decode cX10_ghosts 1 = .ok (.iconst 0, 1) := by decide +kernel
theorem dX10_ghosts_2 : decode cX10_ghosts 2 = .ok (.putfield 79, 3) := by decide +kernel
theorem dX10_ghosts_5 : decode cX10_ghosts 5 = .ok (.iload_n 1, 1) := by decide +kernel
theorem dX10_ghosts_6 : decode cX10_ghosts 6 = .ok (.i2l, 1) := by decide +kernel
theorem dX10_ghosts_7 : decode cX10_ghosts 7 = .ok (.lconst 1, 1) := by decide +kernel
theorem dX10_ghosts_8 : decode cX10_ghosts 8 = .ok (.ldc2_w 228, 3) := by decide +kernel
theorem dX10_ghosts_11 : decode cX10_ghosts 11 = .ok (.invokestatic 85, 3) := by decide +kernel
theorem dX10_ghosts_14 : decode cX10_ghosts 14 = .ok (.ifCond .eq 11, 3) := by decide +kernel
theorem dX10_ghosts_17 : decode cX10_ghosts 17 = .ok (.iload_n 2, 1) := by decide +kernel
theorem dX10_ghosts_18 : decode cX10_ghosts 18 = .ok (.iload_n 3, 1) := by decide +kernel
theorem dX10_ghosts_19 : decode cX10_ghosts 19 = .ok (.invokestatic 89, 3) := by decide +kernel
theorem dX10_ghosts_22 : decode cX10_ghosts 22 = .ok (.ifCond .ne 7, 3) := by decide +kernel
theorem dX10_ghosts_25 : decode cX10_ghosts 25 = .ok (.iconst (-1), 1) := by decide +kernel
theorem dX10_ghosts_26 : decode cX10_ghosts 26 = .ok (.goto 10, 3) := by decide +kernel
theorem dX10_ghosts_29 : decode cX10_ghosts 29 = .ok (.aload_n 0, 1) := by decide +kernel
theorem dX10_ghosts_30 : decode cX10_ghosts 30 = .ok (.iload_n 1, 1) := by decide +kernel
theorem dX10_ghosts_31 : decode cX10_ghosts 31 = .ok (.iload_n 2, 1) := by decide +kernel
theorem dX10_ghosts_32 : decode cX10_ghosts 32 = .ok (.iload_n 3, 1) := by decide +kernel
theorem dX10_ghosts_33 : decode cX10_ghosts 33 = .ok (.invokevirtual 256, 3) := by decide +kernel
theorem dX10_ghosts_36 : decode cX10_ghosts 36 = .ok (.ireturn, 1) := by decide +kernel
theorem dX10_weightOf_0 : decode cX10_weightOf 0 = .ok (.bipush 10, 2) := by decide +kernel
theorem dX10_weightOf_2 : decode cX10_weightOf 2 = .ok (.aload_n 0, 1) := by decide +kernel
theorem dX10_weightOf_3 : decode cX10_weightOf 3 = .ok (.getfield 13, 3) := by decide +kernel
theorem dX10_weightOf_6 : decode cX10_weightOf 6 = .ok (.iload_n 1, 1) := by decide +kernel
theorem dX10_weightOf_7 : decode cX10_weightOf 7 = .ok (.iaload, 1) := by decide +kernel
theorem dX10_weightOf_8 : decode cX10_weightOf 8 = .ok (.aload_n 0, 1) := by decide +kernel
theorem dX10_weightOf_9 : decode cX10_weightOf 9 = .ok (.getfield 16, 3) := by decide +kernel
theorem dX10_weightOf_12 : decode cX10_weightOf 12 = .ok (.iload_n 1, 1) := by decide +kernel
theorem dX10_weightOf_13 : decode cX10_weightOf 13 = .ok (.iaload, 1) := by decide +kernel
theorem dX10_weightOf_14 : decode cX10_weightOf 14 = .ok (.imul, 1) := by decide +kernel
theorem dX10_weightOf_15 : decode cX10_weightOf 15 = .ok (.iadd, 1) := by decide +kernel
theorem dX10_weightOf_16 : decode cX10_weightOf 16 = .ok (.istore_n 2, 1) := by decide +kernel
theorem dX10_weightOf_17 : decode cX10_weightOf 17 = .ok (.iconst 0, 1) := by decide +kernel
theorem dX10_weightOf_18 : decode cX10_weightOf 18 = .ok (.istore_n 3, 1) := by decide +kernel
theorem dX10_weightOf_19 : decode cX10_weightOf 19 = .ok (.iconst 0, 1) := by decide +kernel
theorem dX10_weightOf_20 : decode cX10_weightOf 20 = .ok (.istore 4, 2) := by decide +kernel
theorem dX10_weightOf_22 : decode cX10_weightOf 22 = .ok (.iload 4, 2) := by decide +kernel
theorem dX10_weightOf_24 : decode cX10_weightOf 24 = .ok (.bipush 36, 2) := by decide +kernel
theorem dX10_weightOf_26 : decode cX10_weightOf 26 = .ok (.if_icmp .ge 24, 3) := by decide +kernel
theorem dX10_weightOf_29 : decode cX10_weightOf 29 = .ok (.iload_n 3, 1) := by decide +kernel
theorem dX10_weightOf_30 : decode cX10_weightOf 30 = .ok (.aload_n 0, 1) := by decide +kernel
theorem dX10_weightOf_31 : decode cX10_weightOf 31 = .ok (.getfield 29, 3) := by decide +kernel
theorem dX10_weightOf_34 : decode cX10_weightOf 34 = .ok (.bipush 36, 2) := by decide +kernel
theorem dX10_weightOf_36 : decode cX10_weightOf 36 = .ok (.iload_n 1, 1) := by decide +kernel
theorem dX10_weightOf_37 : decode cX10_weightOf 37 = .ok (.imul, 1) := by decide +kernel
theorem dX10_weightOf_38 : decode cX10_weightOf 38 = .ok (.iload 4, 2) := by decide +kernel
theorem dX10_weightOf_40 : decode cX10_weightOf 40 = .ok (.iadd, 1) := by decide +kernel
theorem dX10_weightOf_41 : decode cX10_weightOf 41 = .ok (.iaload, 1) := by decide +kernel
theorem dX10_weightOf_42 : decode cX10_weightOf 42 = .ok (.iadd, 1) := by decide +kernel
theorem dX10_weightOf_43 : decode cX10_weightOf 43 = .ok (.istore_n 3, 1) := by decide +kernel
theorem dX10_weightOf_44 : decode cX10_weightOf 44 = .ok (.iinc 4 1, 3) := by decide +kernel
theorem dX10_weightOf_47 : decode cX10_weightOf 47 = .ok (.goto (-25), 3) := by decide +kernel
theorem dX10_weightOf_50 : decode cX10_weightOf 50 = .ok (.aload_n 0, 1) := by decide +kernel
theorem dX10_weightOf_51 : decode cX10_weightOf 51 = .ok (.getfield 7, 3) := by decide +kernel
theorem dX10_weightOf_54 : decode cX10_weightOf 54 = .ok (.iload_n 1, 1) := by decide +kernel
theorem dX10_weightOf_55 : decode cX10_weightOf 55 = .ok (.iaload, 1) := by decide +kernel
theorem dX10_weightOf_56 : decode cX10_weightOf 56 = .ok (.ifCond .ne 7, 3) := by decide +kernel
theorem dX10_weightOf_59 : decode cX10_weightOf 59 = .ok (.iload_n 2, 1) := by decide +kernel
theorem dX10_weightOf_60 : decode cX10_weightOf 60 = .ok (.goto 42, 3) := by decide +kernel
theorem dX10_weightOf_63 : decode cX10_weightOf 63 = .ok (.aload_n 0, 1) := by decide +kernel
theorem dX10_weightOf_64 : decode cX10_weightOf 64 = .ok (.getfield 7, 3) := by decide +kernel
theorem dX10_weightOf_67 : decode cX10_weightOf 67 = .ok (.iload_n 1, 1) := by decide +kernel
theorem dX10_weightOf_68 : decode cX10_weightOf 68 = .ok (.iaload, 1) := by decide +kernel
theorem dX10_weightOf_69 : decode cX10_weightOf 69 = .ok (.iconst 1, 1) := by decide +kernel
theorem dX10_weightOf_70 : decode cX10_weightOf 70 = .ok (.if_icmp .ne 10, 3) := by decide +kernel
theorem dX10_weightOf_73 : decode cX10_weightOf 73 = .ok (.iload_n 2, 1) := by decide +kernel
theorem dX10_weightOf_74 : decode cX10_weightOf 74 = .ok (.bipush 100, 2) := by decide +kernel
theorem dX10_weightOf_76 : decode cX10_weightOf 76 = .ok (.iadd, 1) := by decide +kernel
theorem dX10_weightOf_77 : decode cX10_weightOf 77 = .ok (.goto 25, 3) := by decide +kernel
theorem dX10_weightOf_80 : decode cX10_weightOf 80 = .ok (.aload_n 0, 1) := by decide +kernel
theorem dX10_weightOf_81 : decode cX10_weightOf 81 = .ok (.getfield 7, 3) := by decide +kernel
theorem dX10_weightOf_84 : decode cX10_weightOf 84 = .ok (.iload_n 1, 1) := by decide +kernel
theorem dX10_weightOf_85 : decode cX10_weightOf 85 = .ok (.iaload, 1) := by decide +kernel
theorem dX10_weightOf_86 : decode cX10_weightOf 86 = .ok (.iconst 2, 1) := by decide +kernel
theorem dX10_weightOf_87 : decode cX10_weightOf 87 = .ok (.if_icmp .ne 12, 3) := by decide +kernel
theorem dX10_weightOf_90 : decode cX10_weightOf 90 = .ok (.iconst 2, 1) := by decide +kernel
theorem dX10_weightOf_91 : decode cX10_weightOf 91 = .ok (.iload_n 2, 1) := by decide +kernel
theorem dX10_weightOf_92 : decode cX10_weightOf 92 = .ok (.bipush 100, 2) := by decide +kernel
theorem dX10_weightOf_94 : decode cX10_weightOf 94 = .ok (.iadd, 1) := by decide +kernel
theorem dX10_weightOf_95 : decode cX10_weightOf 95 = .ok (.imul, 1) := by decide +kernel
theorem dX10_weightOf_96 : decode cX10_weightOf 96 = .ok (.goto 6, 3) := by decide +kernel
theorem dX10_weightOf_99 : decode cX10_weightOf 99 = .ok (.iload_n 2, 1) := by decide +kernel
theorem dX10_weightOf_100 : decode cX10_weightOf 100 = .ok (.iload_n 3, 1) := by decide +kernel
theorem dX10_weightOf_101 : decode cX10_weightOf 101 = .ok (.iadd, 1) := by decide +kernel
theorem dX10_weightOf_102 : decode cX10_weightOf 102 = .ok (.ireturn, 1) := by decide +kernel
set_option maxRecDepth 20000 in
theorem ggX10_keep_X10_isShelf : GoodIn wsX10_keep wsX10_isShelf := goodIn_r _ [14] (by decide +kernel) (by decide +kernel)
def chX10_keep : List (List Cond) := [wsX10_keep_r1, wsX10_keep_r2, wsX100]
set_option maxRecDepth 20000 in
theorem chX10_keep_in : ∀ c ∈ chX10_keep, ∀ w ∈ c, w ∈ wsX10_keep := (all_c (P := fun c => ∀ w ∈ c, w ∈ wsX10_keep) (fun w h => List.mem_cons_of_mem _ (List.mem_append_left _ (List.mem_append_left _ (h)))) (all_c (P := fun c => ∀ w ∈ c, w ∈ wsX10_keep) (fun w h => List.mem_cons_of_mem _ (List.mem_append_left _ (List.mem_append_right _ (h)))) (all_c (P := fun c => ∀ w ∈ c, w ∈ wsX10_keep) (fun w h => List.mem_cons_of_mem _ (List.mem_append_right _ (h))) (fun _ h => nomatch h))))
set_option maxRecDepth 20000 in
theorem gX10_keep_X10_isShelf : GoodIn wsX10_keep (va_wsS RX10 259 yX10_isShelf wsX10_isShelf) := goodIn_app (goodIn_c chX10_keep chX10_keep_in _ [(0, 10), (0, 11), (0, 12)] (by rfl) (by decide +kernel)) ggX10_keep_X10_isShelf
set_option maxRecDepth 20000 in
theorem ggX10_keep_X10_isJob : GoodIn wsX10_keep wsX10_isJob := goodIn_ca (goodIn_c chX10_keep chX10_keep_in _ [(0, 17), (0, 18)] (by rfl) (by decide +kernel)) (goodIn_sub (fun _ h => List.mem_cons_of_mem _ (List.mem_append_right _ (h))) (by decide +kernel))
set_option maxRecDepth 20000 in
theorem gX10_keep_X10_isJob : GoodIn wsX10_keep (wsV RX10 96 RX10 yX10_isJob wsX10_isJob) := goodIn_app (goodIn_c chX10_keep chX10_keep_in _ [(0, 14), (0, 15), (0, 16), (0, 12)] (by rfl) (by decide +kernel)) ggX10_keep_X10_isJob
set_option maxRecDepth 20000 in
theorem ggX10_keep_X10_isPicture : GoodIn wsX10_keep wsX10_isPicture := goodIn_c chX10_keep chX10_keep_in _ [(0, 21), (0, 22), (0, 23), (0, 12), (1, 0), (1, 1), (1, 2), (1, 3), (1, 4)] (by rfl) (by decide +kernel)
set_option maxRecDepth 20000 in
theorem gX10_keep_X10_isPicture : GoodIn wsX10_keep (va_wsS RX10 126 yX10_isPicture wsX10_isPicture) := goodIn_app (goodIn_c chX10_keep chX10_keep_in _ [(0, 19), (0, 20), (0, 12)] (by rfl) (by decide +kernel)) ggX10_keep_X10_isPicture
set_option maxRecDepth 20000 in
theorem ggX10_keep_X10_weightOf : GoodIn wsX10_keep wsX10_weightOf := goodIn_ca (goodIn_c chX10_keep chX10_keep_in _ [(1, 8), (0, 1), (0, 2), (1, 9), (0, 7)] (by rfl) (by decide +kernel)) (goodIn_sub (fun _ h => List.mem_cons_of_mem _ (List.mem_append_right _ (h))) (by decide +kernel))
set_option maxRecDepth 20000 in
theorem gX10_keep_X10_weightOf : GoodIn wsX10_keep (wsV RX10 262 RX10 yX10_weightOf wsX10_weightOf) := goodIn_app (goodIn_c chX10_keep chX10_keep_in _ [(1, 5), (1, 6), (1, 7), (0, 12)] (by rfl) (by decide +kernel)) ggX10_keep_X10_weightOf
set_option maxRecDepth 20000 in
theorem ggX10_keep_X10_one : GoodIn wsX10_keep wsX10_one := goodIn_r _ [37] (by decide +kernel) (by decide +kernel)
set_option maxRecDepth 20000 in
theorem gX10_keep_X10_one : GoodIn wsX10_keep (va_wsS RX10 104 yX10_one wsX10_one) := goodIn_app (goodIn_c chX10_keep chX10_keep_in _ [(1, 10), (1, 11), (0, 12)] (by rfl) (by decide +kernel)) ggX10_keep_X10_one
theorem dX10_keep_0 : decode cX10_keep 0 = .ok (.aload_n 0, 1) := by decide +kernel
theorem dX10_keep_1 : decode cX10_keep 1 = .ok (.iconst 0, 1) := by decide +kernel
theorem dX10_keep_2 : decode cX10_keep 2 = .ok (.putfield 79, 3) := by decide +kernel
theorem dX10_keep_5 : decode cX10_keep 5 = .ok (.iload_n 1, 1) := by decide +kernel
theorem dX10_keep_6 : decode cX10_keep 6 = .ok (.invokestatic 259, 3) := by decide +kernel
theorem dX10_keep_9 : decode cX10_keep 9 = .ok (.ifCond .eq 62, 3) := by decide +kernel
theorem dX10_keep_12 : decode cX10_keep 12 = .ok (.iload_n 2, 1) := by decide +kernel
theorem dX10_keep_13 : decode cX10_keep 13 = .ok (.ifCond .eq 54, 3) := by decide +kernel
theorem dX10_keep_16 : decode cX10_keep 16 = .ok (.iload_n 2, 1) := by decide +kernel
theorem dX10_keep_17 : decode cX10_keep 17 = .ok (.iconst 1, 1) := by decide +kernel
theorem dX10_keep_18 : decode cX10_keep 18 = .ok (.if_icmp .eq 8, 3) := by decide +kernel
theorem dX10_keep_21 : decode cX10_keep 21 = .ok (.iload_n 2, 1) := by decide +kernel
theorem dX10_keep_22 : decode cX10_keep 22 = .ok (.iconst 4, 1) := by decide +kernel
theorem dX10_keep_23 : decode cX10_keep 23 = .ok (.if_icmp .ne 11, 3) := by decide +kernel
theorem dX10_keep_26 : decode cX10_keep 26 = .ok (.aload_n 0, 1) := by decide +kernel
theorem dX10_keep_27 : decode cX10_keep 27 = .ok (.iload_n 3, 1) := by decide +kernel
theorem dX10_keep_28 : decode cX10_keep 28 = .ok (.invokevirtual 96, 3) := by decide +kernel
theorem dX10_keep_31 : decode cX10_keep 31 = .ok (.ifCond .ne 36, 3) := by decide +kernel
theorem dX10_keep_34 : decode cX10_keep 34 = .ok (.iload_n 2, 1) := by decide +kernel
theorem dX10_keep_35 : decode cX10_keep 35 = .ok (.iconst 3, 1) := by decide +kernel
theorem dX10_keep_36 : decode cX10_keep 36 = .ok (.if_icmp .ne 35, 3) := by decide +kernel
theorem dX10_keep_39 : decode cX10_keep 39 = .ok (.aload_n 0, 1) := by decide +kernel
theorem dX10_keep_40 : decode cX10_keep 40 = .ok (.iload_n 3, 1) := by decide +kernel
theorem dX10_keep_41 : decode cX10_keep 41 = .ok (.invokevirtual 96, 3) := by decide +kernel
theorem dX10_keep_44 : decode cX10_keep 44 = .ok (.ifCond .eq 27, 3) := by decide +kernel
theorem dX10_keep_47 : decode cX10_keep 47 = .ok (.aload_n 0, 1) := by decide +kernel
theorem dX10_keep_48 : decode cX10_keep 48 = .ok (.getfield 13, 3) := by decide +kernel
theorem dX10_keep_51 : decode cX10_keep 51 = .ok (.iload_n 3, 1) := by decide +kernel
theorem dX10_keep_52 : decode cX10_keep 52 = .ok (.iaload, 1) := by decide +kernel
theorem dX10_keep_53 : decode cX10_keep 53 = .ok (.aload_n 0, 1) := by decide +kernel
theorem dX10_keep_54 : decode cX10_keep 54 = .ok (.getfield 16, 3) := by decide +kernel
theorem dX10_keep_57 : decode cX10_keep 57 = .ok (.iload_n 3, 1) := by decide +kernel
theorem dX10_keep_58 : decode cX10_keep 58 = .ok (.iaload, 1) := by decide +kernel
theorem dX10_keep_59 : decode cX10_keep 59 = .ok (.lload 4, 2) := by decide +kernel
theorem dX10_keep_61 : decode cX10_keep 61 = .ok (.invokestatic 126, 3) := by decide +kernel
theorem dX10_keep_64 : decode cX10_keep 64 = .ok (.ifCond .eq 7, 3) := by decide +kernel
theorem dX10_keep_67 : decode cX10_keep 67 = .ok (.iconst 1, 1) := by decide +kernel
theorem dX10_keep_68 : decode cX10_keep 68 = .ok (.goto 4, 3) := by decide +kernel
theorem dX10_keep_71 : decode cX10_keep 71 = .ok (.iconst 0, 1) := by decide +kernel
theorem dX10_keep_72 : decode cX10_keep 72 = .ok (.istore 6, 2) := by decide +kernel
theorem dX10_keep_74 : decode cX10_keep 74 = .ok (.iload 6, 2) := by decide +kernel
theorem dX10_keep_76 : decode cX10_keep 76 = .ok (.ifCond .ne 5, 3) := by decide +kernel
theorem dX10_keep_79 : decode cX10_keep 79 = .ok (.iconst (-1), 1) := by decide +kernel
theorem dX10_keep_80 : decode cX10_keep 80 = .ok (.ireturn, 1) := by decide +kernel
theorem dX10_keep_81 : decode cX10_keep 81 = .ok (.aload_n 0, 1) := by decide +kernel
theorem dX10_keep_82 : decode cX10_keep 82 = .ok (.getfield 61, 3) := by decide +kernel
theorem dX10_keep_85 : decode cX10_keep 85 = .ok (.iload_n 1, 1) := by decide +kernel
theorem dX10_keep_86 : decode cX10_keep 86 = .ok (.iload_n 2, 1) := by decide +kernel
theorem dX10_keep_87 : decode cX10_keep 87 = .ok (.iastore, 1) := by decide +kernel
theorem dX10_keep_88 : decode cX10_keep 88 = .ok (.aload_n 0, 1) := by decide +kernel
theorem dX10_keep_89 : decode cX10_keep 89 = .ok (.getfield 64, 3) := by decide +kernel
theorem dX10_keep_92 : decode cX10_keep 92 = .ok (.iload_n 1, 1) := by decide +kernel
theorem dX10_keep_93 : decode cX10_keep 93 = .ok (.iload_n 2, 1) := by decide +kernel
theorem dX10_keep_94 : decode cX10_keep 94 = .ok (.iconst 3, 1) := by decide +kernel
theorem dX10_keep_95 : decode cX10_keep 95 = .ok (.if_icmp .ne 19, 3) := by decide +kernel
theorem dX10_keep_98 : decode cX10_keep 98 = .ok (.aload_n 0, 1) := by decide +kernel
theorem dX10_keep_99 : decode cX10_keep 99 = .ok (.getfield 13, 3) := by decide +kernel
theorem dX10_keep_102 : decode cX10_keep 102 = .ok (.iload_n 3, 1) := by decide +kernel
theorem dX10_keep_103 : decode cX10_keep 103 = .ok (.iaload, 1) := by decide +kernel
theorem dX10_keep_104 : decode cX10_keep 104 = .ok (.aload_n 0, 1) := by decide +kernel
theorem dX10_keep_105 : decode cX10_keep 105 = .ok (.getfield 16, 3) := by decide +kernel
theorem dX10_keep_108 : decode cX10_keep 108 = .ok (.iload_n 3, 1) := by decide +kernel
theorem dX10_keep_109 : decode cX10_keep 109 = .ok (.iaload, 1) := by decide +kernel
theorem dX10_keep_110 : decode cX10_keep 110 = .ok (.imul, 1) := by decide +kernel
theorem dX10_keep_111 : decode cX10_keep 111 = .ok (.goto 25, 3) := by decide +kernel
theorem dX10_keep_114 : decode cX10_keep 114 = .ok (.iload_n 2, 1) := by decide +kernel
theorem dX10_keep_115 : decode cX10_keep 115 = .ok (.iconst 4, 1) := by decide +kernel
theorem dX10_keep_116 : decode cX10_keep 116 = .ok (.if_icmp .ne 19, 3) := by decide +kernel
theorem dX10_keep_119 : decode cX10_keep 119 = .ok (.aload_n 0, 1) := by decide +kernel
theorem dX10_keep_120 : decode cX10_keep 120 = .ok (.getfield 16, 3) := by decide +kernel
theorem dX10_keep_123 : decode cX10_keep 123 = .ok (.iload_n 3, 1) := by decide +kernel
theorem dX10_keep_124 : decode cX10_keep 124 = .ok (.iaload, 1) := by decide +kernel
theorem dX10_keep_125 : decode cX10_keep 125 = .ok (.aload_n 0, 1) := by decide +kernel
theorem dX10_keep_126 : decode cX10_keep 126 = .ok (.getfield 13, 3) := by decide +kernel
theorem dX10_keep_129 : decode cX10_keep 129 = .ok (.iload_n 3, 1) := by decide +kernel
theorem dX10_keep_130 : decode cX10_keep 130 = .ok (.iaload, 1) := by decide +kernel
theorem dX10_keep_131 : decode cX10_keep 131 = .ok (.iadd, 1) := by decide +kernel
theorem dX10_keep_132 : decode cX10_keep 132 = .ok (.goto 4, 3) := by decide +kernel
theorem dX10_keep_135 : decode cX10_keep 135 = .ok (.iconst 0, 1) := by decide +kernel
theorem dX10_keep_136 : decode cX10_keep 136 = .ok (.iastore, 1) := by decide +kernel
theorem dX10_keep_137 : decode cX10_keep 137 = .ok (.iload_n 2, 1) := by decide +kernel
theorem dX10_keep_138 : decode cX10_keep 138 = .ok (.iconst 1, 1) := by decide +kernel
theorem dX10_keep_139 : decode cX10_keep 139 = .ok (.if_icmp .ne 35, 3) := by decide +kernel
theorem dX10_keep_142 : decode cX10_keep 142 = .ok (.aload_n 0, 1) := by decide +kernel
theorem dX10_keep_143 : decode cX10_keep 143 = .ok (.getfield 67, 3) := by decide +kernel
theorem dX10_keep_146 : decode cX10_keep 146 = .ok (.iload_n 1, 1) := by decide +kernel
theorem dX10_keep_147 : decode cX10_keep 147 = .ok (.aload_n 0, 1) := by decide +kernel
theorem dX10_keep_148 : decode cX10_keep 148 = .ok (.iload_n 3, 1) := by decide +kernel
theorem dX10_keep_149 : decode cX10_keep 149 = .ok (.invokevirtual 262, 3) := by decide +kernel
theorem dX10_keep_152 : decode cX10_keep 152 = .ok (.iastore, 1) := by decide +kernel
theorem dX10_keep_153 : decode cX10_keep 153 = .ok (.aload_n 0, 1) := by decide +kernel
theorem dX10_keep_154 : decode cX10_keep 154 = .ok (.getfield 70, 3) := by decide +kernel
theorem dX10_keep_157 : decode cX10_keep 157 = .ok (.iload_n 1, 1) := by decide +kernel
theorem dX10_keep_158 : decode cX10_keep 158 = .ok (.aload_n 0, 1) := by decide +kernel
theorem dX10_keep_159 : decode cX10_keep 159 = .ok (.getfield 7, 3) := by decide +kernel
theorem dX10_keep_162 : decode cX10_keep 162 = .ok (.iload_n 3, 1) := by decide +kernel
theorem dX10_keep_163 : decode cX10_keep 163 = .ok (.iaload, 1) := by decide +kernel
theorem dX10_keep_164 : decode cX10_keep 164 = .ok (.ifCond .ne 8, 3) := by decide +kernel
theorem dX10_keep_167 : decode cX10_keep 167 = .ok (.bipush (-15), 2) := by decide +kernel
theorem dX10_keep_169 : decode cX10_keep 169 = .ok (.goto 4, 3) := by decide +kernel
theorem dX10_keep_172 : decode cX10_keep 172 = .ok (.iload_n 3, 1) := by decide +kernel
theorem dX10_keep_173 : decode cX10_keep 173 = .ok (.iastore, 1) := by decide +kernel
theorem dX10_keep_174 : decode cX10_keep 174 = .ok (.iconst 0, 1) := by decide +kernel
theorem dX10_keep_175 : decode cX10_keep 175 = .ok (.istore 7, 2) := by decide +kernel
theorem dX10_keep_177 : decode cX10_keep 177 = .ok (.iload 7, 2) := by decide +kernel
theorem dX10_keep_179 : decode cX10_keep 179 = .ok (.aload_n 0, 1) := by decide +kernel
theorem dX10_keep_180 : decode cX10_keep 180 = .ok (.getfield 64, 3) := by decide +kernel
theorem dX10_keep_183 : decode cX10_keep 183 = .ok (.iload_n 1, 1) := by decide +kernel
theorem dX10_keep_184 : decode cX10_keep 184 = .ok (.iaload, 1) := by decide +kernel
theorem dX10_keep_185 : decode cX10_keep 185 = .ok (.if_icmp .ge 87, 3) := by decide +kernel
theorem dX10_keep_188 : decode cX10_keep 188 = .ok (.aload_n 0, 1) := by decide +kernel
theorem dX10_keep_189 : decode cX10_keep 189 = .ok (.getfield 73, 3) := by decide +kernel
theorem dX10_keep_192 : decode cX10_keep 192 = .ok (.bipush 60, 2) := by decide +kernel
theorem dX10_keep_194 : decode cX10_keep 194 = .ok (.iload_n 1, 1) := by decide +kernel
theorem dX10_keep_195 : decode cX10_keep 195 = .ok (.imul, 1) := by decide +kernel
theorem dX10_keep_196 : decode cX10_keep 196 = .ok (.iload 7, 2) := by decide +kernel
theorem dX10_keep_198 : decode cX10_keep 198 = .ok (.iadd, 1) := by decide +kernel
theorem dX10_keep_199 : decode cX10_keep 199 = .ok (.iload_n 2, 1) := by decide +kernel
theorem dX10_keep_200 : decode cX10_keep 200 = .ok (.iconst 3, 1) := by decide +kernel
theorem dX10_keep_201 : decode cX10_keep 201 = .ok (.if_icmp .ne 14, 3) := by decide +kernel
theorem dX10_keep_204 : decode cX10_keep 204 = .ok (.lload 4, 2) := by decide +kernel
theorem dX10_keep_206 : decode cX10_keep 206 = .ok (.iload 7, 2) := by decide +kernel
theorem dX10_keep_208 : decode cX10_keep 208 = .ok (.invokestatic 104, 3) := by decide +kernel
theorem dX10_keep_211 : decode cX10_keep 211 = .ok (.i2l, 1) := by decide +kernel
theorem dX10_keep_212 : decode cX10_keep 212 = .ok (.goto 53, 3) := by decide +kernel
theorem dX10_keep_215 : decode cX10_keep 215 = .ok (.iload 7, 2) := by decide +kernel
theorem dX10_keep_217 : decode cX10_keep 217 = .ok (.aload_n 0, 1) := by decide +kernel
theorem dX10_keep_218 : decode cX10_keep 218 = .ok (.getfield 16, 3) := by decide +kernel
theorem dX10_keep_221 : decode cX10_keep 221 = .ok (.iload_n 3, 1) := by decide +kernel
theorem dX10_keep_222 : decode cX10_keep 222 = .ok (.iaload, 1) := by decide +kernel
theorem dX10_keep_223 : decode cX10_keep 223 = .ok (.if_icmp .ge 19, 3) := by decide +kernel
theorem dX10_keep_226 : decode cX10_keep 226 = .ok (.aload_n 0, 1) := by decide +kernel
theorem dX10_keep_227 : decode cX10_keep 227 = .ok (.getfield 19, 3) := by decide +kernel
theorem dX10_keep_230 : decode cX10_keep 230 = .ok (.bipush 44, 2) := by decide +kernel
theorem dX10_keep_232 : decode cX10_keep 232 = .ok (.iload_n 3, 1) := by decide +kernel
theorem dX10_keep_233 : decode cX10_keep 233 = .ok (.imul, 1) := by decide +kernel
theorem dX10_keep_234 : decode cX10_keep 234 = .ok (.iload 7, 2) := by decide +kernel
theorem dX10_keep_236 : decode cX10_keep 236 = .ok (.iadd, 1) := by decide +kernel
theorem dX10_keep_237 : decode cX10_keep 237 = .ok (.iaload, 1) := by decide +kernel
theorem dX10_keep_238 : decode cX10_keep 238 = .ok (.i2l, 1) := by decide +kernel
theorem dX10_keep_239 : decode cX10_keep 239 = .ok (.goto 26, 3) := by decide +kernel
theorem dX10_keep_242 : decode cX10_keep 242 = .ok (.aload_n 0, 1) := by decide +kernel
theorem dX10_keep_243 : decode cX10_keep 243 = .ok (.getfield 19, 3) := by decide +kernel
theorem dX10_keep_246 : decode cX10_keep 246 = .ok (.bipush 44, 2) := by decide +kernel
theorem dX10_keep_248 : decode cX10_keep 248 = .ok (.iload_n 3, 1) := by decide +kernel
theorem dX10_keep_249 : decode cX10_keep 249 = .ok (.imul, 1) := by decide +kernel
theorem dX10_keep_250 : decode cX10_keep 250 = .ok (.bipush 11, 2) := by decide +kernel
theorem dX10_keep_252 : decode cX10_keep 252 = .ok (.iadd, 1) := by decide +kernel
theorem dX10_keep_253 : decode cX10_keep 253 = .ok (.iload 7, 2) := by decide +kernel
theorem dX10_keep_255 : decode cX10_keep 255 = .ok (.iadd, 1) := by decide +kernel
theorem dX10_keep_256 : decode cX10_keep 256 = .ok (.aload_n 0, 1) := by decide +kernel
theorem dX10_keep_257 : decode cX10_keep 257 = .ok (.getfield 16, 3) := by decide +kernel
theorem dX10_keep_260 : decode cX10_keep 260 = .ok (.iload_n 3, 1) := by decide +kernel
theorem dX10_keep_261 : decode cX10_keep 261 = .ok (.iaload, 1) := by decide +kernel
theorem dX10_keep_262 : decode cX10_keep 262 = .ok (.isub, 1) := by decide +kernel
theorem dX10_keep_263 : decode cX10_keep 263 = .ok (.iaload, 1) := by decide +kernel
theorem dX10_keep_264 : decode cX10_keep 264 = .ok (.i2l, 1) := by decide +kernel
theorem dX10_keep_265 : decode cX10_keep 265 = .ok (.lastore, 1) := by decide +kernel
theorem dX10_keep_266 : decode cX10_keep 266 = .ok (.iinc 7 1, 3) := by decide +kernel
theorem dX10_keep_269 : decode cX10_keep 269 = .ok (.goto (-92), 3) := by decide +kernel
theorem dX10_keep_272 : decode cX10_keep 272 = .ok (.iconst 0, 1) := by decide +kernel
theorem dX10_keep_273 : decode cX10_keep 273 = .ok (.ireturn, 1) := by decide +kernel
set_option maxRecDepth 20000 in
theorem ggX10_make_X10_isShelf : GoodIn wsX10_make wsX10_isShelf := goodIn_r _ [10] (by decide +kernel) (by decide +kernel)
def chX10_make : List (List Cond) := [[.fieldLink RX10 79 "ShadowBenchModel" "thrown" "I", .constantLong RX10 116 (3), .constantLong RX10 265 (4), .fieldLink RX10 61 "ShadowBenchModel" "shelf" "[I", .fieldLink RX10 64 "ShadowBenchModel" "shelfSize" "[I", .fieldLink RX10 73 "ShadowBenchModel" "shelfRow" "[J", .methodLink RX10 259 yX10_isShelf, .static yX10_isShelf, .initialized RX10, .code yX10_isShelf cX10_isShelf 1 (some .boolean), .methodLink RX10 85 yX10_isIn, .static yX10_isIn, .code yX10_isIn cX10_isIn 6 (some .boolean)], wsX100]
set_option maxRecDepth 20000 in
theorem chX10_make_in : ∀ c ∈ chX10_make, ∀ w ∈ c, w ∈ wsX10_make := (all_c (P := fun c => ∀ w ∈ c, w ∈ wsX10_make) (fun w h => List.mem_cons_of_mem _ (List.mem_append_left _ (h))) (all_c (P := fun c => ∀ w ∈ c, w ∈ wsX10_make) (fun w h => List.mem_cons_of_mem _ (List.mem_append_right _ (h))) (fun _ h => nomatch h)))
set_option maxRecDepth 20000 in
theorem gX10_make_X10_isShelf : GoodIn wsX10_make (va_wsS RX10 259 yX10_isShelf wsX10_isShelf) := goodIn_app (goodIn_c chX10_make chX10_make_in _ [(0, 6), (0, 7), (0, 8)] (by rfl) (by decide +kernel)) ggX10_make_X10_isShelf
set_option maxRecDepth 20000 in
theorem ggX10_make_X10_isIn : GoodIn wsX10_make wsX10_isIn := goodIn_r _ [13] (by decide +kernel) (by decide +kernel)
set_option maxRecDepth 20000 in
theorem gX10_make_X10_isIn : GoodIn wsX10_make (va_wsS RX10 85 yX10_isIn wsX10_isIn) := goodIn_app (goodIn_c chX10_make chX10_make_in _ [(0, 10), (0, 11), (0, 8)] (by rfl) (by decide +kernel)) ggX10_make_X10_isIn
theorem dX10_make_0 : decode cX10_make 0 = .ok (.aload_n 0, 1) := by decide +kernel
theorem dX10_make_1 : decode cX10_make 1 = .ok (.iconst 0, 1) := by decide +kernel
theorem dX10_make_2 : decode cX10_make 2 = .ok (.putfield 79, 3) := by decide +kernel
theorem dX10_make_5 : decode cX10_make 5 = .ok (.iload_n 1, 1) := by decide +kernel
theorem dX10_make_6 : decode cX10_make 6 = .ok (.invokestatic 259, 3) := by decide +kernel
theorem dX10_make_9 : decode cX10_make 9 = .ok (.ifCond .eq 23, 3) := by decide +kernel
theorem dX10_make_12 : decode cX10_make 12 = .ok (.iload_n 2, 1) := by decide +kernel
theorem dX10_make_13 : decode cX10_make 13 = .ok (.i2l, 1) := by decide +kernel
theorem dX10_make_14 : decode cX10_make 14 = .ok (.ldc2_w 116, 3) := by decide +kernel
theorem dX10_make_17 : decode cX10_make 17 = .ok (.ldc2_w 265, 3) := by decide +kernel
theorem dX10_make_20 : decode cX10_make 20 = .ok (.invokestatic 85, 3) := by decide +kernel
theorem dX10_make_23 : decode cX10_make 23 = .ok (.ifCond .eq 9, 3) := by decide +kernel
theorem dX10_make_26 : decode cX10_make 26 = .ok (.iload_n 3, 1) := by decide +kernel
theorem dX10_make_27 : decode cX10_make 27 = .ok (.bipush 60, 2) := by decide +kernel
theorem dX10_make_29 : decode cX10_make 29 = .ok (.if_icmp .le 5, 3) := by decide +kernel
theorem dX10_make_32 : decode cX10_make 32 = .ok (.iconst (-1), 1) := by decide +kernel
theorem dX10_make_33 : decode cX10_make 33 = .ok (.ireturn, 1) := by decide +kernel
theorem dX10_make_34 : decode cX10_make 34 = .ok (.iload_n 3, 1) := by decide +kernel
theorem dX10_make_35 : decode cX10_make 35 = .ok (.ifCond .ge 6, 3) := by decide +kernel
theorem dX10_make_38 : decode cX10_make 38 = .ok (.bipush (-14), 2) := by decide +kernel
theorem dX10_make_40 : decode cX10_make 40 = .ok (.ireturn, 1) := by decide +kernel
theorem dX10_make_41 : decode cX10_make 41 = .ok (.aload_n 0, 1) := by decide +kernel
theorem dX10_make_42 : decode cX10_make 42 = .ok (.getfield 61, 3) := by decide +kernel
theorem dX10_make_45 : decode cX10_make 45 = .ok (.iload_n 1, 1) := by decide +kernel
theorem dX10_make_46 : decode cX10_make 46 = .ok (.iload_n 2, 1) := by decide +kernel
theorem dX10_make_47 : decode cX10_make 47 = .ok (.iastore, 1) := by decide +kernel
theorem dX10_make_48 : decode cX10_make 48 = .ok (.aload_n 0, 1) := by decide +kernel
theorem dX10_make_49 : decode cX10_make 49 = .ok (.getfield 64, 3) := by decide +kernel
theorem dX10_make_52 : decode cX10_make 52 = .ok (.iload_n 1, 1) := by decide +kernel
theorem dX10_make_53 : decode cX10_make 53 = .ok (.iload_n 3, 1) := by decide +kernel
theorem dX10_make_54 : decode cX10_make 54 = .ok (.iastore, 1) := by decide +kernel
theorem dX10_make_55 : decode cX10_make 55 = .ok (.iconst 0, 1) := by decide +kernel
theorem dX10_make_56 : decode cX10_make 56 = .ok (.istore 4, 2) := by decide +kernel
theorem dX10_make_58 : decode cX10_make 58 = .ok (.iload 4, 2) := by decide +kernel
theorem dX10_make_60 : decode cX10_make 60 = .ok (.iload_n 3, 1) := by decide +kernel
theorem dX10_make_61 : decode cX10_make 61 = .ok (.if_icmp .ge 22, 3) := by decide +kernel
theorem dX10_make_64 : decode cX10_make 64 = .ok (.aload_n 0, 1) := by decide +kernel
theorem dX10_make_65 : decode cX10_make 65 = .ok (.getfield 73, 3) := by decide +kernel
theorem dX10_make_68 : decode cX10_make 68 = .ok (.bipush 60, 2) := by decide +kernel
theorem dX10_make_70 : decode cX10_make 70 = .ok (.iload_n 1, 1) := by decide +kernel
theorem dX10_make_71 : decode cX10_make 71 = .ok (.imul, 1) := by decide +kernel
theorem dX10_make_72 : decode cX10_make 72 = .ok (.iload 4, 2) := by decide +kernel
theorem dX10_make_74 : decode cX10_make 74 = .ok (.iadd, 1) := by decide +kernel
theorem dX10_make_75 : decode cX10_make 75 = .ok (.lconst 0, 1) := by decide +kernel
theorem dX10_make_76 : decode cX10_make 76 = .ok (.lastore, 1) := by decide +kernel
theorem dX10_make_77 : decode cX10_make 77 = .ok (.iinc 4 1, 3) := by decide +kernel
theorem dX10_make_80 : decode cX10_make 80 = .ok (.goto (-22), 3) := by decide +kernel
theorem dX10_make_83 : decode cX10_make 83 = .ok (.iconst 0, 1) := by decide +kernel
theorem dX10_make_84 : decode cX10_make 84 = .ok (.ireturn, 1) := by decide +kernel
set_option maxRecDepth 20000 in
theorem ggX10_element_X10_isShelf : GoodIn wsX10_element wsX10_isShelf := goodIn_r _ [8] (by decide +kernel) (by decide +kernel)
def chX10_element : List (List Cond) := [[.fieldLink RX10 61 "ShadowBenchModel" "shelf" "[I", .fieldLink RX10 64 "ShadowBenchModel" "shelfSize" "[I", .fieldLink RX10 79 "ShadowBenchModel" "thrown" "I", .fieldLink RX10 73 "ShadowBenchModel" "shelfRow" "[J", .methodLink RX10 259 yX10_isShelf, .static yX10_isShelf, .initialized RX10, .code yX10_isShelf cX10_isShelf 1 (some .boolean), .methodLink RX10 85 yX10_isIn, .static yX10_isIn, .code yX10_isIn cX10_isIn 6 (some .boolean)], wsX100]
set_option maxRecDepth 20000 in
theorem chX10_element_in : ∀ c ∈ chX10_element, ∀ w ∈ c, w ∈ wsX10_element := (all_c (P := fun c => ∀ w ∈ c, w ∈ wsX10_element) (fun w h => List.mem_cons_of_mem _ (List.mem_append_left _ (h))) (all_c (P := fun c => ∀ w ∈ c, w ∈ wsX10_element) (fun w h => List.mem_cons_of_mem _ (List.mem_append_right _ (h))) (fun _ h => nomatch h)))
set_option maxRecDepth 20000 in
theorem gX10_element_X10_isShelf : GoodIn wsX10_element (va_wsS RX10 259 yX10_isShelf wsX10_isShelf) := goodIn_app (goodIn_c chX10_element chX10_element_in _ [(0, 4), (0, 5), (0, 6)] (by rfl) (by decide +kernel)) ggX10_element_X10_isShelf
set_option maxRecDepth 20000 in
theorem ggX10_element_X10_isIn : GoodIn wsX10_element wsX10_isIn := goodIn_r _ [11] (by decide +kernel) (by decide +kernel)
set_option maxRecDepth 20000 in
theorem gX10_element_X10_isIn : GoodIn wsX10_element (va_wsS RX10 85 yX10_isIn wsX10_isIn) := goodIn_app (goodIn_c chX10_element chX10_element_in _ [(0, 8), (0, 9), (0, 6)] (by rfl) (by decide +kernel)) ggX10_element_X10_isIn
theorem dX10_element_0 : decode cX10_element 0 = .ok (.iload_n 1, 1) := by decide +kernel
theorem dX10_element_1 : decode cX10_element 1 = .ok (.invokestatic 259, 3) := by decide +kernel
theorem dX10_element_4 : decode cX10_element 4 = .ok (.ifCond .eq 35, 3) := by decide +kernel
theorem dX10_element_7 : decode cX10_element 7 = .ok (.aload_n 0, 1) := by decide +kernel
theorem dX10_element_8 : decode cX10_element 8 = .ok (.getfield 61, 3) := by decide +kernel
theorem dX10_element_11 : decode cX10_element 11 = .ok (.iload_n 1, 1) := by decide +kernel
theorem dX10_element_12 : decode cX10_element 12 = .ok (.iaload, 1) := by decide +kernel
theorem dX10_element_13 : decode cX10_element 13 = .ok (.iconst 2, 1) := by decide +kernel
theorem dX10_element_14 : decode cX10_element 14 = .ok (.if_icmp .le 25, 3) := by decide +kernel
theorem dX10_element_17 : decode cX10_element 17 = .ok (.iload_n 2, 1) := by decide +kernel
theorem dX10_element_18 : decode cX10_element 18 = .ok (.i2l, 1) := by decide +kernel
theorem dX10_element_19 : decode cX10_element 19 = .ok (.lconst 0, 1) := by decide +kernel
theorem dX10_element_20 : decode cX10_element 20 = .ok (.aload_n 0, 1) := by decide +kernel
theorem dX10_element_21 : decode cX10_element 21 = .ok (.getfield 64, 3) := by decide +kernel
theorem dX10_element_24 : decode cX10_element 24 = .ok (.iload_n 1, 1) := by decide +kernel
theorem dX10_element_25 : decode cX10_element 25 = .ok (.iaload, 1) := by decide +kernel
theorem dX10_element_26 : decode cX10_element 26 = .ok (.iconst 1, 1) := by decide +kernel
theorem dX10_element_27 : decode cX10_element 27 = .ok (.isub, 1) := by decide +kernel
theorem dX10_element_28 : decode cX10_element 28 = .ok (.i2l, 1) := by decide +kernel
theorem dX10_element_29 : decode cX10_element 29 = .ok (.invokestatic 85, 3) := by decide +kernel
theorem dX10_element_32 : decode cX10_element 32 = .ok (.ifCond .eq 7, 3) := by decide +kernel
theorem dX10_element_35 : decode cX10_element 35 = .ok (.iconst 1, 1) := by decide +kernel
theorem dX10_element_36 : decode cX10_element 36 = .ok (.goto 4, 3) := by decide +kernel
theorem dX10_element_39 : decode cX10_element 39 = .ok (.iconst 0, 1) := by decide +kernel
theorem dX10_element_40 : decode cX10_element 40 = .ok (.istore_n 3, 1) := by decide +kernel
theorem dX10_element_41 : decode cX10_element 41 = .ok (.aload_n 0, 1) := by decide +kernel
theorem dX10_element_42 : decode cX10_element 42 = .ok (.iload_n 1, 1) := by decide +kernel
theorem dX10_element_43 : decode cX10_element 43 = .ok (.invokestatic 259, 3) := by decide +kernel
theorem dX10_element_46 : decode cX10_element 46 = .ok (.ifCond .ne 7, 3) := by decide +kernel
theorem dX10_element_49 : decode cX10_element 49 = .ok (.iconst 1, 1) := by decide +kernel
theorem dX10_element_50 : decode cX10_element 50 = .ok (.goto 12, 3) := by decide +kernel
theorem dX10_element_53 : decode cX10_element 53 = .ok (.iload_n 3, 1) := by decide +kernel
theorem dX10_element_54 : decode cX10_element 54 = .ok (.ifCond .eq 7, 3) := by decide +kernel
theorem dX10_element_57 : decode cX10_element 57 = .ok (.iconst 0, 1) := by decide +kernel
theorem dX10_element_58 : decode cX10_element 58 = .ok (.goto 4, 3) := by decide +kernel
theorem dX10_element_61 : decode cX10_element 61 = .ok (.iconst 2, 1) := by decide +kernel
theorem dX10_element_62 : decode cX10_element 62 = .ok (.putfield 79, 3) := by decide +kernel
theorem dX10_element_65 : decode cX10_element 65 = .ok (.iload_n 3, 1) := by decide +kernel
theorem dX10_element_66 : decode cX10_element 66 = .ok (.ifCond .eq 17, 3) := by decide +kernel
theorem dX10_element_69 : decode cX10_element 69 = .ok (.aload_n 0, 1) := by decide +kernel
theorem dX10_element_70 : decode cX10_element 70 = .ok (.getfield 73, 3) := by decide +kernel
theorem dX10_element_73 : decode cX10_element 73 = .ok (.bipush 60, 2) := by decide +kernel
theorem dX10_element_75 : decode cX10_element 75 = .ok (.iload_n 1, 1) := by decide +kernel
theorem dX10_element_76 : decode cX10_element 76 = .ok (.imul, 1) := by decide +kernel
theorem dX10_element_77 : decode cX10_element 77 = .ok (.iload_n 2, 1) := by decide +kernel
theorem dX10_element_78 : decode cX10_element 78 = .ok (.iadd, 1) := by decide +kernel
theorem dX10_element_79 : decode cX10_element 79 = .ok (.laload, 1) := by decide +kernel
theorem dX10_element_80 : decode cX10_element 80 = .ok (.goto 4, 3) := by decide +kernel
theorem dX10_element_83 : decode cX10_element 83 = .ok (.lconst 0, 1) := by decide +kernel
theorem dX10_element_84 : decode cX10_element 84 = .ok (.lreturn, 1) := by decide +kernel
theorem dX10_hasPlaces_0 : decode cX10_hasPlaces 0 = .ok (.iload_n 3, 1) := by decide +kernel
theorem dX10_hasPlaces_1 : decode cX10_hasPlaces 1 = .ok (.ifCond .lt 33, 3) := by decide +kernel
theorem dX10_hasPlaces_4 : decode cX10_hasPlaces 4 = .ok (.iload_n 2, 1) := by decide +kernel
theorem dX10_hasPlaces_5 : decode cX10_hasPlaces 5 = .ok (.ifCond .lt 29, 3) := by decide +kernel
theorem dX10_hasPlaces_8 : decode cX10_hasPlaces 8 = .ok (.iload_n 2, 1) := by decide +kernel
theorem dX10_hasPlaces_9 : decode cX10_hasPlaces 9 = .ok (.aload_n 0, 1) := by decide +kernel
theorem dX10_hasPlaces_10 : decode cX10_hasPlaces 10 = .ok (.getfield 64, 3) := by decide +kernel
theorem dX10_hasPlaces_13 : decode cX10_hasPlaces 13 = .ok (.iload_n 1, 1) := by decide +kernel
theorem dX10_hasPlaces_14 : decode cX10_hasPlaces 14 = .ok (.iaload, 1) := by decide +kernel
theorem dX10_hasPlaces_15 : decode cX10_hasPlaces 15 = .ok (.if_icmp .gt 19, 3) := by decide +kernel
theorem dX10_hasPlaces_18 : decode cX10_hasPlaces 18 = .ok (.iload_n 3, 1) := by decide +kernel
theorem dX10_hasPlaces_19 : decode cX10_hasPlaces 19 = .ok (.aload_n 0, 1) := by decide +kernel
theorem dX10_hasPlaces_20 : decode cX10_hasPlaces 20 = .ok (.getfield 64, 3) := by decide +kernel
theorem dX10_hasPlaces_23 : decode cX10_hasPlaces 23 = .ok (.iload_n 1, 1) := by decide +kernel
theorem dX10_hasPlaces_24 : decode cX10_hasPlaces 24 = .ok (.iaload, 1) := by decide +kernel
theorem dX10_hasPlaces_25 : decode cX10_hasPlaces 25 = .ok (.iload_n 2, 1) := by decide +kernel
theorem dX10_hasPlaces_26 : decode cX10_hasPlaces 26 = .ok (.isub, 1) := by decide +kernel
theorem dX10_hasPlaces_27 : decode cX10_hasPlaces 27 = .ok (.if_icmp .gt 7, 3) := by decide +kernel
theorem dX10_hasPlaces_30 : decode cX10_hasPlaces 30 = .ok (.iconst 1, 1) := by decide +kernel
theorem dX10_hasPlaces_31 : decode cX10_hasPlaces 31 = .ok (.goto 4, 3) := by decide +kernel
theorem dX10_hasPlaces_34 : decode cX10_hasPlaces 34 = .ok (.iconst 0, 1) := by decide +kernel
theorem dX10_hasPlaces_35 : decode cX10_hasPlaces 35 = .ok (.ireturn, 1) := by decide +kernel
set_option maxRecDepth 20000 in
theorem ggX10_copy_X10_isShelf : GoodIn wsX10_copy wsX10_isShelf := goodIn_r _ [8] (by decide +kernel) (by decide +kernel)
def chX10_copy : List (List Cond) := [[.fieldLink RX10 79 "ShadowBenchModel" "thrown" "I", .fieldLink RX10 61 "ShadowBenchModel" "shelf" "[I", .fieldLink RX10 76 "ShadowBenchModel" "between" "[J", .fieldLink RX10 73 "ShadowBenchModel" "shelfRow" "[J", .methodLink RX10 259 yX10_isShelf, .static yX10_isShelf, .initialized RX10, .code yX10_isShelf cX10_isShelf 1 (some .boolean), .methodLink RX10 267 yX10_hasPlaces, .instanceMethod yX10_hasPlaces, .selects RX10 yX10_hasPlaces yX10_hasPlaces, .code yX10_hasPlaces cX10_hasPlaces 4 (some .boolean), .fieldLink RX10 64 "ShadowBenchModel" "shelfSize" "[I"], wsX100]
set_option maxRecDepth 20000 in
theorem chX10_copy_in : ∀ c ∈ chX10_copy, ∀ w ∈ c, w ∈ wsX10_copy := (all_c (P := fun c => ∀ w ∈ c, w ∈ wsX10_copy) (fun w h => List.mem_cons_of_mem _ (List.mem_append_left _ (h))) (all_c (P := fun c => ∀ w ∈ c, w ∈ wsX10_copy) (fun w h => List.mem_cons_of_mem _ (List.mem_append_right _ (h))) (fun _ h => nomatch h)))

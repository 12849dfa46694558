set_option maxRecDepth 20000 in
theorem gX10_tells_X10_areAlike : GoodIn wsX10_tells (va_wsS RX10 210 yX10_areAlike wsX10_areAlike) := goodIn_app (goodIn_c chX10_tells chX10_tells_in _ [(0, 4), (0, 5), (0, 6)] (by rfl) (by decide +kernel)) ggX10_tells_X10_areAlike
theorem dX10_tells_0 : decode cX10_tells 0 = .ok (.iconst 1, 1) := by decide +kernel
theorem dX10_tells_1 : decode cX10_tells 1 = .ok (.istore_n 2, 1) := by decide +kernel
theorem dX10_tells_2 : decode cX10_tells 2 = .ok (.iconst 0, 1) := by decide +kernel
theorem dX10_tells_3 : decode cX10_tells 3 = .ok (.istore_n 3, 1) := by decide +kernel
theorem dX10_tells_4 : decode cX10_tells 4 = .ok (.iload_n 3, 1) := by decide +kernel
theorem dX10_tells_5 : decode cX10_tells 5 = .ok (.aload_n 0, 1) := by decide +kernel
theorem dX10_tells_6 : decode cX10_tells 6 = .ok (.getfield 230, 3) := by decide +kernel
theorem dX10_tells_9 : decode cX10_tells 9 = .ok (.if_icmp .ge 108, 3) := by decide +kernel
theorem dX10_tells_12 : decode cX10_tells 12 = .ok (.iconst 0, 1) := by decide +kernel
theorem dX10_tells_13 : decode cX10_tells 13 = .ok (.istore 4, 2) := by decide +kernel
theorem dX10_tells_15 : decode cX10_tells 15 = .ok (.iload 4, 2) := by decide +kernel
theorem dX10_tells_17 : decode cX10_tells 17 = .ok (.iload_n 3, 1) := by decide +kernel
theorem dX10_tells_18 : decode cX10_tells 18 = .ok (.if_icmp .ge 93, 3) := by decide +kernel
theorem dX10_tells_21 : decode cX10_tells 21 = .ok (.iconst 0, 1) := by decide +kernel
theorem dX10_tells_22 : decode cX10_tells 22 = .ok (.istore 5, 2) := by decide +kernel
theorem dX10_tells_24 : decode cX10_tells 24 = .ok (.iconst 0, 1) := by decide +kernel
theorem dX10_tells_25 : decode cX10_tells 25 = .ok (.istore 6, 2) := by decide +kernel
theorem dX10_tells_27 : decode cX10_tells 27 = .ok (.iload 6, 2) := by decide +kernel
theorem dX10_tells_29 : decode cX10_tells 29 = .ok (.iconst 4, 1) := by decide +kernel
theorem dX10_tells_30 : decode cX10_tells 30 = .ok (.if_icmp .ge 60, 3) := by decide +kernel
theorem dX10_tells_33 : decode cX10_tells 33 = .ok (.iload 5, 2) := by decide +kernel
theorem dX10_tells_35 : decode cX10_tells 35 = .ok (.ifCond .ne 42, 3) := by decide +kernel
theorem dX10_tells_38 : decode cX10_tells 38 = .ok (.iload_n 1, 1) := by decide +kernel
theorem dX10_tells_39 : decode cX10_tells 39 = .ok (.iload 6, 2) := by decide +kernel
theorem dX10_tells_41 : decode cX10_tells 41 = .ok (.ishr, 1) := by decide +kernel
theorem dX10_tells_42 : decode cX10_tells 42 = .ok (.iconst 1, 1) := by decide +kernel
theorem dX10_tells_43 : decode cX10_tells 43 = .ok (.iand, 1) := by decide +kernel
theorem dX10_tells_44 : decode cX10_tells 44 = .ok (.iconst 1, 1) := by decide +kernel
theorem dX10_tells_45 : decode cX10_tells 45 = .ok (.if_icmp .ne 36, 3) := by decide +kernel
theorem dX10_tells_48 : decode cX10_tells 48 = .ok (.aload_n 0, 1) := by decide +kernel
theorem dX10_tells_49 : decode cX10_tells 49 = .ok (.getfield 233, 3) := by decide +kernel
theorem dX10_tells_52 : decode cX10_tells 52 = .ok (.aload_n 0, 1) := by decide +kernel
theorem dX10_tells_53 : decode cX10_tells 53 = .ok (.getfield 236, 3) := by decide +kernel
theorem dX10_tells_56 : decode cX10_tells 56 = .ok (.aload_n 0, 1) := by decide +kernel
theorem dX10_tells_57 : decode cX10_tells 57 = .ok (.getfield 52, 3) := by decide +kernel
theorem dX10_tells_60 : decode cX10_tells 60 = .ok (.iload_n 3, 1) := by decide +kernel
theorem dX10_tells_61 : decode cX10_tells 61 = .ok (.laload, 1) := by decide +kernel
theorem dX10_tells_62 : decode cX10_tells 62 = .ok (.aload_n 0, 1) := by decide +kernel
theorem dX10_tells_63 : decode cX10_tells 63 = .ok (.getfield 52, 3) := by decide +kernel
theorem dX10_tells_66 : decode cX10_tells 66 = .ok (.iload 4, 2) := by decide +kernel
theorem dX10_tells_68 : decode cX10_tells 68 = .ok (.laload, 1) := by decide +kernel
theorem dX10_tells_69 : decode cX10_tells 69 = .ok (.iload 6, 2) := by decide +kernel
theorem dX10_tells_71 : decode cX10_tells 71 = .ok (.invokestatic 210, 3) := by decide +kernel
theorem dX10_tells_74 : decode cX10_tells 74 = .ok (.ifCond .ne 7, 3) := by decide +kernel
theorem dX10_tells_77 : decode cX10_tells 77 = .ok (.iconst 1, 1) := by decide +kernel
theorem dX10_tells_78 : decode cX10_tells 78 = .ok (.goto 4, 3) := by decide +kernel
theorem dX10_tells_81 : decode cX10_tells 81 = .ok (.iconst 0, 1) := by decide +kernel
theorem dX10_tells_82 : decode cX10_tells 82 = .ok (.istore 5, 2) := by decide +kernel
theorem dX10_tells_84 : decode cX10_tells 84 = .ok (.iinc 6 1, 3) := by decide +kernel
theorem dX10_tells_87 : decode cX10_tells 87 = .ok (.goto (-60), 3) := by decide +kernel
theorem dX10_tells_90 : decode cX10_tells 90 = .ok (.iload_n 2, 1) := by decide +kernel
theorem dX10_tells_91 : decode cX10_tells 91 = .ok (.ifCond .eq 12, 3) := by decide +kernel
theorem dX10_tells_94 : decode cX10_tells 94 = .ok (.iload 5, 2) := by decide +kernel
theorem dX10_tells_96 : decode cX10_tells 96 = .ok (.ifCond .eq 7, 3) := by decide +kernel
theorem dX10_tells_99 : decode cX10_tells 99 = .ok (.iconst 1, 1) := by decide +kernel
theorem dX10_tells_100 : decode cX10_tells 100 = .ok (.goto 4, 3) := by decide +kernel
theorem dX10_tells_103 : decode cX10_tells 103 = .ok (.iconst 0, 1) := by decide +kernel
theorem dX10_tells_104 : decode cX10_tells 104 = .ok (.istore_n 2, 1) := by decide +kernel
theorem dX10_tells_105 : decode cX10_tells 105 = .ok (.iinc 4 1, 3) := by decide +kernel
theorem dX10_tells_108 : decode cX10_tells 108 = .ok (.goto (-93), 3) := by decide +kernel
theorem dX10_tells_111 : decode cX10_tells 111 = .ok (.iinc 3 1, 3) := by decide +kernel
theorem dX10_tells_114 : decode cX10_tells 114 = .ok (.goto (-110), 3) := by decide +kernel
theorem dX10_tells_117 : decode cX10_tells 117 = .ok (.iload_n 2, 1) := by decide +kernel
theorem dX10_tells_118 : decode cX10_tells 118 = .ok (.ireturn, 1) := by decide +kernel
set_option maxRecDepth 20000 in
theorem ggX10_ways_X10_countOnes : GoodIn wsX10_ways wsX10_countOnes := goodIn_r _ [5, 6, 7, 4, 8] (by decide +kernel) (by decide +kernel)
def chX10_ways : List (List Cond) := [wsX10_ways_r1, wsX10_ways_r2, wsX100]
set_option maxRecDepth 20000 in
theorem chX10_ways_in : ∀ c ∈ chX10_ways, ∀ w ∈ c, w ∈ wsX10_ways := (all_c (P := fun c => ∀ w ∈ c, w ∈ wsX10_ways) (fun w h => List.mem_cons_of_mem _ (List.mem_append_left _ (List.mem_append_left _ (h)))) (all_c (P := fun c => ∀ w ∈ c, w ∈ wsX10_ways) (fun w h => List.mem_cons_of_mem _ (List.mem_append_left _ (List.mem_append_right _ (h)))) (all_c (P := fun c => ∀ w ∈ c, w ∈ wsX10_ways) (fun w h => List.mem_cons_of_mem _ (List.mem_append_right _ (h))) (fun _ h => nomatch h))))
set_option maxRecDepth 20000 in
theorem gX10_ways_X10_countOnes : GoodIn wsX10_ways (va_wsS RX10 130 yX10_countOnes wsX10_countOnes) := goodIn_app (goodIn_c chX10_ways chX10_ways_in _ [(0, 1), (0, 2), (0, 3)] (by rfl) (by decide +kernel)) ggX10_ways_X10_countOnes
set_option maxRecDepth 20000 in
theorem ggX10_ways_X10_tells : GoodIn wsX10_ways wsX10_tells := goodIn_ca (goodIn_c chX10_ways chX10_ways_in _ [(0, 11), (0, 12), (0, 13), (0, 14), (0, 15), (0, 16), (0, 17), (0, 3), (0, 18), (0, 19), (0, 20), (0, 21), (0, 22), (0, 23), (1, 0), (1, 1), (1, 2), (1, 3), (0, 5), (0, 6), (0, 7)] (by rfl) (by decide +kernel)) (goodIn_sub (fun _ h => List.mem_cons_of_mem _ (List.mem_append_right _ (h))) (by decide +kernel))
set_option maxRecDepth 20000 in
theorem gX10_ways_X10_tells : GoodIn wsX10_ways (wsV RX10 239 RX10 yX10_tells wsX10_tells) := goodIn_app (goodIn_c chX10_ways chX10_ways_in _ [(0, 8), (0, 9), (0, 10), (0, 3)] (by rfl) (by decide +kernel)) ggX10_ways_X10_tells
theorem dX10_ways_0 : decode cX10_ways 0 = .ok (.aload_n 0, 1) := by decide +kernel
theorem dX10_ways_1 : decode cX10_ways 1 = .ok (.iconst 0, 1) := by decide +kernel
theorem dX10_ways_2 : decode cX10_ways 2 = .ok (.putfield 79, 3) := by decide +kernel
theorem dX10_ways_5 : decode cX10_ways 5 = .ok (.iconst 0, 1) := by decide +kernel
theorem dX10_ways_6 : decode cX10_ways 6 = .ok (.istore_n 1, 1) := by decide +kernel
theorem dX10_ways_7 : decode cX10_ways 7 = .ok (.iload_n 1, 1) := by decide +kernel
theorem dX10_ways_8 : decode cX10_ways 8 = .ok (.iconst 4, 1) := by decide +kernel
theorem dX10_ways_9 : decode cX10_ways 9 = .ok (.if_icmp .gt 42, 3) := by decide +kernel
theorem dX10_ways_12 : decode cX10_ways 12 = .ok (.iconst 0, 1) := by decide +kernel
theorem dX10_ways_13 : decode cX10_ways 13 = .ok (.istore_n 2, 1) := by decide +kernel
theorem dX10_ways_14 : decode cX10_ways 14 = .ok (.iload_n 2, 1) := by decide +kernel
theorem dX10_ways_15 : decode cX10_ways 15 = .ok (.bipush 16, 2) := by decide +kernel
theorem dX10_ways_17 : decode cX10_ways 17 = .ok (.if_icmp .ge 28, 3) := by decide +kernel
theorem dX10_ways_20 : decode cX10_ways 20 = .ok (.iload_n 2, 1) := by decide +kernel
theorem dX10_ways_21 : decode cX10_ways 21 = .ok (.i2l, 1) := by decide +kernel
theorem dX10_ways_22 : decode cX10_ways 22 = .ok (.invokestatic 130, 3) := by decide +kernel
theorem dX10_ways_25 : decode cX10_ways 25 = .ok (.iload_n 1, 1) := by decide +kernel
theorem dX10_ways_26 : decode cX10_ways 26 = .ok (.if_icmp .ne 13, 3) := by decide +kernel
theorem dX10_ways_29 : decode cX10_ways 29 = .ok (.aload_n 0, 1) := by decide +kernel
theorem dX10_ways_30 : decode cX10_ways 30 = .ok (.iload_n 2, 1) := by decide +kernel
theorem dX10_ways_31 : decode cX10_ways 31 = .ok (.invokevirtual 239, 3) := by decide +kernel
theorem dX10_ways_34 : decode cX10_ways 34 = .ok (.ifCond .eq 5, 3) := by decide +kernel
theorem dX10_ways_37 : decode cX10_ways 37 = .ok (.iload_n 2, 1) := by decide +kernel
theorem dX10_ways_38 : decode cX10_ways 38 = .ok (.ireturn, 1) := by decide +kernel
theorem dX10_ways_39 : decode cX10_ways 39 = .ok (.iinc 2 1, 3) := by decide +kernel
theorem dX10_ways_42 : decode cX10_ways 42 = .ok (.goto (-28), 3) := by decide +kernel
theorem dX10_ways_45 : decode cX10_ways 45 = .ok (.iinc 1 1, 3) := by decide +kernel
theorem dX10_ways_48 : decode cX10_ways 48 = .ok (.goto (-41), 3) := by decide +kernel
theorem dX10_ways_51 : decode cX10_ways 51 = .ok (.bipush (-2), 2) := by decide +kernel
theorem dX10_ways_53 : decode cX10_ways 53 = .ok (.ireturn, 1) := by decide +kernel
set_option maxRecDepth 20000 in
theorem ggX10_haunt_X10_across : GoodIn wsX10_haunt wsX10_across := goodIn_r _ [7] (by decide +kernel) (by decide +kernel)
def chX10_haunt : List (List Cond) := [[.fieldLink RX10 55 "ShadowBenchModel" "ghost" "[I", .constantLong RX10 248 (10), .fieldLink RX10 58 "ShadowBenchModel" "moved" "[I", .methodLink RX10 242 yX10_across, .static yX10_across, .initialized RX10, .code yX10_across cX10_across 1 (some .int), .methodLink RX10 245 yX10_down, .static yX10_down, .code yX10_down cX10_down 1 (some .int), .methodLink RX10 85 yX10_isIn, .static yX10_isIn, .code yX10_isIn cX10_isIn 6 (some .boolean)], wsX100]
set_option maxRecDepth 20000 in
theorem chX10_haunt_in : ∀ c ∈ chX10_haunt, ∀ w ∈ c, w ∈ wsX10_haunt := (all_c (P := fun c => ∀ w ∈ c, w ∈ wsX10_haunt) (fun w h => List.mem_cons_of_mem _ (List.mem_append_left _ (h))) (all_c (P := fun c => ∀ w ∈ c, w ∈ wsX10_haunt) (fun w h => List.mem_cons_of_mem _ (List.mem_append_right _ (h))) (fun _ h => nomatch h)))
set_option maxRecDepth 20000 in
theorem gX10_haunt_X10_across : GoodIn wsX10_haunt (va_wsS RX10 242 yX10_across wsX10_across) := goodIn_app (goodIn_c chX10_haunt chX10_haunt_in _ [(0, 3), (0, 4), (0, 5)] (by rfl) (by decide +kernel)) ggX10_haunt_X10_across
set_option maxRecDepth 20000 in
theorem ggX10_haunt_X10_down : GoodIn wsX10_haunt wsX10_down := goodIn_r _ [10] (by decide +kernel) (by decide +kernel)
set_option maxRecDepth 20000 in
theorem gX10_haunt_X10_down : GoodIn wsX10_haunt (va_wsS RX10 245 yX10_down wsX10_down) := goodIn_app (goodIn_c chX10_haunt chX10_haunt_in _ [(0, 7), (0, 8), (0, 5)] (by rfl) (by decide +kernel)) ggX10_haunt_X10_down
set_option maxRecDepth 20000 in
theorem ggX10_haunt_X10_isIn : GoodIn wsX10_haunt wsX10_isIn := goodIn_r _ [13] (by decide +kernel) (by decide +kernel)
set_option maxRecDepth 20000 in
theorem gX10_haunt_X10_isIn : GoodIn wsX10_haunt (va_wsS RX10 85 yX10_isIn wsX10_isIn) := goodIn_app (goodIn_c chX10_haunt chX10_haunt_in _ [(0, 10), (0, 11), (0, 5)] (by rfl) (by decide +kernel)) ggX10_haunt_X10_isIn
theorem dX10_haunt_0 : decode cX10_haunt 0 = .ok (.iconst 0, 1) := by decide +kernel
theorem dX10_haunt_1 : decode cX10_haunt 1 = .ok (.istore_n 2, 1) := by decide +kernel
theorem dX10_haunt_2 : decode cX10_haunt 2 = .ok (.iload_n 2, 1) := by decide +kernel
theorem dX10_haunt_3 : decode cX10_haunt 3 = .ok (.bipush 121, 2) := by decide +kernel
theorem dX10_haunt_5 : decode cX10_haunt 5 = .ok (.if_icmp .ge 16, 3) := by decide +kernel
theorem dX10_haunt_8 : decode cX10_haunt 8 = .ok (.aload_n 0, 1) := by decide +kernel
theorem dX10_haunt_9 : decode cX10_haunt 9 = .ok (.getfield 55, 3) := by decide +kernel
theorem dX10_haunt_12 : decode cX10_haunt 12 = .ok (.iload_n 2, 1) := by decide +kernel
theorem dX10_haunt_13 : decode cX10_haunt 13 = .ok (.iconst 0, 1) := by decide +kernel
theorem dX10_haunt_14 : decode cX10_haunt 14 = .ok (.iastore, 1) := by decide +kernel
theorem dX10_haunt_15 : decode cX10_haunt 15 = .ok (.iinc 2 1, 3) := by decide +kernel
theorem dX10_haunt_18 : decode cX10_haunt 18 = .ok (.goto (-16), 3) := by decide +kernel
theorem dX10_haunt_21 : decode cX10_haunt 21 = .ok (.aload_n 0, 1) := by decide +kernel
theorem dX10_haunt_22 : decode cX10_haunt 22 = .ok (.getfield 55, 3) := by decide +kernel
theorem dX10_haunt_25 : decode cX10_haunt 25 = .ok (.iload_n 1, 1) := by decide +kernel
theorem dX10_haunt_26 : decode cX10_haunt 26 = .ok (.iconst 3, 1) := by decide +kernel
theorem dX10_haunt_27 : decode cX10_haunt 27 = .ok (.ishr, 1) := by decide +kernel
theorem dX10_haunt_28 : decode cX10_haunt 28 = .ok (.iconst 1, 1) := by decide +kernel
theorem dX10_haunt_29 : decode cX10_haunt 29 = .ok (.iand, 1) := by decide +kernel
theorem dX10_haunt_30 : decode cX10_haunt 30 = .ok (.bipush 11, 2) := by decide +kernel
theorem dX10_haunt_32 : decode cX10_haunt 32 = .ok (.imul, 1) := by decide +kernel
theorem dX10_haunt_33 : decode cX10_haunt 33 = .ok (.iconst 1, 1) := by decide +kernel
theorem dX10_haunt_34 : decode cX10_haunt 34 = .ok (.iastore, 1) := by decide +kernel
theorem dX10_haunt_35 : decode cX10_haunt 35 = .ok (.iconst 0, 1) := by decide +kernel
theorem dX10_haunt_36 : decode cX10_haunt 36 = .ok (.istore_n 2, 1) := by decide +kernel
theorem dX10_haunt_37 : decode cX10_haunt 37 = .ok (.iload_n 2, 1) := by decide +kernel
theorem dX10_haunt_38 : decode cX10_haunt 38 = .ok (.iconst 4, 1) := by decide +kernel
theorem dX10_haunt_39 : decode cX10_haunt 39 = .ok (.if_icmp .ge 157, 3) := by decide +kernel
theorem dX10_haunt_42 : decode cX10_haunt 42 = .ok (.iconst 0, 1) := by decide +kernel
theorem dX10_haunt_43 : decode cX10_haunt 43 = .ok (.istore_n 3, 1) := by decide +kernel
theorem dX10_haunt_44 : decode cX10_haunt 44 = .ok (.iload_n 3, 1) := by decide +kernel
theorem dX10_haunt_45 : decode cX10_haunt 45 = .ok (.bipush 121, 2) := by decide +kernel
theorem dX10_haunt_47 : decode cX10_haunt 47 = .ok (.if_icmp .ge 108, 3) := by decide +kernel
theorem dX10_haunt_50 : decode cX10_haunt 50 = .ok (.iload_n 1, 1) := by decide +kernel
theorem dX10_haunt_51 : decode cX10_haunt 51 = .ok (.iload_n 2, 1) := by decide +kernel
theorem dX10_haunt_52 : decode cX10_haunt 52 = .ok (.ishr, 1) := by decide +kernel
theorem dX10_haunt_53 : decode cX10_haunt 53 = .ok (.iconst 1, 1) := by decide +kernel
theorem dX10_haunt_54 : decode cX10_haunt 54 = .ok (.iand, 1) := by decide +kernel
theorem dX10_haunt_55 : decode cX10_haunt 55 = .ok (.iconst 1, 1) := by decide +kernel
theorem dX10_haunt_56 : decode cX10_haunt 56 = .ok (.if_icmp .ne 99, 3) := by decide +kernel
theorem dX10_haunt_59 : decode cX10_haunt 59 = .ok (.iload_n 3, 1) := by decide +kernel
theorem dX10_haunt_60 : decode cX10_haunt 60 = .ok (.bipush 11, 2) := by decide +kernel
theorem dX10_haunt_62 : decode cX10_haunt 62 = .ok (.irem, 1) := by decide +kernel
theorem dX10_haunt_63 : decode cX10_haunt 63 = .ok (.iload_n 2, 1) := by decide +kernel
theorem dX10_haunt_64 : decode cX10_haunt 64 = .ok (.invokestatic 242, 3) := by decide +kernel
theorem dX10_haunt_67 : decode cX10_haunt 67 = .ok (.isub, 1) := by decide +kernel
theorem dX10_haunt_68 : decode cX10_haunt 68 = .ok (.istore 4, 2) := by decide +kernel
theorem dX10_haunt_70 : decode cX10_haunt 70 = .ok (.iload_n 3, 1) := by decide +kernel
theorem dX10_haunt_71 : decode cX10_haunt 71 = .ok (.bipush 11, 2) := by decide +kernel
theorem dX10_haunt_73 : decode cX10_haunt 73 = .ok (.idiv, 1) := by decide +kernel
theorem dX10_haunt_74 : decode cX10_haunt 74 = .ok (.iload_n 2, 1) := by decide +kernel
theorem dX10_haunt_75 : decode cX10_haunt 75 = .ok (.invokestatic 245, 3) := by decide +kernel
theorem dX10_haunt_78 : decode cX10_haunt 78 = .ok (.isub, 1) := by decide +kernel
theorem dX10_haunt_79 : decode cX10_haunt 79 = .ok (.istore 5, 2) := by decide +kernel
theorem dX10_haunt_81 : decode cX10_haunt 81 = .ok (.iload 4, 2) := by decide +kernel
theorem dX10_haunt_83 : decode cX10_haunt 83 = .ok (.i2l, 1) := by decide +kernel
theorem dX10_haunt_84 : decode cX10_haunt 84 = .ok (.lconst 0, 1) := by decide +kernel
theorem dX10_haunt_85 : decode cX10_haunt 85 = .ok (.ldc2_w 248, 3) := by decide +kernel
theorem dX10_haunt_88 : decode cX10_haunt 88 = .ok (.invokestatic 85, 3) := by decide +kernel
theorem dX10_haunt_91 : decode cX10_haunt 91 = .ok (.ifCond .eq 20, 3) := by decide +kernel
theorem dX10_haunt_94 : decode cX10_haunt 94 = .ok (.iload 5, 2) := by decide +kernel
theorem dX10_haunt_96 : decode cX10_haunt 96 = .ok (.i2l, 1) := by decide +kernel
theorem dX10_haunt_97 : decode cX10_haunt 97 = .ok (.lconst 0, 1) := by decide +kernel
theorem dX10_haunt_98 : decode cX10_haunt 98 = .ok (.ldc2_w 248, 3) := by decide +kernel
theorem dX10_haunt_101 : decode cX10_haunt 101 = .ok (.invokestatic 85, 3) := by decide +kernel
theorem dX10_haunt_104 : decode cX10_haunt 104 = .ok (.ifCond .eq 7, 3) := by decide +kernel
theorem dX10_haunt_107 : decode cX10_haunt 107 = .ok (.iconst 1, 1) := by decide +kernel
theorem dX10_haunt_108 : decode cX10_haunt 108 = .ok (.goto 4, 3) := by decide +kernel
theorem dX10_haunt_111 : decode cX10_haunt 111 = .ok (.iconst 0, 1) := by decide +kernel
theorem dX10_haunt_112 : decode cX10_haunt 112 = .ok (.istore 6, 2) := by decide +kernel
theorem dX10_haunt_114 : decode cX10_haunt 114 = .ok (.aload_n 0, 1) := by decide +kernel
theorem dX10_haunt_115 : decode cX10_haunt 115 = .ok (.getfield 58, 3) := by decide +kernel
theorem dX10_haunt_118 : decode cX10_haunt 118 = .ok (.iload_n 3, 1) := by decide +kernel
theorem dX10_haunt_119 : decode cX10_haunt 119 = .ok (.aload_n 0, 1) := by decide +kernel
theorem dX10_haunt_120 : decode cX10_haunt 120 = .ok (.getfield 55, 3) := by decide +kernel
theorem dX10_haunt_123 : decode cX10_haunt 123 = .ok (.iload_n 3, 1) := by decide +kernel
theorem dX10_haunt_124 : decode cX10_haunt 124 = .ok (.iaload, 1) := by decide +kernel
theorem dX10_haunt_125 : decode cX10_haunt 125 = .ok (.iload 6, 2) := by decide +kernel
theorem dX10_haunt_127 : decode cX10_haunt 127 = .ok (.ifCond .eq 19, 3) := by decide +kernel
theorem dX10_haunt_130 : decode cX10_haunt 130 = .ok (.aload_n 0, 1) := by decide +kernel
theorem dX10_haunt_131 : decode cX10_haunt 131 = .ok (.getfield 55, 3) := by decide +kernel
theorem dX10_haunt_134 : decode cX10_haunt 134 = .ok (.bipush 11, 2) := by decide +kernel
theorem dX10_haunt_136 : decode cX10_haunt 136 = .ok (.iload 5, 2) := by decide +kernel
theorem dX10_haunt_138 : decode cX10_haunt 138 = .ok (.imul, 1) := by decide +kernel
theorem dX10_haunt_139 : decode cX10_haunt 139 = .ok (.iload 4, 2) := by decide +kernel
theorem dX10_haunt_141 : decode cX10_haunt 141 = .ok (.iadd, 1) := by decide +kernel
theorem dX10_haunt_142 : decode cX10_haunt 142 = .ok (.iaload, 1) := by decide +kernel
theorem dX10_haunt_143 : decode cX10_haunt 143 = .ok (.goto 4, 3) := by decide +kernel
theorem dX10_haunt_146 : decode cX10_haunt 146 = .ok (.iconst 0, 1) := by decide +kernel
theorem dX10_haunt_147 : decode cX10_haunt 147 = .ok (.isub, 1) := by decide +kernel
theorem dX10_haunt_148 : decode cX10_haunt 148 = .ok (.iastore, 1) := by decide +kernel
theorem dX10_haunt_149 : decode cX10_haunt 149 = .ok (.iinc 3 1, 3) := by decide +kernel
theorem dX10_haunt_152 : decode cX10_haunt 152 = .ok (.goto (-108), 3) := by decide +kernel
theorem dX10_haunt_155 : decode cX10_haunt 155 = .ok (.iconst 0, 1) := by decide +kernel
theorem dX10_haunt_156 : decode cX10_haunt 156 = .ok (.istore_n 3, 1) := by decide +kernel
theorem dX10_haunt_157 : decode cX10_haunt 157 = .ok (.iload_n 3, 1) := by decide +kernel
theorem dX10_haunt_158 : decode cX10_haunt 158 = .ok (.bipush 121, 2) := by decide +kernel
theorem dX10_haunt_160 : decode cX10_haunt 160 = .ok (.if_icmp .ge 30, 3) := by decide +kernel
theorem dX10_haunt_163 : decode cX10_haunt 163 = .ok (.iload_n 1, 1) := by decide +kernel
theorem dX10_haunt_164 : decode cX10_haunt 164 = .ok (.iload_n 2, 1) := by decide +kernel
theorem dX10_haunt_165 : decode cX10_haunt 165 = .ok (.ishr, 1) := by decide +kernel
theorem dX10_haunt_166 : decode cX10_haunt 166 = .ok (.iconst 1, 1) := by decide +kernel
theorem dX10_haunt_167 : decode cX10_haunt 167 = .ok (.iand, 1) := by decide +kernel
theorem dX10_haunt_168 : decode cX10_haunt 168 = .ok (.iconst 1, 1) := by decide +kernel
theorem dX10_haunt_169 : decode cX10_haunt 169 = .ok (.if_icmp .ne 21, 3) := by decide +kernel
theorem dX10_haunt_172 : decode cX10_haunt 172 = .ok (.aload_n 0, 1) := by decide +kernel
theorem dX10_haunt_173 : decode cX10_haunt 173 = .ok (.getfield 55, 3) := by decide +kernel
theorem dX10_haunt_176 : decode cX10_haunt 176 = .ok (.iload_n 3, 1) := by decide +kernel
theorem dX10_haunt_177 : decode cX10_haunt 177 = .ok (.aload_n 0, 1) := by decide +kernel
theorem dX10_haunt_178 : decode cX10_haunt 178 = .ok (.getfield 58, 3) := by decide +kernel
theorem dX10_haunt_181 : decode cX10_haunt 181 = .ok (.iload_n 3, 1) := by decide +kernel
theorem dX10_haunt_182 : decode cX10_haunt 182 = .ok (.iaload, 1) := by decide +kernel
theorem dX10_haunt_183 : decode cX10_haunt 183 = .ok (.iastore, 1) := by decide +kernel
theorem dX10_haunt_184 : decode cX10_haunt 184 = .ok (.iinc 3 1, 3) := by decide +kernel
theorem dX10_haunt_187 : decode cX10_haunt 187 = .ok (.goto (-30), 3) := by decide +kernel
theorem dX10_haunt_190 : decode cX10_haunt 190 = .ok (.iinc 2 1, 3) := by decide +kernel
theorem dX10_haunt_193 : decode cX10_haunt 193 = .ok (.goto (-156), 3) := by decide +kernel
theorem dX10_haunt_196 : decode cX10_haunt 196 = .ok (.return_, 1) := by decide +kernel
set_option maxRecDepth 20000 in
theorem ggX10_ghost_X10_isIn : GoodIn wsX10_ghost wsX10_isIn := goodIn_r _ [8] (by decide +kernel) (by decide +kernel)
def chX10_ghost : List (List Cond) := [[.constantLong RX10 228 (15), .constantLong RX10 250 (8), .fieldLink RX10 79 "ShadowBenchModel" "thrown" "I", .fieldLink RX10 55 "ShadowBenchModel" "ghost" "[I", .methodLink RX10 85 yX10_isIn, .static yX10_isIn, .initialized RX10, .code yX10_isIn cX10_isIn 6 (some .boolean), .methodLink RX10 252 yX10_haunt, .instanceMethod yX10_haunt, .selects RX10 yX10_haunt yX10_haunt, .code yX10_haunt cX10_haunt 7 none, .constantLong RX10 248 (10), .fieldLink RX10 58 "ShadowBenchModel" "moved" "[I", .methodLink RX10 242 yX10_across, .static yX10_across, .code yX10_across cX10_across 1 (some .int), .methodLink RX10 245 yX10_down, .static yX10_down, .code yX10_down cX10_down 1 (some .int)], wsX100]
set_option maxRecDepth 20000 in
theorem chX10_ghost_in : ∀ c ∈ chX10_ghost, ∀ w ∈ c, w ∈ wsX10_ghost := (all_c (P := fun c => ∀ w ∈ c, w ∈ wsX10_ghost) (fun w h => List.mem_cons_of_mem _ (List.mem_append_left _ (h))) (all_c (P := fun c => ∀ w ∈ c, w ∈ wsX10_ghost) (fun w h => List.mem_cons_of_mem _ (List.mem_append_right _ (h))) (fun _ h => nomatch h)))
set_option maxRecDepth 20000 in
theorem gX10_ghost_X10_isIn : GoodIn wsX10_ghost (va_wsS RX10 85 yX10_isIn wsX10_isIn) := goodIn_app (goodIn_c chX10_ghost chX10_ghost_in _ [(0, 4), (0, 5), (0, 6)] (by rfl) (by decide +kernel)) ggX10_ghost_X10_isIn
set_option maxRecDepth 20000 in
theorem ggX10_ghost_X10_haunt : GoodIn wsX10_ghost wsX10_haunt := goodIn_ca (goodIn_c chX10_ghost chX10_ghost_in _ [(0, 11), (0, 3), (0, 12), (0, 13), (0, 14), (0, 15), (0, 6), (0, 16), (0, 17), (0, 18), (0, 19), (0, 4), (0, 5), (0, 7)] (by rfl) (by decide +kernel)) (goodIn_sub (fun _ h => List.mem_cons_of_mem _ (List.mem_append_right _ (h))) (by decide +kernel))
set_option maxRecDepth 20000 in
theorem gX10_ghost_X10_haunt : GoodIn wsX10_ghost (wsV RX10 252 RX10 yX10_haunt wsX10_haunt) := goodIn_app (goodIn_c chX10_ghost chX10_ghost_in _ [(0, 8), (0, 9), (0, 10), (0, 6)] (by rfl) (by decide +kernel)) ggX10_ghost_X10_haunt
theorem dX10_ghost_0 : decode cX10_ghost 0 = .ok (.aload_n 0, 1) := by decide +kernel
theorem dX10_ghost_1 : decode cX10_ghost 1 = .ok (.iload_n 1, 1) := by decide +kernel
theorem dX10_ghost_2 : decode cX10_ghost 2 = .ok (.i2l, 1) := by decide +kernel
theorem dX10_ghost_3 : decode cX10_ghost 3 = .ok (.lconst 1, 1) := by decide +kernel
theorem dX10_ghost_4 : decode cX10_ghost 4 = .ok (.ldc2_w 228, 3) := by decide +kernel
theorem dX10_ghost_7 : decode cX10_ghost 7 = .ok (.invokestatic 85, 3) := by decide +kernel
theorem dX10_ghost_10 : decode cX10_ghost 10 = .ok (.ifCond .eq 31, 3) := by decide +kernel
theorem dX10_ghost_13 : decode cX10_ghost 13 = .ok (.iload_n 2, 1) := by decide +kernel
theorem dX10_ghost_14 : decode cX10_ghost 14 = .ok (.i2l, 1) := by decide +kernel
theorem dX10_ghost_15 : decode cX10_ghost 15 = .ok (.lconst 0, 1) := by decide +kernel
theorem dX10_ghost_16 : decode cX10_ghost 16 = .ok (.ldc2_w 250, 3) := by decide +kernel
theorem dX10_ghost_19 : decode cX10_ghost 19 = .ok (.invokestatic 85, 3) := by decide +kernel
theorem dX10_ghost_22 : decode cX10_ghost 22 = .ok (.ifCond .eq 19, 3) := by decide +kernel
theorem dX10_ghost_25 : decode cX10_ghost 25 = .ok (.iload_n 3, 1) := by decide +kernel
theorem dX10_ghost_26 : decode cX10_ghost 26 = .ok (.i2l, 1) := by decide +kernel
theorem dX10_ghost_27 : decode cX10_ghost 27 = .ok (.lconst 0, 1) := by decide +kernel
theorem dX10_ghost_28 : decode cX10_ghost 28 = .ok (.ldc2_w 250, 3) := by decide +kernel
theorem dX10_ghost_31 : decode cX10_ghost 31 = .ok (.invokestatic 85, 3) := by decide +kernel
theorem dX10_ghost_34 : decode cX10_ghost 34 = .ok (.ifCond .eq 7, 3) := by decide +kernel
theorem dX10_ghost_37 : decode cX10_ghost 37 = .ok (.iconst 0, 1) := by decide +kernel
theorem dX10_ghost_38 : decode cX10_ghost 38 = .ok (.goto 4, 3) := by decide +kernel
theorem dX10_ghost_41 : decode cX10_ghost 41 = .ok (.iconst 1, 1) := by decide +kernel
theorem dX10_ghost_42 : decode cX10_ghost 42 = .ok (.putfield 79, 3) := by decide +kernel
theorem dX10_ghost_45 : decode cX10_ghost 45 = .ok (.aload_n 0, 1) := by decide +kernel
theorem dX10_ghost_46 : decode cX10_ghost 46 = .ok (.getfield 79, 3) := by decide +kernel
theorem dX10_ghost_49 : decode cX10_ghost 49 = .ok (.ifCond .le 5, 3) := by decide +kernel
theorem dX10_ghost_52 : decode cX10_ghost 52 = .ok (.iconst 0, 1) := by decide +kernel
theorem dX10_ghost_53 : decode cX10_ghost 53 = .ok (.ireturn, 1) := by decide +kernel
theorem dX10_ghost_54 : decode cX10_ghost 54 = .ok (.aload_n 0, 1) := by decide +kernel
theorem dX10_ghost_55 : decode cX10_ghost 55 = .ok (.iload_n 1, 1) := by decide +kernel
theorem dX10_ghost_56 : decode cX10_ghost 56 = .ok (.invokevirtual 252, 3) := by decide +kernel
theorem dX10_ghost_59 : decode cX10_ghost 59 = .ok (.aload_n 0, 1) := by decide +kernel
theorem dX10_ghost_60 : decode cX10_ghost 60 = .ok (.getfield 55, 3) := by decide +kernel
theorem dX10_ghost_63 : decode cX10_ghost 63 = .ok (.bipush 11, 2) := by decide +kernel
theorem dX10_ghost_65 : decode cX10_ghost 65 = .ok (.iload_n 3, 1) := by decide +kernel
theorem dX10_ghost_66 : decode cX10_ghost 66 = .ok (.imul, 1) := by decide +kernel
theorem dX10_ghost_67 : decode cX10_ghost 67 = .ok (.iload_n 2, 1) := by decide +kernel
theorem dX10_ghost_68 : decode cX10_ghost 68 = .ok (.iadd, 1) := by decide +kernel
theorem dX10_ghost_69 : decode cX10_ghost 69 = .ok (.iaload, 1) := by decide +kernel
theorem dX10_ghost_70 : decode cX10_ghost 70 = .ok (.ireturn, 1) := by decide +kernel
set_option maxRecDepth 20000 in
theorem ggX10_placesOf_X10_across : GoodIn wsX10_placesOf wsX10_across := goodIn_r _ [4] (by decide +kernel) (by decide +kernel)
def chX10_placesOf : List (List Cond) := [[.methodLink RX10 242 yX10_across, .static yX10_across, .initialized RX10, .code yX10_across cX10_across 1 (some .int)]]
set_option maxRecDepth 20000 in
theorem chX10_placesOf_in : ∀ c ∈ chX10_placesOf, ∀ w ∈ c, w ∈ wsX10_placesOf := (all_c (P := fun c => ∀ w ∈ c, w ∈ wsX10_placesOf) (fun w h => List.mem_cons_of_mem _ (h)) (fun _ h => nomatch h))
set_option maxRecDepth 20000 in
theorem gX10_placesOf_X10_across : GoodIn wsX10_placesOf (va_wsS RX10 242 yX10_across wsX10_across) := goodIn_app (goodIn_c chX10_placesOf chX10_placesOf_in _ [(0, 0), (0, 1), (0, 2)] (by rfl) (by decide +kernel)) ggX10_placesOf_X10_across
theorem dX10_placesOf_0 : decode cX10_placesOf 0 = .ok (.iconst 1, 1) := by decide +kernel
theorem dX10_placesOf_1 : decode cX10_placesOf 1 = .ok (.istore 4, 2) := by decide +kernel
theorem dX10_placesOf_3 : decode cX10_placesOf 3 = .ok (.iconst 1, 1) := by decide +kernel
theorem dX10_placesOf_4 : decode cX10_placesOf 4 = .ok (.istore 5, 2) := by decide +kernel
theorem dX10_placesOf_6 : decode cX10_placesOf 6 = .ok (.iconst 0, 1) := by decide +kernel
theorem dX10_placesOf_7 : decode cX10_placesOf 7 = .ok (.istore 6, 2) := by decide +kernel
theorem dX10_placesOf_9 : decode cX10_placesOf 9 = .ok (.iload 6, 2) := by decide +kernel
theorem dX10_placesOf_11 : decode cX10_placesOf 11 = .ok (.iconst 4, 1) := by decide +kernel
theorem dX10_placesOf_12 : decode cX10_placesOf 12 = .ok (.if_icmp .ge 65, 3) := by decide +kernel
theorem dX10_placesOf_15 : decode cX10_placesOf 15 = .ok (.iload_n 1, 1) := by decide +kernel
theorem dX10_placesOf_16 : decode cX10_placesOf 16 = .ok (.iload 6, 2) := by decide +kernel
theorem dX10_placesOf_18 : decode cX10_placesOf 18 = .ok (.ishr, 1) := by decide +kernel
theorem dX10_placesOf_19 : decode cX10_placesOf 19 = .ok (.iconst 1, 1) := by decide +kernel
theorem dX10_placesOf_20 : decode cX10_placesOf 20 = .ok (.iand, 1) := by decide +kernel
theorem dX10_placesOf_21 : decode cX10_placesOf 21 = .ok (.iconst 1, 1) := by decide +kernel
theorem dX10_placesOf_22 : decode cX10_placesOf 22 = .ok (.if_icmp .ne 7, 3) := by decide +kernel
theorem dX10_placesOf_25 : decode cX10_placesOf 25 = .ok (.iconst 1, 1) := by decide +kernel
theorem dX10_placesOf_26 : decode cX10_placesOf 26 = .ok (.goto 4, 3) := by decide +kernel
theorem dX10_placesOf_29 : decode cX10_placesOf 29 = .ok (.iconst 0, 1) := by decide +kernel
theorem dX10_placesOf_30 : decode cX10_placesOf 30 = .ok (.istore 7, 2) := by decide +kernel
theorem dX10_placesOf_32 : decode cX10_placesOf 32 = .ok (.iload 4, 2) := by decide +kernel
theorem dX10_placesOf_34 : decode cX10_placesOf 34 = .ok (.iload 7, 2) := by decide +kernel
theorem dX10_placesOf_36 : decode cX10_placesOf 36 = .ok (.ifCond .eq 11, 3) := by decide +kernel
theorem dX10_placesOf_39 : decode cX10_placesOf 39 = .ok (.iload 6, 2) := by decide +kernel
theorem dX10_placesOf_41 : decode cX10_placesOf 41 = .ok (.invokestatic 242, 3) := by decide +kernel
theorem dX10_placesOf_44 : decode cX10_placesOf 44 = .ok (.goto 4, 3) := by decide +kernel
theorem dX10_placesOf_47 : decode cX10_placesOf 47 = .ok (.iconst 0, 1) := by decide +kernel
theorem dX10_placesOf_48 : decode cX10_placesOf 48 = .ok (.iadd, 1) := by decide +kernel
theorem dX10_placesOf_49 : decode cX10_placesOf 49 = .ok (.istore 4, 2) := by decide +kernel
theorem dX10_placesOf_51 : decode cX10_placesOf 51 = .ok (.iload 5, 2) := by decide +kernel
theorem dX10_placesOf_53 : decode cX10_placesOf 53 = .ok (.iload 7, 2) := by decide +kernel
theorem dX10_placesOf_55 : decode cX10_placesOf 55 = .ok (.ifCond .eq 12, 3) := by decide +kernel
theorem dX10_placesOf_58 : decode cX10_placesOf 58 = .ok (.iload 6, 2) := by decide +kernel
theorem dX10_placesOf_60 : decode cX10_placesOf 60 = .ok (.ifCond .le 7, 3) := by decide +kernel
theorem dX10_placesOf_63 : decode cX10_placesOf 63 = .ok (.iconst 1, 1) := by decide +kernel
theorem dX10_placesOf_64 : decode cX10_placesOf 64 = .ok (.goto 4, 3) := by decide +kernel
theorem dX10_placesOf_67 : decode cX10_placesOf 67 = .ok (.iconst 0, 1) := by decide +kernel
theorem dX10_placesOf_68 : decode cX10_placesOf 68 = .ok (.iadd, 1) := by decide +kernel
theorem dX10_placesOf_69 : decode cX10_placesOf 69 = .ok (.istore 5, 2) := by decide +kernel
theorem dX10_placesOf_71 : decode cX10_placesOf 71 = .ok (.iinc 6 1, 3) := by decide +kernel
theorem dX10_placesOf_74 : decode cX10_placesOf 74 = .ok (.goto (-65), 3) := by decide +kernel
theorem dX10_placesOf_77 : decode cX10_placesOf 77 = .ok (.iload_n 2, 1) := by decide +kernel
theorem dX10_placesOf_78 : decode cX10_placesOf 78 = .ok (.iload 4, 2) := by decide +kernel
theorem dX10_placesOf_80 : decode cX10_placesOf 80 = .ok (.if_icmp .lt 9, 3) := by decide +kernel
theorem dX10_placesOf_83 : decode cX10_placesOf 83 = .ok (.iload_n 3, 1) := by decide +kernel
theorem dX10_placesOf_84 : decode cX10_placesOf 84 = .ok (.iload 5, 2) := by decide +kernel
theorem dX10_placesOf_86 : decode cX10_placesOf 86 = .ok (.if_icmp .ge 7, 3) := by decide +kernel
theorem dX10_placesOf_89 : decode cX10_placesOf 89 = .ok (.iconst 0, 1) := by decide +kernel
theorem dX10_placesOf_90 : decode cX10_placesOf 90 = .ok (.goto 16, 3) := by decide +kernel
theorem dX10_placesOf_93 : decode cX10_placesOf 93 = .ok (.iload_n 2, 1) := by decide +kernel
theorem dX10_placesOf_94 : decode cX10_placesOf 94 = .ok (.iload 4, 2) := by decide +kernel
theorem dX10_placesOf_96 : decode cX10_placesOf 96 = .ok (.isub, 1) := by decide +kernel
theorem dX10_placesOf_97 : decode cX10_placesOf 97 = .ok (.iconst 1, 1) := by decide +kernel
theorem dX10_placesOf_98 : decode cX10_placesOf 98 = .ok (.iadd, 1) := by decide +kernel
theorem dX10_placesOf_99 : decode cX10_placesOf 99 = .ok (.iload_n 3, 1) := by decide +kernel
theorem dX10_placesOf_100 : decode cX10_placesOf 100 = .ok (.iload 5, 2) := by decide +kernel
theorem dX10_placesOf_102 : decode cX10_placesOf 102 = .ok (.isub, 1) := by decide +kernel
theorem dX10_placesOf_103 : decode cX10_placesOf 103 = .ok (.iconst 1, 1) := by decide +kernel
theorem dX10_placesOf_104 : decode cX10_placesOf 104 = .ok (.iadd, 1) := by decide +kernel
theorem dX10_placesOf_105 : decode cX10_placesOf 105 = .ok (.imul, 1) := by decide +kernel
theorem dX10_placesOf_106 : decode cX10_placesOf 106 = .ok (.ireturn, 1) := by decide +kernel
set_option maxRecDepth 20000 in
theorem ggX10_haunts_X10_isIn : GoodIn wsX10_haunts wsX10_isIn := goodIn_r _ [6] (by decide +kernel) (by decide +kernel)
def chX10_haunts : List (List Cond) := [[.fieldLink RX10 79 "ShadowBenchModel" "thrown" "I", .constantLong RX10 228 (15), .methodLink RX10 85 yX10_isIn, .static yX10_isIn, .initialized RX10, .code yX10_isIn cX10_isIn 6 (some .boolean), .methodLink RX10 89 yX10_isBoard, .static yX10_isBoard, .code yX10_isBoard cX10_isBoard 2 (some .boolean), .constantLong RX10 83 (6), .methodLink RX10 256 yX10_placesOf, .instanceMethod yX10_placesOf, .selects RX10 yX10_placesOf yX10_placesOf, .code yX10_placesOf cX10_placesOf 8 (some .int), .methodLink RX10 242 yX10_across, .static yX10_across, .code yX10_across cX10_across 1 (some .int)], wsX100]
set_option maxRecDepth 20000 in
theorem chX10_haunts_in : ∀ c ∈ chX10_haunts, ∀ w ∈ c, w ∈ wsX10_haunts := (all_c (P := fun c => ∀ w ∈ c, w ∈ wsX10_haunts) (fun w h => List.mem_cons_of_mem _ (List.mem_append_left _ (h))) (all_c (P := fun c => ∀ w ∈ c, w ∈ wsX10_haunts) (fun w h => List.mem_cons_of_mem _ (List.mem_append_right _ (h))) (fun _ h => nomatch h)))
set_option maxRecDepth 20000 in
theorem gX10_haunts_X10_isIn : GoodIn wsX10_haunts (va_wsS RX10 85 yX10_isIn wsX10_isIn) := goodIn_app (goodIn_c chX10_haunts chX10_haunts_in _ [(0, 2), (0, 3), (0, 4)] (by rfl) (by decide +kernel)) ggX10_haunts_X10_isIn
set_option maxRecDepth 20000 in
theorem ggX10_haunts_X10_isBoard : GoodIn wsX10_haunts wsX10_isBoard := goodIn_c chX10_haunts chX10_haunts_in _ [(0, 8), (0, 9), (0, 2), (0, 3), (0, 4), (0, 5)] (by rfl) (by decide +kernel)
set_option maxRecDepth 20000 in
theorem gX10_haunts_X10_isBoard : GoodIn wsX10_haunts (va_wsS RX10 89 yX10_isBoard wsX10_isBoard) := goodIn_app (goodIn_c chX10_haunts chX10_haunts_in _ [(0, 6), (0, 7), (0, 4)] (by rfl) (by decide +kernel)) ggX10_haunts_X10_isBoard
set_option maxRecDepth 20000 in
theorem ggX10_haunts_X10_placesOf : GoodIn wsX10_haunts wsX10_placesOf := goodIn_r _ [14, 15, 16, 5, 17] (by decide +kernel) (by decide +kernel)
set_option maxRecDepth 20000 in
theorem gX10_haunts_X10_placesOf : GoodIn wsX10_haunts (wsV RX10 256 RX10 yX10_placesOf wsX10_placesOf) := goodIn_app (goodIn_c chX10_haunts chX10_haunts_in _ [(0, 10), (0, 11), (0, 12), (0, 4)] (by rfl) (by decide +kernel)) ggX10_haunts_X10_placesOf
theorem dX10_haunts_0 : decode cX10_haunts 0 = .ok (.aload_n 0, 1) := by decide +kernel
theorem dX10_haunts_1 : decode cX10_haunts 1 = .ok (.iconst 0, 1) := by decide +kernel
theorem dX10_haunts_2 : decode cX10_haunts 2 = .ok (.putfield 79, 3) := by decide +kernel
theorem dX10_haunts_5 : decode cX10_haunts 5 = .ok (.iload_n 1, 1) := by decide +kernel
theorem dX10_haunts_6 : decode cX10_haunts 6 = .ok (.i2l, 1) := by decide +kernel
theorem dX10_haunts_7 : decode cX10_haunts 7 = .ok (.lconst 1, 1) := by decide +kernel
theorem dX10_haunts_8 : decode cX10_haunts 8 = .ok (.ldc2_w 228, 3) := by decide +kernel
theorem dX10_haunts_11 : decode cX10_haunts 11 = .ok (.invokestatic 85, 3) := by decide +kernel
theorem dX10_haunts_14 : decode cX10_haunts 14 = .ok (.ifCond .eq 11, 3) := by decide +kernel
theorem dX10_haunts_17 : decode cX10_haunts 17 = .ok (.iload_n 2, 1) := by decide +kernel
theorem dX10_haunts_18 : decode cX10_haunts 18 = .ok (.iload_n 3, 1) := by decide +kernel
theorem dX10_haunts_19 : decode cX10_haunts 19 = .ok (.invokestatic 89, 3) := by decide +kernel
theorem dX10_haunts_22 : decode cX10_haunts 22 = .ok (.ifCond .ne 7, 3) := by decide +kernel
theorem dX10_haunts_25 : decode cX10_haunts 25 = .ok (.iconst (-1), 1) := by decide +kernel
theorem dX10_haunts_26 : decode cX10_haunts 26 = .ok (.goto 18, 3) := by decide +kernel
theorem dX10_haunts_29 : decode cX10_haunts 29 = .ok (.aload_n 0, 1) := by decide +kernel
theorem dX10_haunts_30 : decode cX10_haunts 30 = .ok (.iload_n 1, 1) := by decide +kernel
theorem dX10_haunts_31 : decode cX10_haunts 31 = .ok (.iload_n 2, 1) := by decide +kernel
theorem dX10_haunts_32 : decode cX10_haunts 32 = .ok (.iload_n 3, 1) := by decide +kernel
theorem dX10_haunts_33 : decode cX10_haunts 33 = .ok (.invokevirtual 256, 3) := by decide +kernel
theorem dX10_haunts_36 : decode cX10_haunts 36 = .ok (.ifCond .le 7, 3) := by decide +kernel
theorem dX10_haunts_39 : decode cX10_haunts 39 = .ok (.iconst 1, 1) := by decide +kernel
theorem dX10_haunts_40 : decode cX10_haunts 40 = .ok (.goto 4, 3) := by decide +kernel
theorem dX10_haunts_43 : decode cX10_haunts 43 = .ok (.iconst 0, 1) := by decide +kernel
theorem dX10_haunts_44 : decode cX10_haunts 44 = .ok (.ireturn, 1) := by decide +kernel

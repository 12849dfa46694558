set_option maxRecDepth 20000 in
theorem gX10_copy_X10_isShelf : GoodIn wsX10_copy (va_wsS RX10 259 yX10_isShelf wsX10_isShelf) := goodIn_app (goodIn_c chX10_copy chX10_copy_in _ [(0, 4), (0, 5), (0, 6)] (by rfl) (by decide +kernel)) ggX10_copy_X10_isShelf
set_option maxRecDepth 20000 in
theorem ggX10_copy_X10_hasPlaces : GoodIn wsX10_copy wsX10_hasPlaces := goodIn_ca (goodIn_c chX10_copy chX10_copy_in _ [(0, 11), (0, 12)] (by rfl) (by decide +kernel)) (goodIn_sub (fun _ h => List.mem_cons_of_mem _ (List.mem_append_right _ (h))) (by decide +kernel))
set_option maxRecDepth 20000 in
theorem gX10_copy_X10_hasPlaces : GoodIn wsX10_copy (wsV RX10 267 RX10 yX10_hasPlaces wsX10_hasPlaces) := goodIn_app (goodIn_c chX10_copy chX10_copy_in _ [(0, 8), (0, 9), (0, 10), (0, 6)] (by rfl) (by decide +kernel)) ggX10_copy_X10_hasPlaces
theorem dX10_copy_0 : decode cX10_copy 0 = .ok (.aload_n 0, 1) := by decide +kernel
theorem dX10_copy_1 : decode cX10_copy 1 = .ok (.iconst 0, 1) := by decide +kernel
theorem dX10_copy_2 : decode cX10_copy 2 = .ok (.putfield 79, 3) := by decide +kernel
theorem dX10_copy_5 : decode cX10_copy 5 = .ok (.iload_n 1, 1) := by decide +kernel
theorem dX10_copy_6 : decode cX10_copy 6 = .ok (.invokestatic 259, 3) := by decide +kernel
theorem dX10_copy_9 : decode cX10_copy 9 = .ok (.ifCond .eq 10, 3) := by decide +kernel
theorem dX10_copy_12 : decode cX10_copy 12 = .ok (.iload_n 3, 1) := by decide +kernel
theorem dX10_copy_13 : decode cX10_copy 13 = .ok (.invokestatic 259, 3) := by decide +kernel
theorem dX10_copy_16 : decode cX10_copy 16 = .ok (.ifCond .ne 5, 3) := by decide +kernel
theorem dX10_copy_19 : decode cX10_copy 19 = .ok (.iconst (-1), 1) := by decide +kernel
theorem dX10_copy_20 : decode cX10_copy 20 = .ok (.ireturn, 1) := by decide +kernel
theorem dX10_copy_21 : decode cX10_copy 21 = .ok (.aload_n 0, 1) := by decide +kernel
theorem dX10_copy_22 : decode cX10_copy 22 = .ok (.getfield 61, 3) := by decide +kernel
theorem dX10_copy_25 : decode cX10_copy 25 = .ok (.iload_n 1, 1) := by decide +kernel
theorem dX10_copy_26 : decode cX10_copy 26 = .ok (.iaload, 1) := by decide +kernel
theorem dX10_copy_27 : decode cX10_copy 27 = .ok (.ifCond .eq 12, 3) := by decide +kernel
theorem dX10_copy_30 : decode cX10_copy 30 = .ok (.aload_n 0, 1) := by decide +kernel
theorem dX10_copy_31 : decode cX10_copy 31 = .ok (.getfield 61, 3) := by decide +kernel
theorem dX10_copy_34 : decode cX10_copy 34 = .ok (.iload_n 3, 1) := by decide +kernel
theorem dX10_copy_35 : decode cX10_copy 35 = .ok (.iaload, 1) := by decide +kernel
theorem dX10_copy_36 : decode cX10_copy 36 = .ok (.ifCond .ne 6, 3) := by decide +kernel
theorem dX10_copy_39 : decode cX10_copy 39 = .ok (.bipush (-11), 2) := by decide +kernel
theorem dX10_copy_41 : decode cX10_copy 41 = .ok (.ireturn, 1) := by decide +kernel
theorem dX10_copy_42 : decode cX10_copy 42 = .ok (.aload_n 0, 1) := by decide +kernel
theorem dX10_copy_43 : decode cX10_copy 43 = .ok (.getfield 61, 3) := by decide +kernel
theorem dX10_copy_46 : decode cX10_copy 46 = .ok (.iload_n 1, 1) := by decide +kernel
theorem dX10_copy_47 : decode cX10_copy 47 = .ok (.iaload, 1) := by decide +kernel
theorem dX10_copy_48 : decode cX10_copy 48 = .ok (.iconst 3, 1) := by decide +kernel
theorem dX10_copy_49 : decode cX10_copy 49 = .ok (.if_icmp .lt 18, 3) := by decide +kernel
theorem dX10_copy_52 : decode cX10_copy 52 = .ok (.aload_n 0, 1) := by decide +kernel
theorem dX10_copy_53 : decode cX10_copy 53 = .ok (.getfield 61, 3) := by decide +kernel
theorem dX10_copy_56 : decode cX10_copy 56 = .ok (.iload_n 1, 1) := by decide +kernel
theorem dX10_copy_57 : decode cX10_copy 57 = .ok (.iaload, 1) := by decide +kernel
theorem dX10_copy_58 : decode cX10_copy 58 = .ok (.aload_n 0, 1) := by decide +kernel
theorem dX10_copy_59 : decode cX10_copy 59 = .ok (.getfield 61, 3) := by decide +kernel
theorem dX10_copy_62 : decode cX10_copy 62 = .ok (.iload_n 3, 1) := by decide +kernel
theorem dX10_copy_63 : decode cX10_copy 63 = .ok (.iaload, 1) := by decide +kernel
theorem dX10_copy_64 : decode cX10_copy 64 = .ok (.if_icmp .eq 6, 3) := by decide +kernel
theorem dX10_copy_67 : decode cX10_copy 67 = .ok (.bipush (-12), 2) := by decide +kernel
theorem dX10_copy_69 : decode cX10_copy 69 = .ok (.ireturn, 1) := by decide +kernel
theorem dX10_copy_70 : decode cX10_copy 70 = .ok (.aload_n 0, 1) := by decide +kernel
theorem dX10_copy_71 : decode cX10_copy 71 = .ok (.iload_n 1, 1) := by decide +kernel
theorem dX10_copy_72 : decode cX10_copy 72 = .ok (.iload_n 2, 1) := by decide +kernel
theorem dX10_copy_73 : decode cX10_copy 73 = .ok (.iload 5, 2) := by decide +kernel
theorem dX10_copy_75 : decode cX10_copy 75 = .ok (.invokevirtual 267, 3) := by decide +kernel
theorem dX10_copy_78 : decode cX10_copy 78 = .ok (.ifCond .eq 15, 3) := by decide +kernel
theorem dX10_copy_81 : decode cX10_copy 81 = .ok (.aload_n 0, 1) := by decide +kernel
theorem dX10_copy_82 : decode cX10_copy 82 = .ok (.iload_n 3, 1) := by decide +kernel
theorem dX10_copy_83 : decode cX10_copy 83 = .ok (.iload 4, 2) := by decide +kernel
theorem dX10_copy_85 : decode cX10_copy 85 = .ok (.iload 5, 2) := by decide +kernel
theorem dX10_copy_87 : decode cX10_copy 87 = .ok (.invokevirtual 267, 3) := by decide +kernel
theorem dX10_copy_90 : decode cX10_copy 90 = .ok (.ifCond .ne 6, 3) := by decide +kernel
theorem dX10_copy_93 : decode cX10_copy 93 = .ok (.bipush (-13), 2) := by decide +kernel
theorem dX10_copy_95 : decode cX10_copy 95 = .ok (.ireturn, 1) := by decide +kernel
theorem dX10_copy_96 : decode cX10_copy 96 = .ok (.iconst 0, 1) := by decide +kernel
theorem dX10_copy_97 : decode cX10_copy 97 = .ok (.istore 6, 2) := by decide +kernel
theorem dX10_copy_99 : decode cX10_copy 99 = .ok (.iload 6, 2) := by decide +kernel
theorem dX10_copy_101 : decode cX10_copy 101 = .ok (.iload 5, 2) := by decide +kernel
theorem dX10_copy_103 : decode cX10_copy 103 = .ok (.if_icmp .ge 30, 3) := by decide +kernel
theorem dX10_copy_106 : decode cX10_copy 106 = .ok (.aload_n 0, 1) := by decide +kernel
theorem dX10_copy_107 : decode cX10_copy 107 = .ok (.getfield 76, 3) := by decide +kernel
theorem dX10_copy_110 : decode cX10_copy 110 = .ok (.iload 6, 2) := by decide +kernel
theorem dX10_copy_112 : decode cX10_copy 112 = .ok (.aload_n 0, 1) := by decide +kernel
theorem dX10_copy_113 : decode cX10_copy 113 = .ok (.getfield 73, 3) := by decide +kernel
theorem dX10_copy_116 : decode cX10_copy 116 = .ok (.bipush 60, 2) := by decide +kernel
theorem dX10_copy_118 : decode cX10_copy 118 = .ok (.iload_n 1, 1) := by decide +kernel
theorem dX10_copy_119 : decode cX10_copy 119 = .ok (.imul, 1) := by decide +kernel
theorem dX10_copy_120 : decode cX10_copy 120 = .ok (.iload_n 2, 1) := by decide +kernel
theorem dX10_copy_121 : decode cX10_copy 121 = .ok (.iadd, 1) := by decide +kernel
theorem dX10_copy_122 : decode cX10_copy 122 = .ok (.iload 6, 2) := by decide +kernel
theorem dX10_copy_124 : decode cX10_copy 124 = .ok (.iadd, 1) := by decide +kernel
theorem dX10_copy_125 : decode cX10_copy 125 = .ok (.laload, 1) := by decide +kernel
theorem dX10_copy_126 : decode cX10_copy 126 = .ok (.lastore, 1) := by decide +kernel
theorem dX10_copy_127 : decode cX10_copy 127 = .ok (.iinc 6 1, 3) := by decide +kernel
theorem dX10_copy_130 : decode cX10_copy 130 = .ok (.goto (-31), 3) := by decide +kernel
theorem dX10_copy_133 : decode cX10_copy 133 = .ok (.iconst 0, 1) := by decide +kernel
theorem dX10_copy_134 : decode cX10_copy 134 = .ok (.istore 6, 2) := by decide +kernel
theorem dX10_copy_136 : decode cX10_copy 136 = .ok (.iload 6, 2) := by decide +kernel
theorem dX10_copy_138 : decode cX10_copy 138 = .ok (.iload 5, 2) := by decide +kernel
theorem dX10_copy_140 : decode cX10_copy 140 = .ok (.if_icmp .ge 31, 3) := by decide +kernel
theorem dX10_copy_143 : decode cX10_copy 143 = .ok (.aload_n 0, 1) := by decide +kernel
theorem dX10_copy_144 : decode cX10_copy 144 = .ok (.getfield 73, 3) := by decide +kernel
theorem dX10_copy_147 : decode cX10_copy 147 = .ok (.bipush 60, 2) := by decide +kernel
theorem dX10_copy_149 : decode cX10_copy 149 = .ok (.iload_n 3, 1) := by decide +kernel
theorem dX10_copy_150 : decode cX10_copy 150 = .ok (.imul, 1) := by decide +kernel
theorem dX10_copy_151 : decode cX10_copy 151 = .ok (.iload 4, 2) := by decide +kernel
theorem dX10_copy_153 : decode cX10_copy 153 = .ok (.iadd, 1) := by decide +kernel
theorem dX10_copy_154 : decode cX10_copy 154 = .ok (.iload 6, 2) := by decide +kernel
theorem dX10_copy_156 : decode cX10_copy 156 = .ok (.iadd, 1) := by decide +kernel
theorem dX10_copy_157 : decode cX10_copy 157 = .ok (.aload_n 0, 1) := by decide +kernel
theorem dX10_copy_158 : decode cX10_copy 158 = .ok (.getfield 76, 3) := by decide +kernel
theorem dX10_copy_161 : decode cX10_copy 161 = .ok (.iload 6, 2) := by decide +kernel
theorem dX10_copy_163 : decode cX10_copy 163 = .ok (.laload, 1) := by decide +kernel
theorem dX10_copy_164 : decode cX10_copy 164 = .ok (.lastore, 1) := by decide +kernel
theorem dX10_copy_165 : decode cX10_copy 165 = .ok (.iinc 6 1, 3) := by decide +kernel
theorem dX10_copy_168 : decode cX10_copy 168 = .ok (.goto (-32), 3) := by decide +kernel
theorem dX10_copy_171 : decode cX10_copy 171 = .ok (.iload 5, 2) := by decide +kernel
theorem dX10_copy_173 : decode cX10_copy 173 = .ok (.ireturn, 1) := by decide +kernel
set_option maxRecDepth 20000 in
theorem ggX10_layer_X10_isShelf : GoodIn wsX10_layer wsX10_isShelf := goodIn_r _ [15] (by decide +kernel) (by decide +kernel)
def chX10_layer : List (List Cond) := [[.fieldLink RX10 79 "ShadowBenchModel" "thrown" "I", .constantLong RX10 250 (8), .constantLong RX10 185 (-1), .fieldLink RX10 61 "ShadowBenchModel" "shelf" "[I", .constantLong RX10 270 (-11), .constantLong RX10 272 (-12), .fieldLink RX10 64 "ShadowBenchModel" "shelfSize" "[I", .constantLong RX10 274 (-13), .fieldLink RX10 73 "ShadowBenchModel" "shelfRow" "[J", .constantLong RX10 276 (9), .constantLong RX10 189 (-2), .methodLink RX10 259 yX10_isShelf, .static yX10_isShelf, .initialized RX10, .code yX10_isShelf cX10_isShelf 1 (some .boolean), .methodLink RX10 85 yX10_isIn, .static yX10_isIn, .code yX10_isIn cX10_isIn 6 (some .boolean)], wsX100]
set_option maxRecDepth 20000 in
theorem chX10_layer_in : ∀ c ∈ chX10_layer, ∀ w ∈ c, w ∈ wsX10_layer := (all_c (P := fun c => ∀ w ∈ c, w ∈ wsX10_layer) (fun w h => List.mem_cons_of_mem _ (List.mem_append_left _ (h))) (all_c (P := fun c => ∀ w ∈ c, w ∈ wsX10_layer) (fun w h => List.mem_cons_of_mem _ (List.mem_append_right _ (h))) (fun _ h => nomatch h)))
set_option maxRecDepth 20000 in
theorem gX10_layer_X10_isShelf : GoodIn wsX10_layer (va_wsS RX10 259 yX10_isShelf wsX10_isShelf) := goodIn_app (goodIn_c chX10_layer chX10_layer_in _ [(0, 11), (0, 12), (0, 13)] (by rfl) (by decide +kernel)) ggX10_layer_X10_isShelf
set_option maxRecDepth 20000 in
theorem ggX10_layer_X10_isIn : GoodIn wsX10_layer wsX10_isIn := goodIn_r _ [18] (by decide +kernel) (by decide +kernel)
set_option maxRecDepth 20000 in
theorem gX10_layer_X10_isIn : GoodIn wsX10_layer (va_wsS RX10 85 yX10_isIn wsX10_isIn) := goodIn_app (goodIn_c chX10_layer chX10_layer_in _ [(0, 15), (0, 16), (0, 13)] (by rfl) (by decide +kernel)) ggX10_layer_X10_isIn
theorem dX10_layer_0 : decode cX10_layer 0 = .ok (.aload_n 0, 1) := by decide +kernel
theorem dX10_layer_1 : decode cX10_layer 1 = .ok (.iconst 0, 1) := by decide +kernel
theorem dX10_layer_2 : decode cX10_layer 2 = .ok (.putfield 79, 3) := by decide +kernel
theorem dX10_layer_5 : decode cX10_layer 5 = .ok (.iload_n 1, 1) := by decide +kernel
theorem dX10_layer_6 : decode cX10_layer 6 = .ok (.invokestatic 259, 3) := by decide +kernel
theorem dX10_layer_9 : decode cX10_layer 9 = .ok (.ifCond .eq 15, 3) := by decide +kernel
theorem dX10_layer_12 : decode cX10_layer 12 = .ok (.iload_n 2, 1) := by decide +kernel
theorem dX10_layer_13 : decode cX10_layer 13 = .ok (.i2l, 1) := by decide +kernel
theorem dX10_layer_14 : decode cX10_layer 14 = .ok (.lconst 0, 1) := by decide +kernel
theorem dX10_layer_15 : decode cX10_layer 15 = .ok (.ldc2_w 250, 3) := by decide +kernel
theorem dX10_layer_18 : decode cX10_layer 18 = .ok (.invokestatic 85, 3) := by decide +kernel
theorem dX10_layer_21 : decode cX10_layer 21 = .ok (.ifCond .ne 7, 3) := by decide +kernel
theorem dX10_layer_24 : decode cX10_layer 24 = .ok (.ldc2_w 185, 3) := by decide +kernel
theorem dX10_layer_27 : decode cX10_layer 27 = .ok (.lreturn, 1) := by decide +kernel
theorem dX10_layer_28 : decode cX10_layer 28 = .ok (.aload_n 0, 1) := by decide +kernel
theorem dX10_layer_29 : decode cX10_layer 29 = .ok (.getfield 61, 3) := by decide +kernel
theorem dX10_layer_32 : decode cX10_layer 32 = .ok (.iload_n 1, 1) := by decide +kernel
theorem dX10_layer_33 : decode cX10_layer 33 = .ok (.iaload, 1) := by decide +kernel
theorem dX10_layer_34 : decode cX10_layer 34 = .ok (.iconst 3, 1) := by decide +kernel
theorem dX10_layer_35 : decode cX10_layer 35 = .ok (.if_icmp .eq 22, 3) := by decide +kernel
theorem dX10_layer_38 : decode cX10_layer 38 = .ok (.aload_n 0, 1) := by decide +kernel
theorem dX10_layer_39 : decode cX10_layer 39 = .ok (.getfield 61, 3) := by decide +kernel
theorem dX10_layer_42 : decode cX10_layer 42 = .ok (.iload_n 1, 1) := by decide +kernel
theorem dX10_layer_43 : decode cX10_layer 43 = .ok (.iaload, 1) := by decide +kernel
theorem dX10_layer_44 : decode cX10_layer 44 = .ok (.ifCond .ne 9, 3) := by decide +kernel
theorem dX10_layer_47 : decode cX10_layer 47 = .ok (.ldc2_w 270, 3) := by decide +kernel
theorem dX10_layer_50 : decode cX10_layer 50 = .ok (.goto 6, 3) := by decide +kernel
theorem dX10_layer_53 : decode cX10_layer 53 = .ok (.ldc2_w 272, 3) := by decide +kernel
theorem dX10_layer_56 : decode cX10_layer 56 = .ok (.lreturn, 1) := by decide +kernel
theorem dX10_layer_57 : decode cX10_layer 57 = .ok (.aload_n 0, 1) := by decide +kernel
theorem dX10_layer_58 : decode cX10_layer 58 = .ok (.getfield 64, 3) := by decide +kernel
theorem dX10_layer_61 : decode cX10_layer 61 = .ok (.iload_n 1, 1) := by decide +kernel
theorem dX10_layer_62 : decode cX10_layer 62 = .ok (.iaload, 1) := by decide +kernel
theorem dX10_layer_63 : decode cX10_layer 63 = .ok (.bipush 36, 2) := by decide +kernel
theorem dX10_layer_65 : decode cX10_layer 65 = .ok (.if_icmp .le 7, 3) := by decide +kernel
theorem dX10_layer_68 : decode cX10_layer 68 = .ok (.ldc2_w 274, 3) := by decide +kernel
theorem dX10_layer_71 : decode cX10_layer 71 = .ok (.lreturn, 1) := by decide +kernel
theorem dX10_layer_72 : decode cX10_layer 72 = .ok (.lconst 0, 1) := by decide +kernel
theorem dX10_layer_73 : decode cX10_layer 73 = .ok (.lstore_n 3, 1) := by decide +kernel
theorem dX10_layer_74 : decode cX10_layer 74 = .ok (.iconst 0, 1) := by decide +kernel
theorem dX10_layer_75 : decode cX10_layer 75 = .ok (.istore 5, 2) := by decide +kernel
theorem dX10_layer_77 : decode cX10_layer 77 = .ok (.iload 5, 2) := by decide +kernel
theorem dX10_layer_79 : decode cX10_layer 79 = .ok (.aload_n 0, 1) := by decide +kernel
theorem dX10_layer_80 : decode cX10_layer 80 = .ok (.getfield 64, 3) := by decide +kernel
theorem dX10_layer_83 : decode cX10_layer 83 = .ok (.iload_n 1, 1) := by decide +kernel
theorem dX10_layer_84 : decode cX10_layer 84 = .ok (.iaload, 1) := by decide +kernel
theorem dX10_layer_85 : decode cX10_layer 85 = .ok (.if_icmp .ge 58, 3) := by decide +kernel
theorem dX10_layer_88 : decode cX10_layer 88 = .ok (.aload_n 0, 1) := by decide +kernel
theorem dX10_layer_89 : decode cX10_layer 89 = .ok (.getfield 73, 3) := by decide +kernel
theorem dX10_layer_92 : decode cX10_layer 92 = .ok (.bipush 60, 2) := by decide +kernel
theorem dX10_layer_94 : decode cX10_layer 94 = .ok (.iload_n 1, 1) := by decide +kernel
theorem dX10_layer_95 : decode cX10_layer 95 = .ok (.imul, 1) := by decide +kernel
theorem dX10_layer_96 : decode cX10_layer 96 = .ok (.iload 5, 2) := by decide +kernel
theorem dX10_layer_98 : decode cX10_layer 98 = .ok (.iadd, 1) := by decide +kernel
theorem dX10_layer_99 : decode cX10_layer 99 = .ok (.laload, 1) := by decide +kernel
theorem dX10_layer_100 : decode cX10_layer 100 = .ok (.lstore 6, 2) := by decide +kernel
theorem dX10_layer_102 : decode cX10_layer 102 = .ok (.lload 6, 2) := by decide +kernel
theorem dX10_layer_104 : decode cX10_layer 104 = .ok (.lconst 0, 1) := by decide +kernel
theorem dX10_layer_105 : decode cX10_layer 105 = .ok (.ldc2_w 276, 3) := by decide +kernel
theorem dX10_layer_108 : decode cX10_layer 108 = .ok (.invokestatic 85, 3) := by decide +kernel
theorem dX10_layer_111 : decode cX10_layer 111 = .ok (.ifCond .ne 7, 3) := by decide +kernel
theorem dX10_layer_114 : decode cX10_layer 114 = .ok (.ldc2_w 189, 3) := by decide +kernel
theorem dX10_layer_117 : decode cX10_layer 117 = .ok (.lreturn, 1) := by decide +kernel
theorem dX10_layer_118 : decode cX10_layer 118 = .ok (.lload_n 3, 1) := by decide +kernel
theorem dX10_layer_119 : decode cX10_layer 119 = .ok (.lload 6, 2) := by decide +kernel
theorem dX10_layer_121 : decode cX10_layer 121 = .ok (.iload_n 2, 1) := by decide +kernel
theorem dX10_layer_122 : decode cX10_layer 122 = .ok (.i2l, 1) := by decide +kernel
theorem dX10_layer_123 : decode cX10_layer 123 = .ok (.lcmp, 1) := by decide +kernel
theorem dX10_layer_124 : decode cX10_layer 124 = .ok (.ifCond .le 10, 3) := by decide +kernel
theorem dX10_layer_127 : decode cX10_layer 127 = .ok (.lconst 1, 1) := by decide +kernel
theorem dX10_layer_128 : decode cX10_layer 128 = .ok (.iload 5, 2) := by decide +kernel
theorem dX10_layer_130 : decode cX10_layer 130 = .ok (.lshl, 1) := by decide +kernel
theorem dX10_layer_131 : decode cX10_layer 131 = .ok (.goto 4, 3) := by decide +kernel
theorem dX10_layer_134 : decode cX10_layer 134 = .ok (.lconst 0, 1) := by decide +kernel
theorem dX10_layer_135 : decode cX10_layer 135 = .ok (.lor, 1) := by decide +kernel
theorem dX10_layer_136 : decode cX10_layer 136 = .ok (.lstore_n 3, 1) := by decide +kernel
theorem dX10_layer_137 : decode cX10_layer 137 = .ok (.iinc 5 1, 3) := by decide +kernel
theorem dX10_layer_140 : decode cX10_layer 140 = .ok (.goto (-63), 3) := by decide +kernel
theorem dX10_layer_143 : decode cX10_layer 143 = .ok (.lload_n 3, 1) := by decide +kernel
theorem dX10_layer_144 : decode cX10_layer 144 = .ok (.lreturn, 1) := by decide +kernel
set_option maxRecDepth 20000 in
theorem ggX10_weight_X10_isShelf : GoodIn wsX10_weight wsX10_isShelf := goodIn_r _ [7] (by decide +kernel) (by decide +kernel)
def chX10_weight : List (List Cond) := [[.fieldLink RX10 61 "ShadowBenchModel" "shelf" "[I", .fieldLink RX10 79 "ShadowBenchModel" "thrown" "I", .fieldLink RX10 67 "ShadowBenchModel" "shelfWeight" "[I", .methodLink RX10 259 yX10_isShelf, .static yX10_isShelf, .initialized RX10, .code yX10_isShelf cX10_isShelf 1 (some .boolean)], wsX100]
set_option maxRecDepth 20000 in
theorem chX10_weight_in : ∀ c ∈ chX10_weight, ∀ w ∈ c, w ∈ wsX10_weight := (all_c (P := fun c => ∀ w ∈ c, w ∈ wsX10_weight) (fun w h => List.mem_cons_of_mem _ (List.mem_append_left _ (h))) (all_c (P := fun c => ∀ w ∈ c, w ∈ wsX10_weight) (fun w h => List.mem_cons_of_mem _ (List.mem_append_right _ (h))) (fun _ h => nomatch h)))
set_option maxRecDepth 20000 in
theorem gX10_weight_X10_isShelf : GoodIn wsX10_weight (va_wsS RX10 259 yX10_isShelf wsX10_isShelf) := goodIn_app (goodIn_c chX10_weight chX10_weight_in _ [(0, 3), (0, 4), (0, 5)] (by rfl) (by decide +kernel)) ggX10_weight_X10_isShelf
theorem dX10_weight_0 : decode cX10_weight 0 = .ok (.aload_n 0, 1) := by decide +kernel
theorem dX10_weight_1 : decode cX10_weight 1 = .ok (.iload_n 1, 1) := by decide +kernel
theorem dX10_weight_2 : decode cX10_weight 2 = .ok (.invokestatic 259, 3) := by decide +kernel
theorem dX10_weight_5 : decode cX10_weight 5 = .ok (.ifCond .ne 7, 3) := by decide +kernel
theorem dX10_weight_8 : decode cX10_weight 8 = .ok (.iconst 1, 1) := by decide +kernel
theorem dX10_weight_9 : decode cX10_weight 9 = .ok (.goto 18, 3) := by decide +kernel
theorem dX10_weight_12 : decode cX10_weight 12 = .ok (.aload_n 0, 1) := by decide +kernel
theorem dX10_weight_13 : decode cX10_weight 13 = .ok (.getfield 61, 3) := by decide +kernel
theorem dX10_weight_16 : decode cX10_weight 16 = .ok (.iload_n 1, 1) := by decide +kernel
theorem dX10_weight_17 : decode cX10_weight 17 = .ok (.iaload, 1) := by decide +kernel
theorem dX10_weight_18 : decode cX10_weight 18 = .ok (.iconst 1, 1) := by decide +kernel
theorem dX10_weight_19 : decode cX10_weight 19 = .ok (.if_icmp .eq 7, 3) := by decide +kernel
theorem dX10_weight_22 : decode cX10_weight 22 = .ok (.iconst 2, 1) := by decide +kernel
theorem dX10_weight_23 : decode cX10_weight 23 = .ok (.goto 4, 3) := by decide +kernel
theorem dX10_weight_26 : decode cX10_weight 26 = .ok (.iconst 0, 1) := by decide +kernel
theorem dX10_weight_27 : decode cX10_weight 27 = .ok (.putfield 79, 3) := by decide +kernel
theorem dX10_weight_30 : decode cX10_weight 30 = .ok (.aload_n 0, 1) := by decide +kernel
theorem dX10_weight_31 : decode cX10_weight 31 = .ok (.getfield 79, 3) := by decide +kernel
theorem dX10_weight_34 : decode cX10_weight 34 = .ok (.ifCond .le 7, 3) := by decide +kernel
theorem dX10_weight_37 : decode cX10_weight 37 = .ok (.iconst 0, 1) := by decide +kernel
theorem dX10_weight_38 : decode cX10_weight 38 = .ok (.goto 9, 3) := by decide +kernel
theorem dX10_weight_41 : decode cX10_weight 41 = .ok (.aload_n 0, 1) := by decide +kernel
theorem dX10_weight_42 : decode cX10_weight 42 = .ok (.getfield 67, 3) := by decide +kernel
theorem dX10_weight_45 : decode cX10_weight 45 = .ok (.iload_n 1, 1) := by decide +kernel
theorem dX10_weight_46 : decode cX10_weight 46 = .ok (.iaload, 1) := by decide +kernel
theorem dX10_weight_47 : decode cX10_weight 47 = .ok (.ireturn, 1) := by decide +kernel
set_option maxRecDepth 20000 in
theorem ggX10_toss_X10_isShelf : GoodIn wsX10_toss wsX10_isShelf := goodIn_r _ [7] (by decide +kernel) (by decide +kernel)
def chX10_toss : List (List Cond) := [[.fieldLink RX10 79 "ShadowBenchModel" "thrown" "I", .fieldLink RX10 61 "ShadowBenchModel" "shelf" "[I", .fieldLink RX10 70 "ShadowBenchModel" "shelfFailure" "[I", .methodLink RX10 259 yX10_isShelf, .static yX10_isShelf, .initialized RX10, .code yX10_isShelf cX10_isShelf 1 (some .boolean)], wsX100]
set_option maxRecDepth 20000 in
theorem chX10_toss_in : ∀ c ∈ chX10_toss, ∀ w ∈ c, w ∈ wsX10_toss := (all_c (P := fun c => ∀ w ∈ c, w ∈ wsX10_toss) (fun w h => List.mem_cons_of_mem _ (List.mem_append_left _ (h))) (all_c (P := fun c => ∀ w ∈ c, w ∈ wsX10_toss) (fun w h => List.mem_cons_of_mem _ (List.mem_append_right _ (h))) (fun _ h => nomatch h)))
set_option maxRecDepth 20000 in
theorem gX10_toss_X10_isShelf : GoodIn wsX10_toss (va_wsS RX10 259 yX10_isShelf wsX10_isShelf) := goodIn_app (goodIn_c chX10_toss chX10_toss_in _ [(0, 3), (0, 4), (0, 5)] (by rfl) (by decide +kernel)) ggX10_toss_X10_isShelf
theorem dX10_toss_0 : decode cX10_toss 0 = .ok (.aload_n 0, 1) := by decide +kernel
theorem dX10_toss_1 : decode cX10_toss 1 = .ok (.iconst 0, 1) := by decide +kernel
theorem dX10_toss_2 : decode cX10_toss 2 = .ok (.putfield 79, 3) := by decide +kernel
theorem dX10_toss_5 : decode cX10_toss 5 = .ok (.iload_n 1, 1) := by decide +kernel
theorem dX10_toss_6 : decode cX10_toss 6 = .ok (.invokestatic 259, 3) := by decide +kernel
theorem dX10_toss_9 : decode cX10_toss 9 = .ok (.ifCond .ne 7, 3) := by decide +kernel
theorem dX10_toss_12 : decode cX10_toss 12 = .ok (.iconst (-1), 1) := by decide +kernel
theorem dX10_toss_13 : decode cX10_toss 13 = .ok (.goto 38, 3) := by decide +kernel
theorem dX10_toss_16 : decode cX10_toss 16 = .ok (.aload_n 0, 1) := by decide +kernel
theorem dX10_toss_17 : decode cX10_toss 17 = .ok (.getfield 61, 3) := by decide +kernel
theorem dX10_toss_20 : decode cX10_toss 20 = .ok (.iload_n 1, 1) := by decide +kernel
theorem dX10_toss_21 : decode cX10_toss 21 = .ok (.iaload, 1) := by decide +kernel
theorem dX10_toss_22 : decode cX10_toss 22 = .ok (.ifCond .ne 8, 3) := by decide +kernel
theorem dX10_toss_25 : decode cX10_toss 25 = .ok (.bipush (-11), 2) := by decide +kernel
theorem dX10_toss_27 : decode cX10_toss 27 = .ok (.goto 24, 3) := by decide +kernel
theorem dX10_toss_30 : decode cX10_toss 30 = .ok (.aload_n 0, 1) := by decide +kernel
theorem dX10_toss_31 : decode cX10_toss 31 = .ok (.getfield 61, 3) := by decide +kernel
theorem dX10_toss_34 : decode cX10_toss 34 = .ok (.iload_n 1, 1) := by decide +kernel
theorem dX10_toss_35 : decode cX10_toss 35 = .ok (.iaload, 1) := by decide +kernel
theorem dX10_toss_36 : decode cX10_toss 36 = .ok (.iconst 1, 1) := by decide +kernel
theorem dX10_toss_37 : decode cX10_toss 37 = .ok (.if_icmp .le 8, 3) := by decide +kernel
theorem dX10_toss_40 : decode cX10_toss 40 = .ok (.bipush (-12), 2) := by decide +kernel
theorem dX10_toss_42 : decode cX10_toss 42 = .ok (.goto 9, 3) := by decide +kernel
theorem dX10_toss_45 : decode cX10_toss 45 = .ok (.aload_n 0, 1) := by decide +kernel
theorem dX10_toss_46 : decode cX10_toss 46 = .ok (.getfield 70, 3) := by decide +kernel
theorem dX10_toss_49 : decode cX10_toss 49 = .ok (.iload_n 1, 1) := by decide +kernel
theorem dX10_toss_50 : decode cX10_toss 50 = .ok (.iaload, 1) := by decide +kernel
theorem dX10_toss_51 : decode cX10_toss 51 = .ok (.ireturn, 1) := by decide +kernel

abbrev cX10_begin : ByteArray := prog_12_method_29_code
def yX10_begin : MethodName := ⟨RX10, "begin", "()V"⟩
abbrev cX10_picture : ByteArray := prog_12_method_30_code
def yX10_picture : MethodName := ⟨RX10, "picture", "(II)J"⟩
abbrev cX10_goesOn : ByteArray := prog_12_method_31_code
def yX10_goesOn : MethodName := ⟨RX10, "goesOn", "(I)Z"⟩
def wsX10_begin : List Cond := .code yX10_begin cX10_begin 1 none :: ([.fieldLink RX10 157 "ShadowBenchModel" "depth" "I", .fieldLink RX10 35 "ShadowBenchModel" "rows" "[I", .fieldLink RX10 160 "ShadowBenchModel" "tries" "I", .fieldLink RX10 163 "ShadowBenchModel" "spent" "Z"] ++ wsX100)
def wsX10_picture : List Cond := .code yX10_picture cX10_picture 6 (some .long) :: ([.fieldLink RX10 35 "ShadowBenchModel" "rows" "[I", .fieldLink RX10 13 "ShadowBenchModel" "wide" "[I"] ++ wsX100)
def wsX10_goesOn : List Cond := .code yX10_goesOn cX10_goesOn 10 (some .boolean) :: ([.fieldLink RX10 13 "ShadowBenchModel" "wide" "[I", .fieldLink RX10 26 "ShadowBenchModel" "held" "[I", .fieldLink RX10 157 "ShadowBenchModel" "depth" "I", .fieldLink RX10 35 "ShadowBenchModel" "rows" "[I", .fieldLink RX10 19 "ShadowBenchModel" "sums" "[I"] ++ wsX100)
theorem dX10_begin_0 : decode cX10_begin 0 = .ok (.aload_n 0, 1) := by decide +kernel
theorem dX10_begin_1 : decode cX10_begin 1 = .ok (.iconst 0, 1) := by decide +kernel
theorem dX10_begin_2 : decode cX10_begin 2 = .ok (.putfield 157, 3) := by decide +kernel
theorem dX10_begin_5 : decode cX10_begin 5 = .ok (.aload_n 0, 1) := by decide +kernel
theorem dX10_begin_6 : decode cX10_begin 6 = .ok (.getfield 35, 3) := by decide +kernel
theorem dX10_begin_9 : decode cX10_begin 9 = .ok (.iconst 0, 1) := by decide +kernel
theorem dX10_begin_10 : decode cX10_begin 10 = .ok (.iconst (-1), 1) := by decide +kernel
theorem dX10_begin_11 : decode cX10_begin 11 = .ok (.iastore, 1) := by decide +kernel
theorem dX10_begin_12 : decode cX10_begin 12 = .ok (.aload_n 0, 1) := by decide +kernel
theorem dX10_begin_13 : decode cX10_begin 13 = .ok (.iconst 0, 1) := by decide +kernel
theorem dX10_begin_14 : decode cX10_begin 14 = .ok (.putfield 160, 3) := by decide +kernel
theorem dX10_begin_17 : decode cX10_begin 17 = .ok (.aload_n 0, 1) := by decide +kernel
theorem dX10_begin_18 : decode cX10_begin 18 = .ok (.iconst 0, 1) := by decide +kernel
theorem dX10_begin_19 : decode cX10_begin 19 = .ok (.putfield 163, 3) := by decide +kernel
theorem dX10_begin_22 : decode cX10_begin 22 = .ok (.return_, 1) := by decide +kernel
theorem dX10_picture_0 : decode cX10_picture 0 = .ok (.lconst 0, 1) := by decide +kernel
theorem dX10_picture_1 : decode cX10_picture 1 = .ok (.lstore_n 3, 1) := by decide +kernel
theorem dX10_picture_2 : decode cX10_picture 2 = .ok (.iconst 0, 1) := by decide +kernel
theorem dX10_picture_3 : decode cX10_picture 3 = .ok (.istore 5, 2) := by decide +kernel
theorem dX10_picture_5 : decode cX10_picture 5 = .ok (.iload 5, 2) := by decide +kernel
theorem dX10_picture_7 : decode cX10_picture 7 = .ok (.iload_n 2, 1) := by decide +kernel
theorem dX10_picture_8 : decode cX10_picture 8 = .ok (.if_icmp .ge 30, 3) := by decide +kernel
theorem dX10_picture_11 : decode cX10_picture 11 = .ok (.lload_n 3, 1) := by decide +kernel
theorem dX10_picture_12 : decode cX10_picture 12 = .ok (.aload_n 0, 1) := by decide +kernel
theorem dX10_picture_13 : decode cX10_picture 13 = .ok (.getfield 35, 3) := by decide +kernel
theorem dX10_picture_16 : decode cX10_picture 16 = .ok (.iload 5, 2) := by decide +kernel
theorem dX10_picture_18 : decode cX10_picture 18 = .ok (.iaload, 1) := by decide +kernel
theorem dX10_picture_19 : decode cX10_picture 19 = .ok (.i2l, 1) := by decide +kernel
theorem dX10_picture_20 : decode cX10_picture 20 = .ok (.iload 5, 2) := by decide +kernel
theorem dX10_picture_22 : decode cX10_picture 22 = .ok (.aload_n 0, 1) := by decide +kernel
theorem dX10_picture_23 : decode cX10_picture 23 = .ok (.getfield 13, 3) := by decide +kernel
theorem dX10_picture_26 : decode cX10_picture 26 = .ok (.iload_n 1, 1) := by decide +kernel
theorem dX10_picture_27 : decode cX10_picture 27 = .ok (.iaload, 1) := by decide +kernel
theorem dX10_picture_28 : decode cX10_picture 28 = .ok (.imul, 1) := by decide +kernel
theorem dX10_picture_29 : decode cX10_picture 29 = .ok (.lshl, 1) := by decide +kernel
theorem dX10_picture_30 : decode cX10_picture 30 = .ok (.lor, 1) := by decide +kernel
theorem dX10_picture_31 : decode cX10_picture 31 = .ok (.lstore_n 3, 1) := by decide +kernel
theorem dX10_picture_32 : decode cX10_picture 32 = .ok (.iinc 5 1, 3) := by decide +kernel
theorem dX10_picture_35 : decode cX10_picture 35 = .ok (.goto (-30), 3) := by decide +kernel
theorem dX10_picture_38 : decode cX10_picture 38 = .ok (.lload_n 3, 1) := by decide +kernel
theorem dX10_picture_39 : decode cX10_picture 39 = .ok (.lreturn, 1) := by decide +kernel
theorem dX10_goesOn_0 : decode cX10_goesOn 0 = .ok (.aload_n 0, 1) := by decide +kernel
theorem dX10_goesOn_1 : decode cX10_goesOn 1 = .ok (.getfield 13, 3) := by decide +kernel
theorem dX10_goesOn_4 : decode cX10_goesOn 4 = .ok (.iload_n 1, 1) := by decide +kernel
theorem dX10_goesOn_5 : decode cX10_goesOn 5 = .ok (.iaload, 1) := by decide +kernel
theorem dX10_goesOn_6 : decode cX10_goesOn 6 = .ok (.istore_n 2, 1) := by decide +kernel
theorem dX10_goesOn_7 : decode cX10_goesOn 7 = .ok (.iconst 0, 1) := by decide +kernel
theorem dX10_goesOn_8 : decode cX10_goesOn 8 = .ok (.istore_n 3, 1) := by decide +kernel
theorem dX10_goesOn_9 : decode cX10_goesOn 9 = .ok (.iconst 1, 1) := by decide +kernel
theorem dX10_goesOn_10 : decode cX10_goesOn 10 = .ok (.istore 4, 2) := by decide +kernel
theorem dX10_goesOn_12 : decode cX10_goesOn 12 = .ok (.iconst 0, 1) := by decide +kernel
theorem dX10_goesOn_13 : decode cX10_goesOn 13 = .ok (.istore 5, 2) := by decide +kernel
theorem dX10_goesOn_15 : decode cX10_goesOn 15 = .ok (.iload 5, 2) := by decide +kernel
theorem dX10_goesOn_17 : decode cX10_goesOn 17 = .ok (.iload_n 2, 1) := by decide +kernel
theorem dX10_goesOn_18 : decode cX10_goesOn 18 = .ok (.if_icmp .ge 134, 3) := by decide +kernel
theorem dX10_goesOn_21 : decode cX10_goesOn 21 = .ok (.aload_n 0, 1) := by decide +kernel
theorem dX10_goesOn_22 : decode cX10_goesOn 22 = .ok (.getfield 26, 3) := by decide +kernel
theorem dX10_goesOn_25 : decode cX10_goesOn 25 = .ok (.bipush 36, 2) := by decide +kernel
theorem dX10_goesOn_27 : decode cX10_goesOn 27 = .ok (.iload_n 1, 1) := by decide +kernel
theorem dX10_goesOn_28 : decode cX10_goesOn 28 = .ok (.imul, 1) := by decide +kernel
theorem dX10_goesOn_29 : decode cX10_goesOn 29 = .ok (.aload_n 0, 1) := by decide +kernel
theorem dX10_goesOn_30 : decode cX10_goesOn 30 = .ok (.getfield 157, 3) := by decide +kernel
theorem dX10_goesOn_33 : decode cX10_goesOn 33 = .ok (.iload_n 2, 1) := by decide +kernel
theorem dX10_goesOn_34 : decode cX10_goesOn 34 = .ok (.imul, 1) := by decide +kernel
theorem dX10_goesOn_35 : decode cX10_goesOn 35 = .ok (.iadd, 1) := by decide +kernel
theorem dX10_goesOn_36 : decode cX10_goesOn 36 = .ok (.iload 5, 2) := by decide +kernel
theorem dX10_goesOn_38 : decode cX10_goesOn 38 = .ok (.iadd, 1) := by decide +kernel
theorem dX10_goesOn_39 : decode cX10_goesOn 39 = .ok (.iaload, 1) := by decide +kernel
theorem dX10_goesOn_40 : decode cX10_goesOn 40 = .ok (.istore 6, 2) := by decide +kernel
theorem dX10_goesOn_42 : decode cX10_goesOn 42 = .ok (.aload_n 0, 1) := by decide +kernel
theorem dX10_goesOn_43 : decode cX10_goesOn 43 = .ok (.getfield 35, 3) := by decide +kernel
theorem dX10_goesOn_46 : decode cX10_goesOn 46 = .ok (.aload_n 0, 1) := by decide +kernel
theorem dX10_goesOn_47 : decode cX10_goesOn 47 = .ok (.getfield 157, 3) := by decide +kernel
theorem dX10_goesOn_50 : decode cX10_goesOn 50 = .ok (.iaload, 1) := by decide +kernel
theorem dX10_goesOn_51 : decode cX10_goesOn 51 = .ok (.iload 5, 2) := by decide +kernel
theorem dX10_goesOn_53 : decode cX10_goesOn 53 = .ok (.ishr, 1) := by decide +kernel
theorem dX10_goesOn_54 : decode cX10_goesOn 54 = .ok (.iconst 1, 1) := by decide +kernel
theorem dX10_goesOn_55 : decode cX10_goesOn 55 = .ok (.iand, 1) := by decide +kernel
theorem dX10_goesOn_56 : decode cX10_goesOn 56 = .ok (.istore 7, 2) := by decide +kernel
theorem dX10_goesOn_58 : decode cX10_goesOn 58 = .ok (.iconst 0, 1) := by decide +kernel
theorem dX10_goesOn_59 : decode cX10_goesOn 59 = .ok (.istore 8, 2) := by decide +kernel
theorem dX10_goesOn_61 : decode cX10_goesOn 61 = .ok (.iconst 0, 1) := by decide +kernel
theorem dX10_goesOn_62 : decode cX10_goesOn 62 = .ok (.istore 9, 2) := by decide +kernel
theorem dX10_goesOn_64 : decode cX10_goesOn 64 = .ok (.iload 9, 2) := by decide +kernel
theorem dX10_goesOn_66 : decode cX10_goesOn 66 = .ok (.aload_n 0, 1) := by decide +kernel
theorem dX10_goesOn_67 : decode cX10_goesOn 67 = .ok (.getfield 157, 3) := by decide +kernel
theorem dX10_goesOn_70 : decode cX10_goesOn 70 = .ok (.if_icmp .gt 26, 3) := by decide +kernel
theorem dX10_goesOn_73 : decode cX10_goesOn 73 = .ok (.iload 8, 2) := by decide +kernel
theorem dX10_goesOn_75 : decode cX10_goesOn 75 = .ok (.aload_n 0, 1) := by decide +kernel
theorem dX10_goesOn_76 : decode cX10_goesOn 76 = .ok (.getfield 35, 3) := by decide +kernel
theorem dX10_goesOn_79 : decode cX10_goesOn 79 = .ok (.iload 9, 2) := by decide +kernel
theorem dX10_goesOn_81 : decode cX10_goesOn 81 = .ok (.iaload, 1) := by decide +kernel
theorem dX10_goesOn_82 : decode cX10_goesOn 82 = .ok (.iload 5, 2) := by decide +kernel
theorem dX10_goesOn_84 : decode cX10_goesOn 84 = .ok (.ishr, 1) := by decide +kernel
theorem dX10_goesOn_85 : decode cX10_goesOn 85 = .ok (.iconst 1, 1) := by decide +kernel
theorem dX10_goesOn_86 : decode cX10_goesOn 86 = .ok (.iand, 1) := by decide +kernel
theorem dX10_goesOn_87 : decode cX10_goesOn 87 = .ok (.iadd, 1) := by decide +kernel
theorem dX10_goesOn_88 : decode cX10_goesOn 88 = .ok (.istore 8, 2) := by decide +kernel
theorem dX10_goesOn_90 : decode cX10_goesOn 90 = .ok (.iinc 9 1, 3) := by decide +kernel
theorem dX10_goesOn_93 : decode cX10_goesOn 93 = .ok (.goto (-29), 3) := by decide +kernel
theorem dX10_goesOn_96 : decode cX10_goesOn 96 = .ok (.iload 4, 2) := by decide +kernel
theorem dX10_goesOn_98 : decode cX10_goesOn 98 = .ok (.ifCond .eq 40, 3) := by decide +kernel
theorem dX10_goesOn_101 : decode cX10_goesOn 101 = .ok (.iload 6, 2) := by decide +kernel
theorem dX10_goesOn_103 : decode cX10_goesOn 103 = .ok (.iconst 2, 1) := by decide +kernel
theorem dX10_goesOn_104 : decode cX10_goesOn 104 = .ok (.if_icmp .eq 10, 3) := by decide +kernel
theorem dX10_goesOn_107 : decode cX10_goesOn 107 = .ok (.iload 6, 2) := by decide +kernel
theorem dX10_goesOn_109 : decode cX10_goesOn 109 = .ok (.iload 7, 2) := by decide +kernel
theorem dX10_goesOn_111 : decode cX10_goesOn 111 = .ok (.if_icmp .ne 27, 3) := by decide +kernel
theorem dX10_goesOn_114 : decode cX10_goesOn 114 = .ok (.iload 8, 2) := by decide +kernel
theorem dX10_goesOn_116 : decode cX10_goesOn 116 = .ok (.aload_n 0, 1) := by decide +kernel
theorem dX10_goesOn_117 : decode cX10_goesOn 117 = .ok (.getfield 19, 3) := by decide +kernel
theorem dX10_goesOn_120 : decode cX10_goesOn 120 = .ok (.bipush 44, 2) := by decide +kernel
theorem dX10_goesOn_122 : decode cX10_goesOn 122 = .ok (.iload_n 1, 1) := by decide +kernel
theorem dX10_goesOn_123 : decode cX10_goesOn 123 = .ok (.imul, 1) := by decide +kernel
theorem dX10_goesOn_124 : decode cX10_goesOn 124 = .ok (.bipush 11, 2) := by decide +kernel
theorem dX10_goesOn_126 : decode cX10_goesOn 126 = .ok (.iadd, 1) := by decide +kernel
theorem dX10_goesOn_127 : decode cX10_goesOn 127 = .ok (.iload 5, 2) := by decide +kernel
theorem dX10_goesOn_129 : decode cX10_goesOn 129 = .ok (.iadd, 1) := by decide +kernel
theorem dX10_goesOn_130 : decode cX10_goesOn 130 = .ok (.iaload, 1) := by decide +kernel
theorem dX10_goesOn_131 : decode cX10_goesOn 131 = .ok (.if_icmp .gt 7, 3) := by decide +kernel
theorem dX10_goesOn_134 : decode cX10_goesOn 134 = .ok (.iconst 1, 1) := by decide +kernel
theorem dX10_goesOn_135 : decode cX10_goesOn 135 = .ok (.goto 4, 3) := by decide +kernel
theorem dX10_goesOn_138 : decode cX10_goesOn 138 = .ok (.iconst 0, 1) := by decide +kernel
theorem dX10_goesOn_139 : decode cX10_goesOn 139 = .ok (.istore 4, 2) := by decide +kernel
theorem dX10_goesOn_141 : decode cX10_goesOn 141 = .ok (.iload_n 3, 1) := by decide +kernel
theorem dX10_goesOn_142 : decode cX10_goesOn 142 = .ok (.iload 7, 2) := by decide +kernel
theorem dX10_goesOn_144 : decode cX10_goesOn 144 = .ok (.iadd, 1) := by decide +kernel
theorem dX10_goesOn_145 : decode cX10_goesOn 145 = .ok (.istore_n 3, 1) := by decide +kernel
theorem dX10_goesOn_146 : decode cX10_goesOn 146 = .ok (.iinc 5 1, 3) := by decide +kernel
theorem dX10_goesOn_149 : decode cX10_goesOn 149 = .ok (.goto (-134), 3) := by decide +kernel
theorem dX10_goesOn_152 : decode cX10_goesOn 152 = .ok (.iload 4, 2) := by decide +kernel
theorem dX10_goesOn_154 : decode cX10_goesOn 154 = .ok (.ifCond .eq 25, 3) := by decide +kernel
theorem dX10_goesOn_157 : decode cX10_goesOn 157 = .ok (.iload_n 3, 1) := by decide +kernel
theorem dX10_goesOn_158 : decode cX10_goesOn 158 = .ok (.aload_n 0, 1) := by decide +kernel
theorem dX10_goesOn_159 : decode cX10_goesOn 159 = .ok (.getfield 19, 3) := by decide +kernel
theorem dX10_goesOn_162 : decode cX10_goesOn 162 = .ok (.bipush 44, 2) := by decide +kernel
theorem dX10_goesOn_164 : decode cX10_goesOn 164 = .ok (.iload_n 1, 1) := by decide +kernel
theorem dX10_goesOn_165 : decode cX10_goesOn 165 = .ok (.imul, 1) := by decide +kernel
theorem dX10_goesOn_166 : decode cX10_goesOn 166 = .ok (.aload_n 0, 1) := by decide +kernel
theorem dX10_goesOn_167 : decode cX10_goesOn 167 = .ok (.getfield 157, 3) := by decide +kernel
theorem dX10_goesOn_170 : decode cX10_goesOn 170 = .ok (.iadd, 1) := by decide +kernel
theorem dX10_goesOn_171 : decode cX10_goesOn 171 = .ok (.iaload, 1) := by decide +kernel
theorem dX10_goesOn_172 : decode cX10_goesOn 172 = .ok (.if_icmp .ne 7, 3) := by decide +kernel
theorem dX10_goesOn_175 : decode cX10_goesOn 175 = .ok (.iconst 1, 1) := by decide +kernel
theorem dX10_goesOn_176 : decode cX10_goesOn 176 = .ok (.goto 4, 3) := by decide +kernel
theorem dX10_goesOn_179 : decode cX10_goesOn 179 = .ok (.iconst 0, 1) := by decide +kernel
theorem dX10_goesOn_180 : decode cX10_goesOn 180 = .ok (.ireturn, 1) := by decide +kernel

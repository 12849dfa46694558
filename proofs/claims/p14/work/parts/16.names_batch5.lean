abbrev cX10_isJoined : ByteArray := prog_12_method_24_code
def yX10_isJoined : MethodName := ⟨RX10, "isJoined", "(IIJ)Z"⟩
abbrev cX10_isKind : ByteArray := prog_12_method_26_code
def yX10_isKind : MethodName := ⟨RX10, "isKind", "(IJ)Z"⟩
abbrev cX10_isFitting : ByteArray := prog_12_method_27_code
def yX10_isFitting : MethodName := ⟨RX10, "isFitting", "(IJ)Z"⟩
def wsX10_isJoined : List Cond := .code yX10_isJoined cX10_isJoined 9 (some .boolean) :: ([.fieldLink RX10 32 "ShadowBenchModel" "met" "[Z", .methodLink RX10 104 yX10_one, .static yX10_one, .initialized RX10, .code yX10_one cX10_one 3 (some .int)] ++ wsX100)
def wsX10_isKind : List Cond := .code yX10_isKind cX10_isKind 6 (some .boolean) :: ([.fieldLink RX10 13 "ShadowBenchModel" "wide" "[I", .fieldLink RX10 16 "ShadowBenchModel" "high" "[I", .fieldLink RX10 7 "ShadowBenchModel" "kind" "[I", .methodLink RX10 143 yX10_isJoined, .instanceMethod yX10_isJoined, .selects RX10 yX10_isJoined yX10_isJoined, .initialized RX10, .code yX10_isJoined cX10_isJoined 9 (some .boolean), .fieldLink RX10 32 "ShadowBenchModel" "met" "[Z", .methodLink RX10 104 yX10_one, .static yX10_one, .code yX10_one cX10_one 3 (some .int), .methodLink RX10 146 yX10_isEven, .static yX10_isEven, .code yX10_isEven cX10_isEven 13 (some .boolean)] ++ wsX100)
def wsX10_isFitting_r1 : List Cond := [Cond.fieldLink RX10 13 "ShadowBenchModel" "wide" "[I", Cond.fieldLink RX10 16 "ShadowBenchModel" "high" "[I", Cond.fieldLink RX10 26 "ShadowBenchModel" "held" "[I", Cond.fieldLink RX10 22 "ShadowBenchModel" "isTold" "[Z", Cond.fieldLink RX10 19 "ShadowBenchModel" "sums" "[I", Cond.methodLink RX10 104 yX10_one, Cond.static yX10_one, Cond.initialized RX10, Cond.code yX10_one cX10_one 3 (some .int), Cond.methodLink RX10 108 yX10_linesOf, Cond.static yX10_linesOf, Cond.code yX10_linesOf cX10_linesOf 3 (some .int), Cond.methodLink RX10 112 yX10_shadowOf, Cond.static yX10_shadowOf, Cond.code yX10_shadowOf cX10_shadowOf 8 (some .int), Cond.methodLink RX10 100 yX10_lineOf, Cond.static yX10_lineOf, Cond.code yX10_lineOf cX10_lineOf 4 (some .int), Cond.methodLink RX10 150 yX10_isKind, Cond.instanceMethod yX10_isKind, Cond.selects RX10 yX10_isKind yX10_isKind, Cond.code yX10_isKind cX10_isKind 6 (some .boolean), Cond.fieldLink RX10 7 "ShadowBenchModel" "kind" "[I", Cond.methodLink RX10 143 yX10_isJoined]
def wsX10_isFitting_r2 : List Cond := [Cond.instanceMethod yX10_isJoined, Cond.selects RX10 yX10_isJoined yX10_isJoined, Cond.code yX10_isJoined cX10_isJoined 9 (some .boolean), Cond.fieldLink RX10 32 "ShadowBenchModel" "met" "[Z", Cond.methodLink RX10 146 yX10_isEven, Cond.static yX10_isEven, Cond.code yX10_isEven cX10_isEven 13 (some .boolean)]
def wsX10_isFitting : List Cond := .code yX10_isFitting cX10_isFitting 7 (some .boolean) :: ((wsX10_isFitting_r1 ++ wsX10_isFitting_r2) ++ wsX100)
set_option maxRecDepth 20000 in
theorem ggX10_isJoined_X10_one : GoodIn wsX10_isJoined wsX10_one := goodIn_r _ [5] (by decide +kernel) (by decide +kernel)
def chX10_isJoined : List (List Cond) := [[.fieldLink RX10 32 "ShadowBenchModel" "met" "[Z", .methodLink RX10 104 yX10_one, .static yX10_one, .initialized RX10, .code yX10_one cX10_one 3 (some .int)], wsX100]
set_option maxRecDepth 20000 in
theorem chX10_isJoined_in : ∀ c ∈ chX10_isJoined, ∀ w ∈ c, w ∈ wsX10_isJoined := (all_c (P := fun c => ∀ w ∈ c, w ∈ wsX10_isJoined) (fun w h => List.mem_cons_of_mem _ (List.mem_append_left _ (h))) (all_c (P := fun c => ∀ w ∈ c, w ∈ wsX10_isJoined) (fun w h => List.mem_cons_of_mem _ (List.mem_append_right _ (h))) (fun _ h => nomatch h)))
set_option maxRecDepth 20000 in
theorem gX10_isJoined_X10_one : GoodIn wsX10_isJoined (va_wsS RX10 104 yX10_one wsX10_one) := goodIn_app (goodIn_c chX10_isJoined chX10_isJoined_in _ [(0, 1), (0, 2), (0, 3)] (by rfl) (by decide +kernel)) ggX10_isJoined_X10_one
theorem dX10_isJoined_0 : decode cX10_isJoined 0 = .ok (.iconst (-1), 1) := by decide +kernel
theorem dX10_isJoined_1 : decode cX10_isJoined 1 = .ok (.istore 5, 2) := by decide +kernel
theorem dX10_isJoined_3 : decode cX10_isJoined 3 = .ok (.iload_n 1, 1) := by decide +kernel
theorem dX10_isJoined_4 : decode cX10_isJoined 4 = .ok (.iload_n 2, 1) := by decide +kernel
theorem dX10_isJoined_5 : decode cX10_isJoined 5 = .ok (.imul, 1) := by decide +kernel
theorem dX10_isJoined_6 : decode cX10_isJoined 6 = .ok (.iconst 1, 1) := by decide +kernel
theorem dX10_isJoined_7 : decode cX10_isJoined 7 = .ok (.isub, 1) := by decide +kernel
theorem dX10_isJoined_8 : decode cX10_isJoined 8 = .ok (.istore 6, 2) := by decide +kernel
theorem dX10_isJoined_10 : decode cX10_isJoined 10 = .ok (.iload 6, 2) := by decide +kernel
theorem dX10_isJoined_12 : decode cX10_isJoined 12 = .ok (.ifCond .lt 36, 3) := by decide +kernel
theorem dX10_isJoined_15 : decode cX10_isJoined 15 = .ok (.aload_n 0, 1) := by decide +kernel
theorem dX10_isJoined_16 : decode cX10_isJoined 16 = .ok (.getfield 32, 3) := by decide +kernel
theorem dX10_isJoined_19 : decode cX10_isJoined 19 = .ok (.iload 6, 2) := by decide +kernel
theorem dX10_isJoined_21 : decode cX10_isJoined 21 = .ok (.iconst 0, 1) := by decide +kernel
theorem dX10_isJoined_22 : decode cX10_isJoined 22 = .ok (.bastore, 1) := by decide +kernel
theorem dX10_isJoined_23 : decode cX10_isJoined 23 = .ok (.lload_n 3, 1) := by decide +kernel
theorem dX10_isJoined_24 : decode cX10_isJoined 24 = .ok (.iload 6, 2) := by decide +kernel
theorem dX10_isJoined_26 : decode cX10_isJoined 26 = .ok (.invokestatic 104, 3) := by decide +kernel
theorem dX10_isJoined_29 : decode cX10_isJoined 29 = .ok (.iconst 1, 1) := by decide +kernel
theorem dX10_isJoined_30 : decode cX10_isJoined 30 = .ok (.if_icmp .ne 8, 3) := by decide +kernel
theorem dX10_isJoined_33 : decode cX10_isJoined 33 = .ok (.iload 6, 2) := by decide +kernel
theorem dX10_isJoined_35 : decode cX10_isJoined 35 = .ok (.goto 5, 3) := by decide +kernel
theorem dX10_isJoined_38 : decode cX10_isJoined 38 = .ok (.iload 5, 2) := by decide +kernel
theorem dX10_isJoined_40 : decode cX10_isJoined 40 = .ok (.istore 5, 2) := by decide +kernel
theorem dX10_isJoined_42 : decode cX10_isJoined 42 = .ok (.iinc 6 (-1), 3) := by decide +kernel
theorem dX10_isJoined_45 : decode cX10_isJoined 45 = .ok (.goto (-35), 3) := by decide +kernel
theorem dX10_isJoined_48 : decode cX10_isJoined 48 = .ok (.iload 5, 2) := by decide +kernel
theorem dX10_isJoined_50 : decode cX10_isJoined 50 = .ok (.ifCond .ge 5, 3) := by decide +kernel
theorem dX10_isJoined_53 : decode cX10_isJoined 53 = .ok (.iconst 1, 1) := by decide +kernel
theorem dX10_isJoined_54 : decode cX10_isJoined 54 = .ok (.ireturn, 1) := by decide +kernel
theorem dX10_isJoined_55 : decode cX10_isJoined 55 = .ok (.aload_n 0, 1) := by decide +kernel
theorem dX10_isJoined_56 : decode cX10_isJoined 56 = .ok (.getfield 32, 3) := by decide +kernel
theorem dX10_isJoined_59 : decode cX10_isJoined 59 = .ok (.iload 5, 2) := by decide +kernel
theorem dX10_isJoined_61 : decode cX10_isJoined 61 = .ok (.iconst 1, 1) := by decide +kernel
theorem dX10_isJoined_62 : decode cX10_isJoined 62 = .ok (.bastore, 1) := by decide +kernel
theorem dX10_isJoined_63 : decode cX10_isJoined 63 = .ok (.iconst 1, 1) := by decide +kernel
theorem dX10_isJoined_64 : decode cX10_isJoined 64 = .ok (.istore 6, 2) := by decide +kernel
theorem dX10_isJoined_66 : decode cX10_isJoined 66 = .ok (.iload 6, 2) := by decide +kernel
theorem dX10_isJoined_68 : decode cX10_isJoined 68 = .ok (.ifCond .eq 150, 3) := by decide +kernel
theorem dX10_isJoined_71 : decode cX10_isJoined 71 = .ok (.iconst 0, 1) := by decide +kernel
theorem dX10_isJoined_72 : decode cX10_isJoined 72 = .ok (.istore 6, 2) := by decide +kernel
theorem dX10_isJoined_74 : decode cX10_isJoined 74 = .ok (.iconst 0, 1) := by decide +kernel
theorem dX10_isJoined_75 : decode cX10_isJoined 75 = .ok (.istore 7, 2) := by decide +kernel
theorem dX10_isJoined_77 : decode cX10_isJoined 77 = .ok (.iload 7, 2) := by decide +kernel
theorem dX10_isJoined_79 : decode cX10_isJoined 79 = .ok (.iload_n 1, 1) := by decide +kernel
theorem dX10_isJoined_80 : decode cX10_isJoined 80 = .ok (.iload_n 2, 1) := by decide +kernel
theorem dX10_isJoined_81 : decode cX10_isJoined 81 = .ok (.imul, 1) := by decide +kernel
theorem dX10_isJoined_82 : decode cX10_isJoined 82 = .ok (.if_icmp .ge 133, 3) := by decide +kernel
theorem dX10_isJoined_85 : decode cX10_isJoined 85 = .ok (.iload 7, 2) := by decide +kernel
theorem dX10_isJoined_87 : decode cX10_isJoined 87 = .ok (.iload_n 1, 1) := by decide +kernel
theorem dX10_isJoined_88 : decode cX10_isJoined 88 = .ok (.irem, 1) := by decide +kernel
theorem dX10_isJoined_89 : decode cX10_isJoined 89 = .ok (.ifCond .le 15, 3) := by decide +kernel
theorem dX10_isJoined_92 : decode cX10_isJoined 92 = .ok (.aload_n 0, 1) := by decide +kernel
theorem dX10_isJoined_93 : decode cX10_isJoined 93 = .ok (.getfield 32, 3) := by decide +kernel
theorem dX10_isJoined_96 : decode cX10_isJoined 96 = .ok (.iload 7, 2) := by decide +kernel
theorem dX10_isJoined_98 : decode cX10_isJoined 98 = .ok (.iconst 1, 1) := by decide +kernel
theorem dX10_isJoined_99 : decode cX10_isJoined 99 = .ok (.isub, 1) := by decide +kernel
theorem dX10_isJoined_100 : decode cX10_isJoined 100 = .ok (.baload, 1) := by decide +kernel
theorem dX10_isJoined_101 : decode cX10_isJoined 101 = .ok (.ifCond .ne 65, 3) := by decide +kernel
theorem dX10_isJoined_104 : decode cX10_isJoined 104 = .ok (.iload 7, 2) := by decide +kernel
theorem dX10_isJoined_106 : decode cX10_isJoined 106 = .ok (.iload_n 1, 1) := by decide +kernel
theorem dX10_isJoined_107 : decode cX10_isJoined 107 = .ok (.irem, 1) := by decide +kernel
theorem dX10_isJoined_108 : decode cX10_isJoined 108 = .ok (.iconst 1, 1) := by decide +kernel
theorem dX10_isJoined_109 : decode cX10_isJoined 109 = .ok (.iadd, 1) := by decide +kernel
theorem dX10_isJoined_110 : decode cX10_isJoined 110 = .ok (.iload_n 1, 1) := by decide +kernel
theorem dX10_isJoined_111 : decode cX10_isJoined 111 = .ok (.if_icmp .ge 15, 3) := by decide +kernel
theorem dX10_isJoined_114 : decode cX10_isJoined 114 = .ok (.aload_n 0, 1) := by decide +kernel
theorem dX10_isJoined_115 : decode cX10_isJoined 115 = .ok (.getfield 32, 3) := by decide +kernel
theorem dX10_isJoined_118 : decode cX10_isJoined 118 = .ok (.iload 7, 2) := by decide +kernel
theorem dX10_isJoined_120 : decode cX10_isJoined 120 = .ok (.iconst 1, 1) := by decide +kernel
theorem dX10_isJoined_121 : decode cX10_isJoined 121 = .ok (.iadd, 1) := by decide +kernel
theorem dX10_isJoined_122 : decode cX10_isJoined 122 = .ok (.baload, 1) := by decide +kernel
theorem dX10_isJoined_123 : decode cX10_isJoined 123 = .ok (.ifCond .ne 43, 3) := by decide +kernel
theorem dX10_isJoined_126 : decode cX10_isJoined 126 = .ok (.iload 7, 2) := by decide +kernel
theorem dX10_isJoined_128 : decode cX10_isJoined 128 = .ok (.iload_n 1, 1) := by decide +kernel
theorem dX10_isJoined_129 : decode cX10_isJoined 129 = .ok (.if_icmp .lt 15, 3) := by decide +kernel
theorem dX10_isJoined_132 : decode cX10_isJoined 132 = .ok (.aload_n 0, 1) := by decide +kernel
theorem dX10_isJoined_133 : decode cX10_isJoined 133 = .ok (.getfield 32, 3) := by decide +kernel
theorem dX10_isJoined_136 : decode cX10_isJoined 136 = .ok (.iload 7, 2) := by decide +kernel
theorem dX10_isJoined_138 : decode cX10_isJoined 138 = .ok (.iload_n 1, 1) := by decide +kernel
theorem dX10_isJoined_139 : decode cX10_isJoined 139 = .ok (.isub, 1) := by decide +kernel
theorem dX10_isJoined_140 : decode cX10_isJoined 140 = .ok (.baload, 1) := by decide +kernel
theorem dX10_isJoined_141 : decode cX10_isJoined 141 = .ok (.ifCond .ne 25, 3) := by decide +kernel
theorem dX10_isJoined_144 : decode cX10_isJoined 144 = .ok (.iload 7, 2) := by decide +kernel
theorem dX10_isJoined_146 : decode cX10_isJoined 146 = .ok (.iload_n 1, 1) := by decide +kernel
theorem dX10_isJoined_147 : decode cX10_isJoined 147 = .ok (.iadd, 1) := by decide +kernel
theorem dX10_isJoined_148 : decode cX10_isJoined 148 = .ok (.iload_n 1, 1) := by decide +kernel
theorem dX10_isJoined_149 : decode cX10_isJoined 149 = .ok (.iload_n 2, 1) := by decide +kernel
theorem dX10_isJoined_150 : decode cX10_isJoined 150 = .ok (.imul, 1) := by decide +kernel
theorem dX10_isJoined_151 : decode cX10_isJoined 151 = .ok (.if_icmp .ge 19, 3) := by decide +kernel
theorem dX10_isJoined_154 : decode cX10_isJoined 154 = .ok (.aload_n 0, 1) := by decide +kernel
theorem dX10_isJoined_155 : decode cX10_isJoined 155 = .ok (.getfield 32, 3) := by decide +kernel
theorem dX10_isJoined_158 : decode cX10_isJoined 158 = .ok (.iload 7, 2) := by decide +kernel
theorem dX10_isJoined_160 : decode cX10_isJoined 160 = .ok (.iload_n 1, 1) := by decide +kernel
theorem dX10_isJoined_161 : decode cX10_isJoined 161 = .ok (.iadd, 1) := by decide +kernel
theorem dX10_isJoined_162 : decode cX10_isJoined 162 = .ok (.baload, 1) := by decide +kernel
theorem dX10_isJoined_163 : decode cX10_isJoined 163 = .ok (.ifCond .eq 7, 3) := by decide +kernel
theorem dX10_isJoined_166 : decode cX10_isJoined 166 = .ok (.iconst 1, 1) := by decide +kernel
theorem dX10_isJoined_167 : decode cX10_isJoined 167 = .ok (.goto 4, 3) := by decide +kernel
theorem dX10_isJoined_170 : decode cX10_isJoined 170 = .ok (.iconst 0, 1) := by decide +kernel
theorem dX10_isJoined_171 : decode cX10_isJoined 171 = .ok (.istore 8, 2) := by decide +kernel
theorem dX10_isJoined_173 : decode cX10_isJoined 173 = .ok (.lload_n 3, 1) := by decide +kernel
theorem dX10_isJoined_174 : decode cX10_isJoined 174 = .ok (.iload 7, 2) := by decide +kernel
theorem dX10_isJoined_176 : decode cX10_isJoined 176 = .ok (.invokestatic 104, 3) := by decide +kernel
theorem dX10_isJoined_179 : decode cX10_isJoined 179 = .ok (.iconst 1, 1) := by decide +kernel
theorem dX10_isJoined_180 : decode cX10_isJoined 180 = .ok (.if_icmp .ne 29, 3) := by decide +kernel
theorem dX10_isJoined_183 : decode cX10_isJoined 183 = .ok (.aload_n 0, 1) := by decide +kernel
theorem dX10_isJoined_184 : decode cX10_isJoined 184 = .ok (.getfield 32, 3) := by decide +kernel
theorem dX10_isJoined_187 : decode cX10_isJoined 187 = .ok (.iload 7, 2) := by decide +kernel
theorem dX10_isJoined_189 : decode cX10_isJoined 189 = .ok (.baload, 1) := by decide +kernel
theorem dX10_isJoined_190 : decode cX10_isJoined 190 = .ok (.ifCond .ne 19, 3) := by decide +kernel
theorem dX10_isJoined_193 : decode cX10_isJoined 193 = .ok (.iload 8, 2) := by decide +kernel
theorem dX10_isJoined_195 : decode cX10_isJoined 195 = .ok (.ifCond .eq 14, 3) := by decide +kernel
theorem dX10_isJoined_198 : decode cX10_isJoined 198 = .ok (.aload_n 0, 1) := by decide +kernel
theorem dX10_isJoined_199 : decode cX10_isJoined 199 = .ok (.getfield 32, 3) := by decide +kernel
theorem dX10_isJoined_202 : decode cX10_isJoined 202 = .ok (.iload 7, 2) := by decide +kernel
theorem dX10_isJoined_204 : decode cX10_isJoined 204 = .ok (.iconst 1, 1) := by decide +kernel
theorem dX10_isJoined_205 : decode cX10_isJoined 205 = .ok (.bastore, 1) := by decide +kernel
theorem dX10_isJoined_206 : decode cX10_isJoined 206 = .ok (.iconst 1, 1) := by decide +kernel
theorem dX10_isJoined_207 : decode cX10_isJoined 207 = .ok (.istore 6, 2) := by decide +kernel
theorem dX10_isJoined_209 : decode cX10_isJoined 209 = .ok (.iinc 7 1, 3) := by decide +kernel
theorem dX10_isJoined_212 : decode cX10_isJoined 212 = .ok (.goto (-135), 3) := by decide +kernel
theorem dX10_isJoined_215 : decode cX10_isJoined 215 = .ok (.goto (-149), 3) := by decide +kernel
theorem dX10_isJoined_218 : decode cX10_isJoined 218 = .ok (.iconst 1, 1) := by decide +kernel
theorem dX10_isJoined_219 : decode cX10_isJoined 219 = .ok (.istore 7, 2) := by decide +kernel
theorem dX10_isJoined_221 : decode cX10_isJoined 221 = .ok (.iconst 0, 1) := by decide +kernel
theorem dX10_isJoined_222 : decode cX10_isJoined 222 = .ok (.istore 8, 2) := by decide +kernel
theorem dX10_isJoined_224 : decode cX10_isJoined 224 = .ok (.iload 8, 2) := by decide +kernel
theorem dX10_isJoined_226 : decode cX10_isJoined 226 = .ok (.iload_n 1, 1) := by decide +kernel
theorem dX10_isJoined_227 : decode cX10_isJoined 227 = .ok (.iload_n 2, 1) := by decide +kernel
theorem dX10_isJoined_228 : decode cX10_isJoined 228 = .ok (.imul, 1) := by decide +kernel
theorem dX10_isJoined_229 : decode cX10_isJoined 229 = .ok (.if_icmp .ge 40, 3) := by decide +kernel
theorem dX10_isJoined_232 : decode cX10_isJoined 232 = .ok (.iload 7, 2) := by decide +kernel
theorem dX10_isJoined_234 : decode cX10_isJoined 234 = .ok (.ifCond .eq 26, 3) := by decide +kernel
theorem dX10_isJoined_237 : decode cX10_isJoined 237 = .ok (.lload_n 3, 1) := by decide +kernel
theorem dX10_isJoined_238 : decode cX10_isJoined 238 = .ok (.iload 8, 2) := by decide +kernel
theorem dX10_isJoined_240 : decode cX10_isJoined 240 = .ok (.invokestatic 104, 3) := by decide +kernel
theorem dX10_isJoined_243 : decode cX10_isJoined 243 = .ok (.ifCond .eq 13, 3) := by decide +kernel
theorem dX10_isJoined_246 : decode cX10_isJoined 246 = .ok (.aload_n 0, 1) := by decide +kernel
theorem dX10_isJoined_247 : decode cX10_isJoined 247 = .ok (.getfield 32, 3) := by decide +kernel
theorem dX10_isJoined_250 : decode cX10_isJoined 250 = .ok (.iload 8, 2) := by decide +kernel
theorem dX10_isJoined_252 : decode cX10_isJoined 252 = .ok (.baload, 1) := by decide +kernel
theorem dX10_isJoined_253 : decode cX10_isJoined 253 = .ok (.ifCond .eq 7, 3) := by decide +kernel
theorem dX10_isJoined_256 : decode cX10_isJoined 256 = .ok (.iconst 1, 1) := by decide +kernel
theorem dX10_isJoined_257 : decode cX10_isJoined 257 = .ok (.goto 4, 3) := by decide +kernel
theorem dX10_isJoined_260 : decode cX10_isJoined 260 = .ok (.iconst 0, 1) := by decide +kernel
theorem dX10_isJoined_261 : decode cX10_isJoined 261 = .ok (.istore 7, 2) := by decide +kernel
theorem dX10_isJoined_263 : decode cX10_isJoined 263 = .ok (.iinc 8 1, 3) := by decide +kernel
theorem dX10_isJoined_266 : decode cX10_isJoined 266 = .ok (.goto (-42), 3) := by decide +kernel
theorem dX10_isJoined_269 : decode cX10_isJoined 269 = .ok (.iload 7, 2) := by decide +kernel
theorem dX10_isJoined_271 : decode cX10_isJoined 271 = .ok (.ireturn, 1) := by decide +kernel
def chX10_isKind : List (List Cond) := [[.fieldLink RX10 13 "ShadowBenchModel" "wide" "[I", .fieldLink RX10 16 "ShadowBenchModel" "high" "[I", .fieldLink RX10 7 "ShadowBenchModel" "kind" "[I", .methodLink RX10 143 yX10_isJoined, .instanceMethod yX10_isJoined, .selects RX10 yX10_isJoined yX10_isJoined, .initialized RX10, .code yX10_isJoined cX10_isJoined 9 (some .boolean), .fieldLink RX10 32 "ShadowBenchModel" "met" "[Z", .methodLink RX10 104 yX10_one, .static yX10_one, .code yX10_one cX10_one 3 (some .int), .methodLink RX10 146 yX10_isEven, .static yX10_isEven, .code yX10_isEven cX10_isEven 13 (some .boolean)], wsX100]
set_option maxRecDepth 20000 in
theorem chX10_isKind_in : ∀ c ∈ chX10_isKind, ∀ w ∈ c, w ∈ wsX10_isKind := (all_c (P := fun c => ∀ w ∈ c, w ∈ wsX10_isKind) (fun w h => List.mem_cons_of_mem _ (List.mem_append_left _ (h))) (all_c (P := fun c => ∀ w ∈ c, w ∈ wsX10_isKind) (fun w h => List.mem_cons_of_mem _ (List.mem_append_right _ (h))) (fun _ h => nomatch h)))
set_option maxRecDepth 20000 in
theorem ggX10_isKind_X10_isJoined : GoodIn wsX10_isKind wsX10_isJoined := goodIn_ca (goodIn_c chX10_isKind chX10_isKind_in _ [(0, 7), (0, 8), (0, 9), (0, 10), (0, 6), (0, 11)] (by rfl) (by decide +kernel)) (goodIn_sub (fun _ h => List.mem_cons_of_mem _ (List.mem_append_right _ (h))) (by decide +kernel))
set_option maxRecDepth 20000 in
theorem gX10_isKind_X10_isJoined : GoodIn wsX10_isKind (wsV RX10 143 RX10 yX10_isJoined wsX10_isJoined) := goodIn_app (goodIn_c chX10_isKind chX10_isKind_in _ [(0, 3), (0, 4), (0, 5), (0, 6)] (by rfl) (by decide +kernel)) ggX10_isKind_X10_isJoined
set_option maxRecDepth 20000 in
theorem ggX10_isKind_X10_isEven : GoodIn wsX10_isKind wsX10_isEven := goodIn_r _ [15, 10, 11, 7, 12] (by decide +kernel) (by decide +kernel)
set_option maxRecDepth 20000 in
theorem gX10_isKind_X10_isEven : GoodIn wsX10_isKind (va_wsS RX10 146 yX10_isEven wsX10_isEven) := goodIn_app (goodIn_c chX10_isKind chX10_isKind_in _ [(0, 12), (0, 13), (0, 6)] (by rfl) (by decide +kernel)) ggX10_isKind_X10_isEven
theorem dX10_isKind_0 : decode cX10_isKind 0 = .ok (.aload_n 0, 1) := by decide +kernel
theorem dX10_isKind_1 : decode cX10_isKind 1 = .ok (.getfield 13, 3) := by decide +kernel
theorem dX10_isKind_4 : decode cX10_isKind 4 = .ok (.iload_n 1, 1) := by decide +kernel
theorem dX10_isKind_5 : decode cX10_isKind 5 = .ok (.iaload, 1) := by decide +kernel
theorem dX10_isKind_6 : decode cX10_isKind 6 = .ok (.istore 4, 2) := by decide +kernel
theorem dX10_isKind_8 : decode cX10_isKind 8 = .ok (.aload_n 0, 1) := by decide +kernel
theorem dX10_isKind_9 : decode cX10_isKind 9 = .ok (.getfield 16, 3) := by decide +kernel
theorem dX10_isKind_12 : decode cX10_isKind 12 = .ok (.iload_n 1, 1) := by decide +kernel
theorem dX10_isKind_13 : decode cX10_isKind 13 = .ok (.iaload, 1) := by decide +kernel
theorem dX10_isKind_14 : decode cX10_isKind 14 = .ok (.istore 5, 2) := by decide +kernel
theorem dX10_isKind_16 : decode cX10_isKind 16 = .ok (.aload_n 0, 1) := by decide +kernel
theorem dX10_isKind_17 : decode cX10_isKind 17 = .ok (.getfield 7, 3) := by decide +kernel
theorem dX10_isKind_20 : decode cX10_isKind 20 = .ok (.iload_n 1, 1) := by decide +kernel
theorem dX10_isKind_21 : decode cX10_isKind 21 = .ok (.iaload, 1) := by decide +kernel
theorem dX10_isKind_22 : decode cX10_isKind 22 = .ok (.ifCond .eq 13, 3) := by decide +kernel
theorem dX10_isKind_25 : decode cX10_isKind 25 = .ok (.aload_n 0, 1) := by decide +kernel
theorem dX10_isKind_26 : decode cX10_isKind 26 = .ok (.getfield 7, 3) := by decide +kernel
theorem dX10_isKind_29 : decode cX10_isKind 29 = .ok (.iload_n 1, 1) := by decide +kernel
theorem dX10_isKind_30 : decode cX10_isKind 30 = .ok (.iaload, 1) := by decide +kernel
theorem dX10_isKind_31 : decode cX10_isKind 31 = .ok (.iconst 3, 1) := by decide +kernel
theorem dX10_isKind_32 : decode cX10_isKind 32 = .ok (.if_icmp .ne 5, 3) := by decide +kernel
theorem dX10_isKind_35 : decode cX10_isKind 35 = .ok (.iconst 1, 1) := by decide +kernel
theorem dX10_isKind_36 : decode cX10_isKind 36 = .ok (.ireturn, 1) := by decide +kernel
theorem dX10_isKind_37 : decode cX10_isKind 37 = .ok (.aload_n 0, 1) := by decide +kernel
theorem dX10_isKind_38 : decode cX10_isKind 38 = .ok (.iload 4, 2) := by decide +kernel
theorem dX10_isKind_40 : decode cX10_isKind 40 = .ok (.iload 5, 2) := by decide +kernel
theorem dX10_isKind_42 : decode cX10_isKind 42 = .ok (.lload_n 2, 1) := by decide +kernel
theorem dX10_isKind_43 : decode cX10_isKind 43 = .ok (.invokevirtual 143, 3) := by decide +kernel
theorem dX10_isKind_46 : decode cX10_isKind 46 = .ok (.ifCond .eq 41, 3) := by decide +kernel
theorem dX10_isKind_49 : decode cX10_isKind 49 = .ok (.aload_n 0, 1) := by decide +kernel
theorem dX10_isKind_50 : decode cX10_isKind 50 = .ok (.getfield 7, 3) := by decide +kernel
theorem dX10_isKind_53 : decode cX10_isKind 53 = .ok (.iload_n 1, 1) := by decide +kernel
theorem dX10_isKind_54 : decode cX10_isKind 54 = .ok (.iaload, 1) := by decide +kernel
theorem dX10_isKind_55 : decode cX10_isKind 55 = .ok (.iconst 1, 1) := by decide +kernel
theorem dX10_isKind_56 : decode cX10_isKind 56 = .ok (.if_icmp .eq 27, 3) := by decide +kernel
theorem dX10_isKind_59 : decode cX10_isKind 59 = .ok (.iload 4, 2) := by decide +kernel
theorem dX10_isKind_61 : decode cX10_isKind 61 = .ok (.iload 5, 2) := by decide +kernel
theorem dX10_isKind_63 : decode cX10_isKind 63 = .ok (.lload_n 2, 1) := by decide +kernel
theorem dX10_isKind_64 : decode cX10_isKind 64 = .ok (.iconst 0, 1) := by decide +kernel
theorem dX10_isKind_65 : decode cX10_isKind 65 = .ok (.invokestatic 146, 3) := by decide +kernel
theorem dX10_isKind_68 : decode cX10_isKind 68 = .ok (.ifCond .eq 19, 3) := by decide +kernel
theorem dX10_isKind_71 : decode cX10_isKind 71 = .ok (.iload 4, 2) := by decide +kernel
theorem dX10_isKind_73 : decode cX10_isKind 73 = .ok (.iload 5, 2) := by decide +kernel
theorem dX10_isKind_75 : decode cX10_isKind 75 = .ok (.lload_n 2, 1) := by decide +kernel
theorem dX10_isKind_76 : decode cX10_isKind 76 = .ok (.iconst 1, 1) := by decide +kernel
theorem dX10_isKind_77 : decode cX10_isKind 77 = .ok (.invokestatic 146, 3) := by decide +kernel
theorem dX10_isKind_80 : decode cX10_isKind 80 = .ok (.ifCond .eq 7, 3) := by decide +kernel
theorem dX10_isKind_83 : decode cX10_isKind 83 = .ok (.iconst 1, 1) := by decide +kernel
theorem dX10_isKind_84 : decode cX10_isKind 84 = .ok (.goto 4, 3) := by decide +kernel
theorem dX10_isKind_87 : decode cX10_isKind 87 = .ok (.iconst 0, 1) := by decide +kernel
theorem dX10_isKind_88 : decode cX10_isKind 88 = .ok (.ireturn, 1) := by decide +kernel
set_option maxRecDepth 20000 in
theorem ggX10_isFitting_X10_one : GoodIn wsX10_isFitting wsX10_one := goodIn_r _ [9] (by decide +kernel) (by decide +kernel)
def chX10_isFitting : List (List Cond) := [wsX10_isFitting_r1, wsX10_isFitting_r2, wsX100]
set_option maxRecDepth 20000 in
theorem chX10_isFitting_in : ∀ c ∈ chX10_isFitting, ∀ w ∈ c, w ∈ wsX10_isFitting := (all_c (P := fun c => ∀ w ∈ c, w ∈ wsX10_isFitting) (fun w h => List.mem_cons_of_mem _ (List.mem_append_left _ (List.mem_append_left _ (h)))) (all_c (P := fun c => ∀ w ∈ c, w ∈ wsX10_isFitting) (fun w h => List.mem_cons_of_mem _ (List.mem_append_left _ (List.mem_append_right _ (h)))) (all_c (P := fun c => ∀ w ∈ c, w ∈ wsX10_isFitting) (fun w h => List.mem_cons_of_mem _ (List.mem_append_right _ (h))) (fun _ h => nomatch h))))
set_option maxRecDepth 20000 in
theorem gX10_isFitting_X10_one : GoodIn wsX10_isFitting (va_wsS RX10 104 yX10_one wsX10_one) := goodIn_app (goodIn_c chX10_isFitting chX10_isFitting_in _ [(0, 5), (0, 6), (0, 7)] (by rfl) (by decide +kernel)) ggX10_isFitting_X10_one
set_option maxRecDepth 20000 in
theorem ggX10_isFitting_X10_linesOf : GoodIn wsX10_isFitting wsX10_linesOf := goodIn_r _ [12] (by decide +kernel) (by decide +kernel)
set_option maxRecDepth 20000 in
theorem gX10_isFitting_X10_linesOf : GoodIn wsX10_isFitting (va_wsS RX10 108 yX10_linesOf wsX10_linesOf) := goodIn_app (goodIn_c chX10_isFitting chX10_isFitting_in _ [(0, 9), (0, 10), (0, 7)] (by rfl) (by decide +kernel)) ggX10_isFitting_X10_linesOf
set_option maxRecDepth 20000 in
theorem ggX10_isFitting_X10_shadowOf : GoodIn wsX10_isFitting wsX10_shadowOf := goodIn_c chX10_isFitting chX10_isFitting_in _ [(0, 14), (0, 15), (0, 16), (0, 7), (0, 17), (0, 5), (0, 6), (0, 8)] (by rfl) (by decide +kernel)
set_option maxRecDepth 20000 in
theorem gX10_isFitting_X10_shadowOf : GoodIn wsX10_isFitting (va_wsS RX10 112 yX10_shadowOf wsX10_shadowOf) := goodIn_app (goodIn_c chX10_isFitting chX10_isFitting_in _ [(0, 12), (0, 13), (0, 7)] (by rfl) (by decide +kernel)) ggX10_isFitting_X10_shadowOf
set_option maxRecDepth 20000 in
theorem ggX10_isFitting_X10_isKind : GoodIn wsX10_isFitting wsX10_isKind := goodIn_ca (goodIn_c chX10_isFitting chX10_isFitting_in _ [(0, 21), (0, 0), (0, 1), (0, 22), (0, 23), (1, 0), (1, 1), (0, 7), (1, 2), (1, 3), (0, 5), (0, 6), (0, 8), (1, 4), (1, 5), (1, 6)] (by rfl) (by decide +kernel)) (goodIn_sub (fun _ h => List.mem_cons_of_mem _ (List.mem_append_right _ (h))) (by decide +kernel))
set_option maxRecDepth 20000 in
theorem gX10_isFitting_X10_isKind : GoodIn wsX10_isFitting (wsV RX10 150 RX10 yX10_isKind wsX10_isKind) := goodIn_app (goodIn_c chX10_isFitting chX10_isFitting_in _ [(0, 18), (0, 19), (0, 20), (0, 7)] (by rfl) (by decide +kernel)) ggX10_isFitting_X10_isKind
theorem dX10_isFitting_0 : decode cX10_isFitting 0 = .ok (.iconst 1, 1) := by decide +kernel
theorem dX10_isFitting_1 : decode cX10_isFitting 1 = .ok (.istore 4, 2) := by decide +kernel
theorem dX10_isFitting_3 : decode cX10_isFitting 3 = .ok (.iconst 0, 1) := by decide +kernel
theorem dX10_isFitting_4 : decode cX10_isFitting 4 = .ok (.istore 5, 2) := by decide +kernel
theorem dX10_isFitting_6 : decode cX10_isFitting 6 = .ok (.iload 5, 2) := by decide +kernel
theorem dX10_isFitting_8 : decode cX10_isFitting 8 = .ok (.aload_n 0, 1) := by decide +kernel
theorem dX10_isFitting_9 : decode cX10_isFitting 9 = .ok (.getfield 13, 3) := by decide +kernel
theorem dX10_isFitting_12 : decode cX10_isFitting 12 = .ok (.iload_n 1, 1) := by decide +kernel
theorem dX10_isFitting_13 : decode cX10_isFitting 13 = .ok (.iaload, 1) := by decide +kernel
theorem dX10_isFitting_14 : decode cX10_isFitting 14 = .ok (.aload_n 0, 1) := by decide +kernel
theorem dX10_isFitting_15 : decode cX10_isFitting 15 = .ok (.getfield 16, 3) := by decide +kernel
theorem dX10_isFitting_18 : decode cX10_isFitting 18 = .ok (.iload_n 1, 1) := by decide +kernel
theorem dX10_isFitting_19 : decode cX10_isFitting 19 = .ok (.iaload, 1) := by decide +kernel
theorem dX10_isFitting_20 : decode cX10_isFitting 20 = .ok (.imul, 1) := by decide +kernel
theorem dX10_isFitting_21 : decode cX10_isFitting 21 = .ok (.if_icmp .ge 52, 3) := by decide +kernel
theorem dX10_isFitting_24 : decode cX10_isFitting 24 = .ok (.aload_n 0, 1) := by decide +kernel
theorem dX10_isFitting_25 : decode cX10_isFitting 25 = .ok (.getfield 26, 3) := by decide +kernel
theorem dX10_isFitting_28 : decode cX10_isFitting 28 = .ok (.bipush 36, 2) := by decide +kernel
theorem dX10_isFitting_30 : decode cX10_isFitting 30 = .ok (.iload_n 1, 1) := by decide +kernel
theorem dX10_isFitting_31 : decode cX10_isFitting 31 = .ok (.imul, 1) := by decide +kernel
theorem dX10_isFitting_32 : decode cX10_isFitting 32 = .ok (.iload 5, 2) := by decide +kernel
theorem dX10_isFitting_34 : decode cX10_isFitting 34 = .ok (.iadd, 1) := by decide +kernel
theorem dX10_isFitting_35 : decode cX10_isFitting 35 = .ok (.iaload, 1) := by decide +kernel
theorem dX10_isFitting_36 : decode cX10_isFitting 36 = .ok (.istore 6, 2) := by decide +kernel
theorem dX10_isFitting_38 : decode cX10_isFitting 38 = .ok (.iload 4, 2) := by decide +kernel
theorem dX10_isFitting_40 : decode cX10_isFitting 40 = .ok (.ifCond .eq 24, 3) := by decide +kernel
theorem dX10_isFitting_43 : decode cX10_isFitting 43 = .ok (.iload 6, 2) := by decide +kernel
theorem dX10_isFitting_45 : decode cX10_isFitting 45 = .ok (.iconst 2, 1) := by decide +kernel
theorem dX10_isFitting_46 : decode cX10_isFitting 46 = .ok (.if_icmp .eq 14, 3) := by decide +kernel
theorem dX10_isFitting_49 : decode cX10_isFitting 49 = .ok (.iload 6, 2) := by decide +kernel
theorem dX10_isFitting_51 : decode cX10_isFitting 51 = .ok (.lload_n 2, 1) := by decide +kernel
theorem dX10_isFitting_52 : decode cX10_isFitting 52 = .ok (.iload 5, 2) := by decide +kernel
theorem dX10_isFitting_54 : decode cX10_isFitting 54 = .ok (.invokestatic 104, 3) := by decide +kernel
theorem dX10_isFitting_57 : decode cX10_isFitting 57 = .ok (.if_icmp .ne 7, 3) := by decide +kernel
theorem dX10_isFitting_60 : decode cX10_isFitting 60 = .ok (.iconst 1, 1) := by decide +kernel
theorem dX10_isFitting_61 : decode cX10_isFitting 61 = .ok (.goto 4, 3) := by decide +kernel
theorem dX10_isFitting_64 : decode cX10_isFitting 64 = .ok (.iconst 0, 1) := by decide +kernel
theorem dX10_isFitting_65 : decode cX10_isFitting 65 = .ok (.istore 4, 2) := by decide +kernel
theorem dX10_isFitting_67 : decode cX10_isFitting 67 = .ok (.iinc 5 1, 3) := by decide +kernel
theorem dX10_isFitting_70 : decode cX10_isFitting 70 = .ok (.goto (-64), 3) := by decide +kernel
theorem dX10_isFitting_73 : decode cX10_isFitting 73 = .ok (.iconst 0, 1) := by decide +kernel
theorem dX10_isFitting_74 : decode cX10_isFitting 74 = .ok (.istore 5, 2) := by decide +kernel
theorem dX10_isFitting_76 : decode cX10_isFitting 76 = .ok (.iload 5, 2) := by decide +kernel
theorem dX10_isFitting_78 : decode cX10_isFitting 78 = .ok (.iconst 4, 1) := by decide +kernel
theorem dX10_isFitting_79 : decode cX10_isFitting 79 = .ok (.if_icmp .ge 107, 3) := by decide +kernel
theorem dX10_isFitting_82 : decode cX10_isFitting 82 = .ok (.iconst 0, 1) := by decide +kernel
theorem dX10_isFitting_83 : decode cX10_isFitting 83 = .ok (.istore 6, 2) := by decide +kernel
theorem dX10_isFitting_85 : decode cX10_isFitting 85 = .ok (.iload 6, 2) := by decide +kernel
theorem dX10_isFitting_87 : decode cX10_isFitting 87 = .ok (.aload_n 0, 1) := by decide +kernel
theorem dX10_isFitting_88 : decode cX10_isFitting 88 = .ok (.getfield 13, 3) := by decide +kernel
theorem dX10_isFitting_91 : decode cX10_isFitting 91 = .ok (.iload_n 1, 1) := by decide +kernel
theorem dX10_isFitting_92 : decode cX10_isFitting 92 = .ok (.iaload, 1) := by decide +kernel
theorem dX10_isFitting_93 : decode cX10_isFitting 93 = .ok (.aload_n 0, 1) := by decide +kernel
theorem dX10_isFitting_94 : decode cX10_isFitting 94 = .ok (.getfield 16, 3) := by decide +kernel
theorem dX10_isFitting_97 : decode cX10_isFitting 97 = .ok (.iload_n 1, 1) := by decide +kernel
theorem dX10_isFitting_98 : decode cX10_isFitting 98 = .ok (.iaload, 1) := by decide +kernel
theorem dX10_isFitting_99 : decode cX10_isFitting 99 = .ok (.iload 5, 2) := by decide +kernel
theorem dX10_isFitting_101 : decode cX10_isFitting 101 = .ok (.invokestatic 108, 3) := by decide +kernel
theorem dX10_isFitting_104 : decode cX10_isFitting 104 = .ok (.if_icmp .ge 76, 3) := by decide +kernel
theorem dX10_isFitting_107 : decode cX10_isFitting 107 = .ok (.aload_n 0, 1) := by decide +kernel
theorem dX10_isFitting_108 : decode cX10_isFitting 108 = .ok (.getfield 22, 3) := by decide +kernel
theorem dX10_isFitting_111 : decode cX10_isFitting 111 = .ok (.iconst 4, 1) := by decide +kernel
theorem dX10_isFitting_112 : decode cX10_isFitting 112 = .ok (.iload_n 1, 1) := by decide +kernel
theorem dX10_isFitting_113 : decode cX10_isFitting 113 = .ok (.imul, 1) := by decide +kernel
theorem dX10_isFitting_114 : decode cX10_isFitting 114 = .ok (.iload 5, 2) := by decide +kernel
theorem dX10_isFitting_116 : decode cX10_isFitting 116 = .ok (.iadd, 1) := by decide +kernel
theorem dX10_isFitting_117 : decode cX10_isFitting 117 = .ok (.baload, 1) := by decide +kernel
theorem dX10_isFitting_118 : decode cX10_isFitting 118 = .ok (.ifCond .eq 62, 3) := by decide +kernel
theorem dX10_isFitting_121 : decode cX10_isFitting 121 = .ok (.iload 4, 2) := by decide +kernel
theorem dX10_isFitting_123 : decode cX10_isFitting 123 = .ok (.ifCond .eq 57, 3) := by decide +kernel
theorem dX10_isFitting_126 : decode cX10_isFitting 126 = .ok (.aload_n 0, 1) := by decide +kernel
theorem dX10_isFitting_127 : decode cX10_isFitting 127 = .ok (.getfield 13, 3) := by decide +kernel
theorem dX10_isFitting_130 : decode cX10_isFitting 130 = .ok (.iload_n 1, 1) := by decide +kernel
theorem dX10_isFitting_131 : decode cX10_isFitting 131 = .ok (.iaload, 1) := by decide +kernel
theorem dX10_isFitting_132 : decode cX10_isFitting 132 = .ok (.aload_n 0, 1) := by decide +kernel
theorem dX10_isFitting_133 : decode cX10_isFitting 133 = .ok (.getfield 16, 3) := by decide +kernel
theorem dX10_isFitting_136 : decode cX10_isFitting 136 = .ok (.iload_n 1, 1) := by decide +kernel
theorem dX10_isFitting_137 : decode cX10_isFitting 137 = .ok (.iaload, 1) := by decide +kernel
theorem dX10_isFitting_138 : decode cX10_isFitting 138 = .ok (.lload_n 2, 1) := by decide +kernel
theorem dX10_isFitting_139 : decode cX10_isFitting 139 = .ok (.iload 5, 2) := by decide +kernel
theorem dX10_isFitting_141 : decode cX10_isFitting 141 = .ok (.iload 6, 2) := by decide +kernel
theorem dX10_isFitting_143 : decode cX10_isFitting 143 = .ok (.invokestatic 112, 3) := by decide +kernel
theorem dX10_isFitting_146 : decode cX10_isFitting 146 = .ok (.aload_n 0, 1) := by decide +kernel
theorem dX10_isFitting_147 : decode cX10_isFitting 147 = .ok (.getfield 19, 3) := by decide +kernel
theorem dX10_isFitting_150 : decode cX10_isFitting 150 = .ok (.bipush 44, 2) := by decide +kernel
theorem dX10_isFitting_152 : decode cX10_isFitting 152 = .ok (.iload_n 1, 1) := by decide +kernel
theorem dX10_isFitting_153 : decode cX10_isFitting 153 = .ok (.imul, 1) := by decide +kernel
theorem dX10_isFitting_154 : decode cX10_isFitting 154 = .ok (.bipush 11, 2) := by decide +kernel
theorem dX10_isFitting_156 : decode cX10_isFitting 156 = .ok (.iload 5, 2) := by decide +kernel
theorem dX10_isFitting_158 : decode cX10_isFitting 158 = .ok (.imul, 1) := by decide +kernel
theorem dX10_isFitting_159 : decode cX10_isFitting 159 = .ok (.iadd, 1) := by decide +kernel
theorem dX10_isFitting_160 : decode cX10_isFitting 160 = .ok (.iload 6, 2) := by decide +kernel
theorem dX10_isFitting_162 : decode cX10_isFitting 162 = .ok (.iadd, 1) := by decide +kernel
theorem dX10_isFitting_163 : decode cX10_isFitting 163 = .ok (.iaload, 1) := by decide +kernel
theorem dX10_isFitting_164 : decode cX10_isFitting 164 = .ok (.if_icmp .ne 7, 3) := by decide +kernel
theorem dX10_isFitting_167 : decode cX10_isFitting 167 = .ok (.iconst 1, 1) := by decide +kernel
theorem dX10_isFitting_168 : decode cX10_isFitting 168 = .ok (.goto 4, 3) := by decide +kernel
theorem dX10_isFitting_171 : decode cX10_isFitting 171 = .ok (.iconst 0, 1) := by decide +kernel
theorem dX10_isFitting_172 : decode cX10_isFitting 172 = .ok (.istore 4, 2) := by decide +kernel
theorem dX10_isFitting_174 : decode cX10_isFitting 174 = .ok (.iinc 6 1, 3) := by decide +kernel
theorem dX10_isFitting_177 : decode cX10_isFitting 177 = .ok (.goto (-92), 3) := by decide +kernel
theorem dX10_isFitting_180 : decode cX10_isFitting 180 = .ok (.iinc 5 1, 3) := by decide +kernel
theorem dX10_isFitting_183 : decode cX10_isFitting 183 = .ok (.goto (-107), 3) := by decide +kernel
theorem dX10_isFitting_186 : decode cX10_isFitting 186 = .ok (.iload 4, 2) := by decide +kernel
theorem dX10_isFitting_188 : decode cX10_isFitting 188 = .ok (.ifCond .eq 16, 3) := by decide +kernel
theorem dX10_isFitting_191 : decode cX10_isFitting 191 = .ok (.aload_n 0, 1) := by decide +kernel
theorem dX10_isFitting_192 : decode cX10_isFitting 192 = .ok (.iload_n 1, 1) := by decide +kernel
theorem dX10_isFitting_193 : decode cX10_isFitting 193 = .ok (.lload_n 2, 1) := by decide +kernel
theorem dX10_isFitting_194 : decode cX10_isFitting 194 = .ok (.invokevirtual 150, 3) := by decide +kernel
theorem dX10_isFitting_197 : decode cX10_isFitting 197 = .ok (.ifCond .eq 7, 3) := by decide +kernel
theorem dX10_isFitting_200 : decode cX10_isFitting 200 = .ok (.iconst 1, 1) := by decide +kernel
theorem dX10_isFitting_201 : decode cX10_isFitting 201 = .ok (.goto 4, 3) := by decide +kernel
theorem dX10_isFitting_204 : decode cX10_isFitting 204 = .ok (.iconst 0, 1) := by decide +kernel
theorem dX10_isFitting_205 : decode cX10_isFitting 205 = .ok (.ireturn, 1) := by decide +kernel

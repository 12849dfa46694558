theorem dX10_keep_51 : decode cX10_keep 51 = .ok (.iload_n 3, 1) := by decide +kernel
theorem dX10_keep_52 : decode cX10_keep 52 = .ok (.iaload, 1) := by decide +kernel
theorem dX10_keep_53 : decode cX10_keep 53 = .ok (.aload_n 0, 1) := by decide +kernel
theorem dX10_keep_54 : decode cX10_keep 54 = .ok (.getfield 16, 3) := by decide +kernel
theorem dX10_keep_57 : decode cX10_keep 57 = .ok (.iload_n 3, 1) := by decide +kernel
theorem dX10_keep_58 : decode cX10_keep 58 = .ok (.iaload, 1) := by decide +kernel
theorem dX10_keep_59 : decode cX10_keep 59 = .ok (.lload 4, 2) := by decide +kernel
theorem dX10_keep_61 : decode cX10_keep 61 = .ok (.invokestatic 126, 3) := by decide +kernel
theorem dX10_keep_64 : decode cX10_keep 64 = .ok (.ifCond .eq 7, 3) := by decide +kernel
theorem dX10_keep_67 : decode cX10_keep 67 = .ok (.iconst 1, 1) := by decide +kernel
theorem dX10_keep_68 : decode cX10_keep 68 = .ok (.goto 4, 3) := by decide +kernel
theorem dX10_keep_71 : decode cX10_keep 71 = .ok (.iconst 0, 1) := by decide +kernel
theorem dX10_keep_72 : decode cX10_keep 72 = .ok (.istore 6, 2) := by decide +kernel
theorem dX10_keep_74 : decode cX10_keep 74 = .ok (.iload 6, 2) := by decide +kernel
theorem dX10_keep_76 : decode cX10_keep 76 = .ok (.ifCond .ne 5, 3) := by decide +kernel
theorem dX10_keep_79 : decode cX10_keep 79 = .ok (.iconst (-1), 1) := by decide +kernel
theorem dX10_keep_80 : decode cX10_keep 80 = .ok (.ireturn, 1) := by decide +kernel
theorem dX10_keep_81 : decode cX10_keep 81 = .ok (.aload_n 0, 1) := by decide +kernel
theorem dX10_keep_82 : decode cX10_keep 82 = .ok (.getfield 61, 3) := by decide +kernel
theorem dX10_keep_85 : decode cX10_keep 85 = .ok (.iload_n 1, 1) := by decide +kernel
theorem dX10_keep_86 : decode cX10_keep 86 = .ok (.iload_n 2, 1) := by decide +kernel
theorem dX10_keep_87 : decode cX10_keep 87 = .ok (.iastore, 1) := by decide +kernel
theorem dX10_keep_88 : decode cX10_keep 88 = .ok (.aload_n 0, 1) := by decide +kernel
theorem dX10_keep_89 : decode cX10_keep 89 = .ok (.getfield 64, 3) := by decide +kernel
theorem dX10_keep_92 : decode cX10_keep 92 = .ok (.iload_n 1, 1) := by decide +kernel
theorem dX10_keep_93 : decode cX10_keep 93 = .ok (.iload_n 2, 1) := by decide +kernel
theorem dX10_keep_94 : decode cX10_keep 94 = .ok (.iconst 3, 1) := by decide +kernel
theorem dX10_keep_95 : decode cX10_keep 95 = .ok (.if_icmp .ne 19, 3) := by decide +kernel
theorem dX10_keep_98 : decode cX10_keep 98 = .ok (.aload_n 0, 1) := by decide +kernel
theorem dX10_keep_99 : decode cX10_keep 99 = .ok (.getfield 13, 3) := by decide +kernel
theorem dX10_keep_102 : decode cX10_keep 102 = .ok (.iload_n 3, 1) := by decide +kernel
theorem dX10_keep_103 : decode cX10_keep 103 = .ok (.iaload, 1) := by decide +kernel
theorem dX10_keep_104 : decode cX10_keep 104 = .ok (.aload_n 0, 1) := by decide +kernel
theorem dX10_keep_105 : decode cX10_keep 105 = .ok (.getfield 16, 3) := by decide +kernel
theorem dX10_keep_108 : decode cX10_keep 108 = .ok (.iload_n 3, 1) := by decide +kernel
theorem dX10_keep_109 : decode cX10_keep 109 = .ok (.iaload, 1) := by decide +kernel
theorem dX10_keep_110 : decode cX10_keep 110 = .ok (.imul, 1) := by decide +kernel
theorem dX10_keep_111 : decode cX10_keep 111 = .ok (.goto 25, 3) := by decide +kernel
theorem dX10_keep_114 : decode cX10_keep 114 = .ok (.iload_n 2, 1) := by decide +kernel
theorem dX10_keep_115 : decode cX10_keep 115 = .ok (.iconst 4, 1) := by decide +kernel
theorem dX10_keep_116 : decode cX10_keep 116 = .ok (.if_icmp .ne 19, 3) := by decide +kernel
theorem dX10_keep_119 : decode cX10_keep 119 = .ok (.aload_n 0, 1) := by decide +kernel
theorem dX10_keep_120 : decode cX10_keep 120 = .ok (.getfield 16, 3) := by decide +kernel
theorem dX10_keep_123 : decode cX10_keep 123 = .ok (.iload_n 3, 1) := by decide +kernel
theorem dX10_keep_124 : decode cX10_keep 124 = .ok (.iaload, 1) := by decide +kernel
theorem dX10_keep_125 : decode cX10_keep 125 = .ok (.aload_n 0, 1) := by decide +kernel
theorem dX10_keep_126 : decode cX10_keep 126 = .ok (.getfield 13, 3) := by decide +kernel
theorem dX10_keep_129 : decode cX10_keep 129 = .ok (.iload_n 3, 1) := by decide +kernel
theorem dX10_keep_130 : decode cX10_keep 130 = .ok (.iaload, 1) := by decide +kernel
theorem dX10_keep_131 : decode cX10_keep 131 = .ok (.iadd, 1) := by decide +kernel
theorem dX10_keep_132 : decode cX10_keep 132 = .ok (.goto 4, 3) := by decide +kernel
theorem dX10_keep_135 : decode cX10_keep 135 = .ok (.iconst 0, 1) := by decide +kernel
theorem dX10_keep_136 : decode cX10_keep 136 = .ok (.iastore, 1) := by decide +kernel
theorem dX10_keep_137 : decode cX10_keep 137 = .ok (.iload_n 2, 1) := by decide +kernel
theorem dX10_keep_138 : decode cX10_keep 138 = .ok (.iconst 1, 1) := by decide +kernel
theorem dX10_keep_139 : decode cX10_keep 139 = .ok (.if_icmp .ne 35, 3) := by decide +kernel
theorem dX10_keep_142 : decode cX10_keep 142 = .ok (.aload_n 0, 1) := by decide +kernel
theorem dX10_keep_143 : decode cX10_keep 143 = .ok (.getfield 67, 3) := by decide +kernel
theorem dX10_keep_146 : decode cX10_keep 146 = .ok (.iload_n 1, 1) := by decide +kernel
theorem dX10_keep_147 : decode cX10_keep 147 = .ok (.aload_n 0, 1) := by decide +kernel
theorem dX10_keep_148 : decode cX10_keep 148 = .ok (.iload_n 3, 1) := by decide +kernel
theorem dX10_keep_149 : decode cX10_keep 149 = .ok (.invokevirtual 262, 3) := by decide +kernel
theorem dX10_keep_152 : decode cX10_keep 152 = .ok (.iastore, 1) := by decide +kernel
theorem dX10_keep_153 : decode cX10_keep 153 = .ok (.aload_n 0, 1) := by decide +kernel
theorem dX10_keep_154 : decode cX10_keep 154 = .ok (.getfield 70, 3) := by decide +kernel
theorem dX10_keep_157 : decode cX10_keep 157 = .ok (.iload_n 1, 1) := by decide +kernel
theorem dX10_keep_158 : decode cX10_keep 158 = .ok (.aload_n 0, 1) := by decide +kernel
theorem dX10_keep_159 : decode cX10_keep 159 = .ok (.getfield 7, 3) := by decide +kernel
theorem dX10_keep_162 : decode cX10_keep 162 = .ok (.iload_n 3, 1) := by decide +kernel
theorem dX10_keep_163 : decode cX10_keep 163 = .ok (.iaload, 1) := by decide +kernel
theorem dX10_keep_164 : decode cX10_keep 164 = .ok (.ifCond .ne 8, 3) := by decide +kernel
theorem dX10_keep_167 : decode cX10_keep 167 = .ok (.bipush (-15), 2) := by decide +kernel
theorem dX10_keep_169 : decode cX10_keep 169 = .ok (.goto 4, 3) := by decide +kernel
theorem dX10_keep_172 : decode cX10_keep 172 = .ok (.iload_n 3, 1) := by decide +kernel
theorem dX10_keep_173 : decode cX10_keep 173 = .ok (.iastore, 1) := by decide +kernel
theorem dX10_keep_174 : decode cX10_keep 174 = .ok (.iconst 0, 1) := by decide +kernel
theorem dX10_keep_175 : decode cX10_keep 175 = .ok (.istore 7, 2) := by decide +kernel
theorem dX10_keep_177 : decode cX10_keep 177 = .ok (.iload 7, 2) := by decide +kernel
theorem dX10_keep_179 : decode cX10_keep 179 = .ok (.aload_n 0, 1) := by decide +kernel
theorem dX10_keep_180 : decode cX10_keep 180 = .ok (.getfield 64, 3) := by decide +kernel
theorem dX10_keep_183 : decode cX10_keep 183 = .ok (.iload_n 1, 1) := by decide +kernel
theorem dX10_keep_184 : decode cX10_keep 184 = .ok (.iaload, 1) := by decide +kernel
theorem dX10_keep_185 : decode cX10_keep 185 = .ok (.if_icmp .ge 87, 3) := by decide +kernel
theorem dX10_keep_188 : decode cX10_keep 188 = .ok (.aload_n 0, 1) := by decide +kernel
theorem dX10_keep_189 : decode cX10_keep 189 = .ok (.getfield 73, 3) := by decide +kernel
theorem dX10_keep_192 : decode cX10_keep 192 = .ok (.bipush 60, 2) := by decide +kernel
theorem dX10_keep_194 : decode cX10_keep 194 = .ok (.iload_n 1, 1) := by decide +kernel
theorem dX10_keep_195 : decode cX10_keep 195 = .ok (.imul, 1) := by decide +kernel
theorem dX10_keep_196 : decode cX10_keep 196 = .ok (.iload 7, 2) := by decide +kernel
theorem dX10_keep_198 : decode cX10_keep 198 = .ok (.iadd, 1) := by decide +kernel
theorem dX10_keep_199 : decode cX10_keep 199 = .ok (.iload_n 2, 1) := by decide +kernel
theorem dX10_keep_200 : decode cX10_keep 200 = .ok (.iconst 3, 1) := by decide +kernel
theorem dX10_keep_201 : decode cX10_keep 201 = .ok (.if_icmp .ne 14, 3) := by decide +kernel
theorem dX10_keep_204 : decode cX10_keep 204 = .ok (.lload 4, 2) := by decide +kernel
theorem dX10_keep_206 : decode cX10_keep 206 = .ok (.iload 7, 2) := by decide +kernel
theorem dX10_keep_208 : decode cX10_keep 208 = .ok (.invokestatic 104, 3) := by decide +kernel
theorem dX10_keep_211 : decode cX10_keep 211 = .ok (.i2l, 1) := by decide +kernel
theorem dX10_keep_212 : decode cX10_keep 212 = .ok (.goto 53, 3) := by decide +kernel
theorem dX10_keep_215 : decode cX10_keep 215 = .ok (.iload 7, 2) := by decide +kernel
theorem dX10_keep_217 : decode cX10_keep 217 = .ok (.aload_n 0, 1) := by decide +kernel
theorem dX10_keep_218 : decode cX10_keep 218 = .ok (.getfield 16, 3) := by decide +kernel
theorem dX10_keep_221 : decode cX10_keep 221 = .ok (.iload_n 3, 1) := by decide +kernel
theorem dX10_keep_222 : decode cX10_keep 222 = .ok (.iaload, 1) := by decide +kernel
theorem dX10_keep_223 : decode cX10_keep 223 = .ok (.if_icmp .ge 19, 3) := by decide +kernel
theorem dX10_keep_226 : decode cX10_keep 226 = .ok (.aload_n 0, 1) := by decide +kernel
theorem dX10_keep_227 : decode cX10_keep 227 = .ok (.getfield 19, 3) := by decide +kernel
theorem dX10_keep_230 : decode cX10_keep 230 = .ok (.bipush 44, 2) := by decide +kernel
theorem dX10_keep_232 : decode cX10_keep 232 = .ok (.iload_n 3, 1) := by decide +kernel
theorem dX10_keep_233 : decode cX10_keep 233 = .ok (.imul, 1) := by decide +kernel
theorem dX10_keep_234 : decode cX10_keep 234 = .ok (.iload 7, 2) := by decide +kernel
theorem dX10_keep_236 : decode cX10_keep 236 = .ok (.iadd, 1) := by decide +kernel
theorem dX10_keep_237 : decode cX10_keep 237 = .ok (.iaload, 1) := by decide +kernel
theorem dX10_keep_238 : decode cX10_keep 238 = .ok (.i2l, 1) := by decide +kernel
theorem dX10_keep_239 : decode cX10_keep 239 = .ok (.goto 26, 3) := by decide +kernel
theorem dX10_keep_242 : decode cX10_keep 242 = .ok (.aload_n 0, 1) := by decide +kernel
theorem dX10_keep_243 : decode cX10_keep 243 = .ok (.getfield 19, 3) := by decide +kernel
theorem dX10_keep_246 : decode cX10_keep 246 = .ok (.bipush 44, 2) := by decide +kernel
theorem dX10_keep_248 : decode cX10_keep 248 = .ok (.iload_n 3, 1) := by decide +kernel
theorem dX10_keep_249 : decode cX10_keep 249 = .ok (.imul, 1) := by decide +kernel
theorem dX10_keep_250 : decode cX10_keep 250 = .ok (.bipush 11, 2) := by decide +kernel
theorem dX10_keep_252 : decode cX10_keep 252 = .ok (.iadd, 1) := by decide +kernel
theorem dX10_keep_253 : decode cX10_keep 253 = .ok (.iload 7, 2) := by decide +kernel
theorem dX10_keep_255 : decode cX10_keep 255 = .ok (.iadd, 1) := by decide +kernel
theorem dX10_keep_256 : decode cX10_keep 256 = .ok (.aload_n 0, 1) := by decide +kernel
theorem dX10_keep_257 : decode cX10_keep 257 = .ok (.getfield 16, 3) := by decide +kernel
theorem dX10_keep_260 : decode cX10_keep 260 = .ok (.iload_n 3, 1) := by decide +kernel
theorem dX10_keep_261 : decode cX10_keep 261 = .ok (.iaload, 1) := by decide +kernel
theorem dX10_keep_262 : decode cX10_keep 262 = .ok (.isub, 1) := by decide +kernel
theorem dX10_keep_263 : decode cX10_keep 263 = .ok (.iaload, 1) := by decide +kernel
theorem dX10_keep_264 : decode cX10_keep 264 = .ok (.i2l, 1) := by decide +kernel
theorem dX10_keep_265 : decode cX10_keep 265 = .ok (.lastore, 1) := by decide +kernel
theorem dX10_keep_266 : decode cX10_keep 266 = .ok (.iinc 7 1, 3) := by decide +kernel
theorem dX10_keep_269 : decode cX10_keep 269 = .ok (.goto (-92), 3) := by decide +kernel
theorem dX10_keep_272 : decode cX10_keep 272 = .ok (.iconst 0, 1) := by decide +kernel
theorem dX10_keep_273 : decode cX10_keep 273 = .ok (.ireturn, 1) := by decide +kernel

theorem dX10_goSwitches_35 : decode cX10_goSwitches 35 = .ok (.iconst 1, 1) := by decide +kernel
theorem dX10_goSwitches_36 : decode cX10_goSwitches 36 = .ok (.iadd, 1) := by decide +kernel
theorem dX10_goSwitches_37 : decode cX10_goSwitches 37 = .ok (.istore 10, 2) := by decide +kernel
theorem dX10_goSwitches_39 : decode cX10_goSwitches 39 = .ok (.iload 10, 2) := by decide +kernel
theorem dX10_goSwitches_41 : decode cX10_goSwitches 41 = .ok (.iload_n 1, 1) := by decide +kernel
theorem dX10_goSwitches_42 : decode cX10_goSwitches 42 = .ok (.if_icmp .ge 144, 3) := by decide +kernel
theorem dX10_goSwitches_45 : decode cX10_goSwitches 45 = .ok (.lload_n 3, 1) := by decide +kernel
theorem dX10_goSwitches_46 : decode cX10_goSwitches 46 = .ok (.iload 7, 2) := by decide +kernel
theorem dX10_goSwitches_48 : decode cX10_goSwitches 48 = .ok (.iload_n 1, 1) := by decide +kernel
theorem dX10_goSwitches_49 : decode cX10_goSwitches 49 = .ok (.imul, 1) := by decide +kernel
theorem dX10_goSwitches_50 : decode cX10_goSwitches 50 = .ok (.iload 9, 2) := by decide +kernel
theorem dX10_goSwitches_52 : decode cX10_goSwitches 52 = .ok (.iadd, 1) := by decide +kernel
theorem dX10_goSwitches_53 : decode cX10_goSwitches 53 = .ok (.invokestatic 104, 3) := by decide +kernel
theorem dX10_goSwitches_56 : decode cX10_goSwitches 56 = .ok (.istore 11, 2) := by decide +kernel
theorem dX10_goSwitches_58 : decode cX10_goSwitches 58 = .ok (.lload_n 3, 1) := by decide +kernel
theorem dX10_goSwitches_59 : decode cX10_goSwitches 59 = .ok (.iload 8, 2) := by decide +kernel
theorem dX10_goSwitches_61 : decode cX10_goSwitches 61 = .ok (.iload_n 1, 1) := by decide +kernel
theorem dX10_goSwitches_62 : decode cX10_goSwitches 62 = .ok (.imul, 1) := by decide +kernel
theorem dX10_goSwitches_63 : decode cX10_goSwitches 63 = .ok (.iload 10, 2) := by decide +kernel
theorem dX10_goSwitches_65 : decode cX10_goSwitches 65 = .ok (.iadd, 1) := by decide +kernel
theorem dX10_goSwitches_66 : decode cX10_goSwitches 66 = .ok (.invokestatic 104, 3) := by decide +kernel
theorem dX10_goSwitches_69 : decode cX10_goSwitches 69 = .ok (.istore 12, 2) := by decide +kernel
theorem dX10_goSwitches_71 : decode cX10_goSwitches 71 = .ok (.lload_n 3, 1) := by decide +kernel
theorem dX10_goSwitches_72 : decode cX10_goSwitches 72 = .ok (.iload 7, 2) := by decide +kernel
theorem dX10_goSwitches_74 : decode cX10_goSwitches 74 = .ok (.iload_n 1, 1) := by decide +kernel
theorem dX10_goSwitches_75 : decode cX10_goSwitches 75 = .ok (.imul, 1) := by decide +kernel
theorem dX10_goSwitches_76 : decode cX10_goSwitches 76 = .ok (.iload 10, 2) := by decide +kernel
theorem dX10_goSwitches_78 : decode cX10_goSwitches 78 = .ok (.iadd, 1) := by decide +kernel
theorem dX10_goSwitches_79 : decode cX10_goSwitches 79 = .ok (.invokestatic 104, 3) := by decide +kernel
theorem dX10_goSwitches_82 : decode cX10_goSwitches 82 = .ok (.istore 13, 2) := by decide +kernel
theorem dX10_goSwitches_84 : decode cX10_goSwitches 84 = .ok (.lload_n 3, 1) := by decide +kernel
theorem dX10_goSwitches_85 : decode cX10_goSwitches 85 = .ok (.iload 8, 2) := by decide +kernel
theorem dX10_goSwitches_87 : decode cX10_goSwitches 87 = .ok (.iload_n 1, 1) := by decide +kernel
theorem dX10_goSwitches_88 : decode cX10_goSwitches 88 = .ok (.imul, 1) := by decide +kernel
theorem dX10_goSwitches_89 : decode cX10_goSwitches 89 = .ok (.iload 9, 2) := by decide +kernel
theorem dX10_goSwitches_91 : decode cX10_goSwitches 91 = .ok (.iadd, 1) := by decide +kernel
theorem dX10_goSwitches_92 : decode cX10_goSwitches 92 = .ok (.invokestatic 104, 3) := by decide +kernel
theorem dX10_goSwitches_95 : decode cX10_goSwitches 95 = .ok (.istore 14, 2) := by decide +kernel
theorem dX10_goSwitches_97 : decode cX10_goSwitches 97 = .ok (.iload 11, 2) := by decide +kernel
theorem dX10_goSwitches_99 : decode cX10_goSwitches 99 = .ok (.iload 12, 2) := by decide +kernel
theorem dX10_goSwitches_101 : decode cX10_goSwitches 101 = .ok (.if_icmp .ne 79, 3) := by decide +kernel
theorem dX10_goSwitches_104 : decode cX10_goSwitches 104 = .ok (.iload 13, 2) := by decide +kernel
theorem dX10_goSwitches_106 : decode cX10_goSwitches 106 = .ok (.iload 14, 2) := by decide +kernel
theorem dX10_goSwitches_108 : decode cX10_goSwitches 108 = .ok (.if_icmp .ne 72, 3) := by decide +kernel
theorem dX10_goSwitches_111 : decode cX10_goSwitches 111 = .ok (.iload 11, 2) := by decide +kernel
theorem dX10_goSwitches_113 : decode cX10_goSwitches 113 = .ok (.iload 13, 2) := by decide +kernel
theorem dX10_goSwitches_115 : decode cX10_goSwitches 115 = .ok (.if_icmp .eq 65, 3) := by decide +kernel
theorem dX10_goSwitches_118 : decode cX10_goSwitches 118 = .ok (.aload_n 0, 1) := by decide +kernel
theorem dX10_goSwitches_119 : decode cX10_goSwitches 119 = .ok (.iload 6, 2) := by decide +kernel
theorem dX10_goSwitches_121 : decode cX10_goSwitches 121 = .ok (.iload 5, 2) := by decide +kernel
theorem dX10_goSwitches_123 : decode cX10_goSwitches 123 = .ok (.if_icmp .ne 47, 3) := by decide +kernel
theorem dX10_goSwitches_126 : decode cX10_goSwitches 126 = .ok (.lload_n 3, 1) := by decide +kernel
theorem dX10_goSwitches_127 : decode cX10_goSwitches 127 = .ok (.lconst 1, 1) := by decide +kernel
theorem dX10_goSwitches_128 : decode cX10_goSwitches 128 = .ok (.iload 7, 2) := by decide +kernel
theorem dX10_goSwitches_130 : decode cX10_goSwitches 130 = .ok (.iload_n 1, 1) := by decide +kernel
theorem dX10_goSwitches_131 : decode cX10_goSwitches 131 = .ok (.imul, 1) := by decide +kernel
theorem dX10_goSwitches_132 : decode cX10_goSwitches 132 = .ok (.iload 9, 2) := by decide +kernel
theorem dX10_goSwitches_134 : decode cX10_goSwitches 134 = .ok (.iadd, 1) := by decide +kernel
theorem dX10_goSwitches_135 : decode cX10_goSwitches 135 = .ok (.lshl, 1) := by decide +kernel
theorem dX10_goSwitches_136 : decode cX10_goSwitches 136 = .ok (.lxor, 1) := by decide +kernel
theorem dX10_goSwitches_137 : decode cX10_goSwitches 137 = .ok (.lconst 1, 1) := by decide +kernel
theorem dX10_goSwitches_138 : decode cX10_goSwitches 138 = .ok (.iload 8, 2) := by decide +kernel
theorem dX10_goSwitches_140 : decode cX10_goSwitches 140 = .ok (.iload_n 1, 1) := by decide +kernel
theorem dX10_goSwitches_141 : decode cX10_goSwitches 141 = .ok (.imul, 1) := by decide +kernel
theorem dX10_goSwitches_142 : decode cX10_goSwitches 142 = .ok (.iload 10, 2) := by decide +kernel
theorem dX10_goSwitches_144 : decode cX10_goSwitches 144 = .ok (.iadd, 1) := by decide +kernel
theorem dX10_goSwitches_145 : decode cX10_goSwitches 145 = .ok (.lshl, 1) := by decide +kernel
theorem dX10_goSwitches_146 : decode cX10_goSwitches 146 = .ok (.lxor, 1) := by decide +kernel
theorem dX10_goSwitches_147 : decode cX10_goSwitches 147 = .ok (.lconst 1, 1) := by decide +kernel
theorem dX10_goSwitches_148 : decode cX10_goSwitches 148 = .ok (.iload 7, 2) := by decide +kernel
theorem dX10_goSwitches_150 : decode cX10_goSwitches 150 = .ok (.iload_n 1, 1) := by decide +kernel
theorem dX10_goSwitches_151 : decode cX10_goSwitches 151 = .ok (.imul, 1) := by decide +kernel
theorem dX10_goSwitches_152 : decode cX10_goSwitches 152 = .ok (.iload 10, 2) := by decide +kernel
theorem dX10_goSwitches_154 : decode cX10_goSwitches 154 = .ok (.iadd, 1) := by decide +kernel
theorem dX10_goSwitches_155 : decode cX10_goSwitches 155 = .ok (.lshl, 1) := by decide +kernel
theorem dX10_goSwitches_156 : decode cX10_goSwitches 156 = .ok (.lxor, 1) := by decide +kernel
theorem dX10_goSwitches_157 : decode cX10_goSwitches 157 = .ok (.lconst 1, 1) := by decide +kernel
theorem dX10_goSwitches_158 : decode cX10_goSwitches 158 = .ok (.iload 8, 2) := by decide +kernel
theorem dX10_goSwitches_160 : decode cX10_goSwitches 160 = .ok (.iload_n 1, 1) := by decide +kernel
theorem dX10_goSwitches_161 : decode cX10_goSwitches 161 = .ok (.imul, 1) := by decide +kernel
theorem dX10_goSwitches_162 : decode cX10_goSwitches 162 = .ok (.iload 9, 2) := by decide +kernel
theorem dX10_goSwitches_164 : decode cX10_goSwitches 164 = .ok (.iadd, 1) := by decide +kernel
theorem dX10_goSwitches_165 : decode cX10_goSwitches 165 = .ok (.lshl, 1) := by decide +kernel
theorem dX10_goSwitches_166 : decode cX10_goSwitches 166 = .ok (.lxor, 1) := by decide +kernel
theorem dX10_goSwitches_167 : decode cX10_goSwitches 167 = .ok (.goto 7, 3) := by decide +kernel
theorem dX10_goSwitches_170 : decode cX10_goSwitches 170 = .ok (.aload_n 0, 1) := by decide +kernel
theorem dX10_goSwitches_171 : decode cX10_goSwitches 171 = .ok (.getfield 201, 3) := by decide +kernel
theorem dX10_goSwitches_174 : decode cX10_goSwitches 174 = .ok (.putfield 201, 3) := by decide +kernel
theorem dX10_goSwitches_177 : decode cX10_goSwitches 177 = .ok (.iinc 6 1, 3) := by decide +kernel
theorem dX10_goSwitches_180 : decode cX10_goSwitches 180 = .ok (.iinc 10 1, 3) := by decide +kernel
theorem dX10_goSwitches_183 : decode cX10_goSwitches 183 = .ok (.goto (-144), 3) := by decide +kernel
theorem dX10_goSwitches_186 : decode cX10_goSwitches 186 = .ok (.iinc 9 1, 3) := by decide +kernel
theorem dX10_goSwitches_189 : decode cX10_goSwitches 189 = .ok (.goto (-162), 3) := by decide +kernel
theorem dX10_goSwitches_192 : decode cX10_goSwitches 192 = .ok (.iinc 8 1, 3) := by decide +kernel
theorem dX10_goSwitches_195 : decode cX10_goSwitches 195 = .ok (.goto (-177), 3) := by decide +kernel
theorem dX10_goSwitches_198 : decode cX10_goSwitches 198 = .ok (.iinc 7 1, 3) := by decide +kernel
theorem dX10_goSwitches_201 : decode cX10_goSwitches 201 = .ok (.goto (-195), 3) := by decide +kernel
theorem dX10_goSwitches_204 : decode cX10_goSwitches 204 = .ok (.iload 6, 2) := by decide +kernel
theorem dX10_goSwitches_206 : decode cX10_goSwitches 206 = .ok (.ireturn, 1) := by decide +kernel
theorem dX10_across_0 : decode cX10_across 0 = .ok (.iload_n 0, 1) := by decide +kernel
theorem dX10_across_1 : decode cX10_across 1 = .ok (.iconst 1, 1) := by decide +kernel
theorem dX10_across_2 : decode cX10_across 2 = .ok (.if_icmp .ne 7, 3) := by decide +kernel
theorem dX10_across_5 : decode cX10_across 5 = .ok (.iconst 0, 1) := by decide +kernel
theorem dX10_across_6 : decode cX10_across 6 = .ok (.goto 4, 3) := by decide +kernel
theorem dX10_across_9 : decode cX10_across 9 = .ok (.iconst 1, 1) := by decide +kernel
theorem dX10_across_10 : decode cX10_across 10 = .ok (.ireturn, 1) := by decide +kernel
theorem dX10_down_0 : decode cX10_down 0 = .ok (.iload_n 0, 1) := by decide +kernel
theorem dX10_down_1 : decode cX10_down 1 = .ok (.ifCond .ne 7, 3) := by decide +kernel
theorem dX10_down_4 : decode cX10_down 4 = .ok (.iconst 0, 1) := by decide +kernel
theorem dX10_down_5 : decode cX10_down 5 = .ok (.goto 13, 3) := by decide +kernel
theorem dX10_down_8 : decode cX10_down 8 = .ok (.iload_n 0, 1) := by decide +kernel
theorem dX10_down_9 : decode cX10_down 9 = .ok (.iconst 3, 1) := by decide +kernel
theorem dX10_down_10 : decode cX10_down 10 = .ok (.if_icmp .ne 7, 3) := by decide +kernel
theorem dX10_down_13 : decode cX10_down 13 = .ok (.iconst (-1), 1) := by decide +kernel
theorem dX10_down_14 : decode cX10_down 14 = .ok (.goto 4, 3) := by decide +kernel
theorem dX10_down_17 : decode cX10_down 17 = .ok (.iconst 1, 1) := by decide +kernel
theorem dX10_down_18 : decode cX10_down 18 = .ok (.ireturn, 1) := by decide +kernel

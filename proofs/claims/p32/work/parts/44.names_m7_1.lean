theorem dX10_seek_67 : decode cX10_seek 67 = .ok (.aload_n 0, 1) := by decide +kernel
theorem dX10_seek_68 : decode cX10_seek 68 = .ok (.getfield 29, 3) := by decide +kernel
theorem dX10_seek_71 : decode cX10_seek 71 = .ok (.bipush 36, 2) := by decide +kernel
theorem dX10_seek_73 : decode cX10_seek 73 = .ok (.iload_n 1, 1) := by decide +kernel
theorem dX10_seek_74 : decode cX10_seek 74 = .ok (.imul, 1) := by decide +kernel
theorem dX10_seek_75 : decode cX10_seek 75 = .ok (.iload 4, 2) := by decide +kernel
theorem dX10_seek_77 : decode cX10_seek 77 = .ok (.iadd, 1) := by decide +kernel
theorem dX10_seek_78 : decode cX10_seek 78 = .ok (.iaload, 1) := by decide +kernel
theorem dX10_seek_79 : decode cX10_seek 79 = .ok (.imul, 1) := by decide +kernel
theorem dX10_seek_80 : decode cX10_seek 80 = .ok (.iadd, 1) := by decide +kernel
theorem dX10_seek_81 : decode cX10_seek 81 = .ok (.istore_n 3, 1) := by decide +kernel
theorem dX10_seek_82 : decode cX10_seek 82 = .ok (.iinc 4 1, 3) := by decide +kernel
theorem dX10_seek_85 : decode cX10_seek 85 = .ok (.goto (-46), 3) := by decide +kernel
theorem dX10_seek_88 : decode cX10_seek 88 = .ok (.iload_n 2, 1) := by decide +kernel
theorem dX10_seek_89 : decode cX10_seek 89 = .ok (.ifCond .eq 11, 3) := by decide +kernel
theorem dX10_seek_92 : decode cX10_seek 92 = .ok (.iload_n 3, 1) := by decide +kernel
theorem dX10_seek_93 : decode cX10_seek 93 = .ok (.aload_n 0, 1) := by decide +kernel
theorem dX10_seek_94 : decode cX10_seek 94 = .ok (.getfield 191, 3) := by decide +kernel
theorem dX10_seek_97 : decode cX10_seek 97 = .ok (.if_icmp .le 16, 3) := by decide +kernel
theorem dX10_seek_100 : decode cX10_seek 100 = .ok (.aload_n 0, 1) := by decide +kernel
theorem dX10_seek_101 : decode cX10_seek 101 = .ok (.iload_n 3, 1) := by decide +kernel
theorem dX10_seek_102 : decode cX10_seek 102 = .ok (.putfield 191, 3) := by decide +kernel
theorem dX10_seek_105 : decode cX10_seek 105 = .ok (.aload_n 0, 1) := by decide +kernel
theorem dX10_seek_106 : decode cX10_seek 106 = .ok (.aload_n 0, 1) := by decide +kernel
theorem dX10_seek_107 : decode cX10_seek 107 = .ok (.getfield 175, 3) := by decide +kernel
theorem dX10_seek_110 : decode cX10_seek 110 = .ok (.putfield 194, 3) := by decide +kernel
theorem dX10_seek_113 : decode cX10_seek 113 = .ok (.iconst 1, 1) := by decide +kernel
theorem dX10_seek_114 : decode cX10_seek 114 = .ok (.istore_n 2, 1) := by decide +kernel
theorem dX10_seek_115 : decode cX10_seek 115 = .ok (.goto (-89), 3) := by decide +kernel
theorem dX10_seek_118 : decode cX10_seek 118 = .ok (.aload_n 0, 1) := by decide +kernel
theorem dX10_seek_119 : decode cX10_seek 119 = .ok (.getfield 163, 3) := by decide +kernel
theorem dX10_seek_122 : decode cX10_seek 122 = .ok (.ifCond .ne 7, 3) := by decide +kernel
theorem dX10_seek_125 : decode cX10_seek 125 = .ok (.iload_n 2, 1) := by decide +kernel
theorem dX10_seek_126 : decode cX10_seek 126 = .ok (.ifCond .ne 7, 3) := by decide +kernel
theorem dX10_seek_129 : decode cX10_seek 129 = .ok (.iconst 2, 1) := by decide +kernel
theorem dX10_seek_130 : decode cX10_seek 130 = .ok (.goto 4, 3) := by decide +kernel
theorem dX10_seek_133 : decode cX10_seek 133 = .ok (.iconst 0, 1) := by decide +kernel
theorem dX10_seek_134 : decode cX10_seek 134 = .ok (.ireturn, 1) := by decide +kernel
set_option maxRecDepth 20000 in
theorem ggX10_best_X10_seek : GoodIn wsX10_best wsX10_seek := goodIn_r _ [7, 8, 9, 10, 11, 12, 2, 13, 14, 15, 16, 17, 6, 18, 19, 20, 21, 22, 23, 24, 25, 26, 27, 28, 29, 30, 31, 32, 33, 34, 35, 36, 37, 38, 39, 40, 41, 42, 43, 44, 45, 46, 47, 48, 49, 50, 51, 52, 53, 54, 55, 56, 57, 58, 59, 60, 61, 62, 63, 64, 65, 66, 67, 68, 69, 70, 71, 72, 73, 74, 75, 76, 77, 78, 79, 80, 81, 82, 83, 84, 85, 86, 87, 88, 89, 90, 91, 92, 93, 94, 95, 96, 97, 98, 99, 100, 101, 102, 103, 104, 105] (by decide +kernel) (by decide +kernel)
set_option maxRecDepth 20000 in
theorem gX10_best_X10_seek : GoodIn wsX10_best (wsV RX10 197 RX10 yX10_seek wsX10_seek) := goodIn_app (goodIn_of _ (by decide +kernel)) ggX10_best_X10_seek
theorem dX10_best_0 : decode cX10_best 0 = .ok (.aload_n 0, 1) := by decide +kernel
theorem dX10_best_1 : decode cX10_best 1 = .ok (.aload_n 0, 1) := by decide +kernel
theorem dX10_best_2 : decode cX10_best 2 = .ok (.iload_n 1, 1) := by decide +kernel
theorem dX10_best_3 : decode cX10_best 3 = .ok (.invokevirtual 197, 3) := by decide +kernel
theorem dX10_best_6 : decode cX10_best 6 = .ok (.putfield 79, 3) := by decide +kernel
theorem dX10_best_9 : decode cX10_best 9 = .ok (.aload_n 0, 1) := by decide +kernel
theorem dX10_best_10 : decode cX10_best 10 = .ok (.getfield 79, 3) := by decide +kernel
theorem dX10_best_13 : decode cX10_best 13 = .ok (.ifCond .le 7, 3) := by decide +kernel
theorem dX10_best_16 : decode cX10_best 16 = .ok (.iconst 0, 1) := by decide +kernel
theorem dX10_best_17 : decode cX10_best 17 = .ok (.goto 7, 3) := by decide +kernel
theorem dX10_best_20 : decode cX10_best 20 = .ok (.aload_n 0, 1) := by decide +kernel
theorem dX10_best_21 : decode cX10_best 21 = .ok (.getfield 191, 3) := by decide +kernel
theorem dX10_best_24 : decode cX10_best 24 = .ok (.ireturn, 1) := by decide +kernel
set_option maxRecDepth 20000 in
theorem ggX10_bestOne_X10_seek : GoodIn wsX10_bestOne wsX10_seek := goodIn_r _ [7, 8, 9, 10, 11, 12, 13, 2, 14, 15, 16, 17, 6, 18, 19, 20, 21, 22, 23, 24, 25, 26, 27, 28, 29, 30, 31, 32, 33, 34, 35, 36, 37, 38, 39, 40, 41, 42, 43, 44, 45, 46, 47, 48, 49, 50, 51, 52, 53, 54, 55, 56, 57, 58, 59, 60, 61, 62, 63, 64, 65, 66, 67, 68, 69, 70, 71, 72, 73, 74, 75, 76, 77, 78, 79, 80, 81, 82, 83, 84, 85, 86, 87, 88, 89, 90, 91, 92, 93, 94, 95, 96, 97, 98, 99, 100, 101, 102, 103, 104, 105] (by decide +kernel) (by decide +kernel)
set_option maxRecDepth 20000 in
theorem gX10_bestOne_X10_seek : GoodIn wsX10_bestOne (wsV RX10 197 RX10 yX10_seek wsX10_seek) := goodIn_app (goodIn_of _ (by decide +kernel)) ggX10_bestOne_X10_seek
theorem dX10_bestOne_0 : decode cX10_bestOne 0 = .ok (.aload_n 0, 1) := by decide +kernel
theorem dX10_bestOne_1 : decode cX10_bestOne 1 = .ok (.aload_n 0, 1) := by decide +kernel
theorem dX10_bestOne_2 : decode cX10_bestOne 2 = .ok (.iload_n 1, 1) := by decide +kernel
theorem dX10_bestOne_3 : decode cX10_bestOne 3 = .ok (.invokevirtual 197, 3) := by decide +kernel
theorem dX10_bestOne_6 : decode cX10_bestOne 6 = .ok (.putfield 79, 3) := by decide +kernel
theorem dX10_bestOne_9 : decode cX10_bestOne 9 = .ok (.aload_n 0, 1) := by decide +kernel
theorem dX10_bestOne_10 : decode cX10_bestOne 10 = .ok (.getfield 79, 3) := by decide +kernel
theorem dX10_bestOne_13 : decode cX10_bestOne 13 = .ok (.ifCond .le 7, 3) := by decide +kernel
theorem dX10_bestOne_16 : decode cX10_bestOne 16 = .ok (.lconst 0, 1) := by decide +kernel
theorem dX10_bestOne_17 : decode cX10_bestOne 17 = .ok (.goto 7, 3) := by decide +kernel
theorem dX10_bestOne_20 : decode cX10_bestOne 20 = .ok (.aload_n 0, 1) := by decide +kernel
theorem dX10_bestOne_21 : decode cX10_bestOne 21 = .ok (.getfield 194, 3) := by decide +kernel
theorem dX10_bestOne_24 : decode cX10_bestOne 24 = .ok (.lreturn, 1) := by decide +kernel
set_option maxRecDepth 20000 in
theorem ggX10_goSwitches_X10_one : GoodIn wsX10_goSwitches wsX10_one := goodIn_r _ [5] (by decide +kernel) (by decide +kernel)
set_option maxRecDepth 20000 in
theorem gX10_goSwitches_X10_one : GoodIn wsX10_goSwitches (va_wsS RX10 104 yX10_one wsX10_one) := goodIn_app (goodIn_of _ (by decide +kernel)) ggX10_goSwitches_X10_one
theorem dX10_goSwitches_0 : decode cX10_goSwitches 0 = .ok (.iconst 0, 1) := by decide +kernel
theorem dX10_goSwitches_1 : decode cX10_goSwitches 1 = .ok (.istore 6, 2) := by decide +kernel
theorem dX10_goSwitches_3 : decode cX10_goSwitches 3 = .ok (.iconst 0, 1) := by decide +kernel
theorem dX10_goSwitches_4 : decode cX10_goSwitches 4 = .ok (.istore 7, 2) := by decide +kernel
theorem dX10_goSwitches_6 : decode cX10_goSwitches 6 = .ok (.iload 7, 2) := by decide +kernel
theorem dX10_goSwitches_8 : decode cX10_goSwitches 8 = .ok (.iload_n 2, 1) := by decide +kernel
theorem dX10_goSwitches_9 : decode cX10_goSwitches 9 = .ok (.if_icmp .ge 195, 3) := by decide +kernel
theorem dX10_goSwitches_12 : decode cX10_goSwitches 12 = .ok (.iload 7, 2) := by decide +kernel
theorem dX10_goSwitches_14 : decode cX10_goSwitches 14 = .ok (.iconst 1, 1) := by decide +kernel
theorem dX10_goSwitches_15 : decode cX10_goSwitches 15 = .ok (.iadd, 1) := by decide +kernel
theorem dX10_goSwitches_16 : decode cX10_goSwitches 16 = .ok (.istore 8, 2) := by decide +kernel
theorem dX10_goSwitches_18 : decode cX10_goSwitches 18 = .ok (.iload 8, 2) := by decide +kernel
theorem dX10_goSwitches_20 : decode cX10_goSwitches 20 = .ok (.iload_n 2, 1) := by decide +kernel
theorem dX10_goSwitches_21 : decode cX10_goSwitches 21 = .ok (.if_icmp .ge 177, 3) := by decide +kernel
theorem dX10_goSwitches_24 : decode cX10_goSwitches 24 = .ok (.iconst 0, 1) := by decide +kernel
theorem dX10_goSwitches_25 : decode cX10_goSwitches 25 = .ok (.istore 9, 2) := by decide +kernel
theorem dX10_goSwitches_27 : decode cX10_goSwitches 27 = .ok (.iload 9, 2) := by decide +kernel
theorem dX10_goSwitches_29 : decode cX10_goSwitches 29 = .ok (.iload_n 1, 1) := by decide +kernel
theorem dX10_goSwitches_30 : decode cX10_goSwitches 30 = .ok (.if_icmp .ge 162, 3) := by decide +kernel
theorem dX10_goSwitches_33 : decode cX10_goSwitches 33 = .ok (.iload 9, 2) := by decide +kernel
theorem dX10_goSwitches_35 : decode cX10_goSwitches 35 = .ok (.iconst 1, 1) := by decide +kernel
theorem dX10_goSwitches_36 : decode cX10_goSwitches 36 = .ok (.iadd, 1) := by decide +kernel
theorem dX10_goSwitches_37 : decode cX10_goSwitches 37 = .ok (.istore 10, 2) := by decide +kernel
theorem dX10_goSwitches_39 : decode cX10_goSwitches 39 = .ok (.iload 10, 2) := by decide +kernel
theorem dX10_goSwitches_41 : decode cX10_goSwitches 41 = .ok (.iload_n 1, 1) := by decide +kernel
theorem dX10_goSwitches_42 : decode cX10_goSwitches 42 = .ok (.if_icmp .ge 144, 3) := by decide +kernel
theorem dX10_goSwitches_45 : decode cX10_goSwitches 45 = .ok (.lload_n 3, 1) := by decide +kernel
theorem dX10_goSwitches_46 : decode cX10_goSwitches 46 = .ok (.iload 7, 2) := by decide +kernel
theorem dX10_goSwitches_48 : decode cX10_goSwitches 48 = .ok (.iload_n 1, 1) := by decide +kernel
theorem dX10_goSwitches_49 : decode cX10_goSwitches 49 = .ok (.imul, 1) := by decide +kernel
theorem dX10_goSwitches_50 : decode cX10_goSwitches 50 = .ok (.iload 9, 2) := by decide +kernel
theorem dX10_goSwitches_52 : decode cX10_goSwitches 52 = .ok (.iadd, 1) := by decide +kernel
theorem dX10_goSwitches_53 : decode cX10_goSwitches 53 = .ok (.invokestatic 104, 3) := by decide +kernel
theorem dX10_goSwitches_56 : decode cX10_goSwitches 56 = .ok (.istore 11, 2) := by decide +kernel
theorem dX10_goSwitches_58 : decode cX10_goSwitches 58 = .ok (.lload_n 3, 1) := by decide +kernel
theorem dX10_goSwitches_59 : decode cX10_goSwitches 59 = .ok (.iload 8, 2) := by decide +kernel
theorem dX10_goSwitches_61 : decode cX10_goSwitches 61 = .ok (.iload_n 1, 1) := by decide +kernel
theorem dX10_goSwitches_62 : decode cX10_goSwitches 62 = .ok (.imul, 1) := by decide +kernel
theorem dX10_goSwitches_63 : decode cX10_goSwitches 63 = .ok (.iload 10, 2) := by decide +kernel
theorem dX10_goSwitches_65 : decode cX10_goSwitches 65 = .ok (.iadd, 1) := by decide +kernel
theorem dX10_goSwitches_66 : decode cX10_goSwitches 66 = .ok (.invokestatic 104, 3) := by decide +kernel
theorem dX10_goSwitches_69 : decode cX10_goSwitches 69 = .ok (.istore 12, 2) := by decide +kernel
theorem dX10_goSwitches_71 : decode cX10_goSwitches 71 = .ok (.lload_n 3, 1) := by decide +kernel
theorem dX10_goSwitches_72 : decode cX10_goSwitches 72 = .ok (.iload 7, 2) := by decide +kernel
theorem dX10_goSwitches_74 : decode cX10_goSwitches 74 = .ok (.iload_n 1, 1) := by decide +kernel
theorem dX10_goSwitches_75 : decode cX10_goSwitches 75 = .ok (.imul, 1) := by decide +kernel
theorem dX10_goSwitches_76 : decode cX10_goSwitches 76 = .ok (.iload 10, 2) := by decide +kernel
theorem dX10_goSwitches_78 : decode cX10_goSwitches 78 = .ok (.iadd, 1) := by decide +kernel
theorem dX10_goSwitches_79 : decode cX10_goSwitches 79 = .ok (.invokestatic 104, 3) := by decide +kernel
theorem dX10_goSwitches_82 : decode cX10_goSwitches 82 = .ok (.istore 13, 2) := by decide +kernel
theorem dX10_goSwitches_84 : decode cX10_goSwitches 84 = .ok (.lload_n 3, 1) := by decide +kernel
theorem dX10_goSwitches_85 : decode cX10_goSwitches 85 = .ok (.iload 8, 2) := by decide +kernel
theorem dX10_goSwitches_87 : decode cX10_goSwitches 87 = .ok (.iload_n 1, 1) := by decide +kernel
theorem dX10_goSwitches_88 : decode cX10_goSwitches 88 = .ok (.imul, 1) := by decide +kernel
theorem dX10_goSwitches_89 : decode cX10_goSwitches 89 = .ok (.iload 9, 2) := by decide +kernel
theorem dX10_goSwitches_91 : decode cX10_goSwitches 91 = .ok (.iadd, 1) := by decide +kernel
theorem dX10_goSwitches_92 : decode cX10_goSwitches 92 = .ok (.invokestatic 104, 3) := by decide +kernel
theorem dX10_goSwitches_95 : decode cX10_goSwitches 95 = .ok (.istore 14, 2) := by decide +kernel
theorem dX10_goSwitches_97 : decode cX10_goSwitches 97 = .ok (.iload 11, 2) := by decide +kernel
theorem dX10_goSwitches_99 : decode cX10_goSwitches 99 = .ok (.iload 12, 2) := by decide +kernel
theorem dX10_goSwitches_101 : decode cX10_goSwitches 101 = .ok (.if_icmp .ne 79, 3) := by decide +kernel
theorem dX10_goSwitches_104 : decode cX10_goSwitches 104 = .ok (.iload 13, 2) := by decide +kernel
theorem dX10_goSwitches_106 : decode cX10_goSwitches 106 = .ok (.iload 14, 2) := by decide +kernel
theorem dX10_goSwitches_108 : decode cX10_goSwitches 108 = .ok (.if_icmp .ne 72, 3) := by decide +kernel
theorem dX10_goSwitches_111 : decode cX10_goSwitches 111 = .ok (.iload 11, 2) := by decide +kernel
theorem dX10_goSwitches_113 : decode cX10_goSwitches 113 = .ok (.iload 13, 2) := by decide +kernel
theorem dX10_goSwitches_115 : decode cX10_goSwitches 115 = .ok (.if_icmp .eq 65, 3) := by decide +kernel
theorem dX10_goSwitches_118 : decode cX10_goSwitches 118 = .ok (.aload_n 0, 1) := by decide +kernel
theorem dX10_goSwitches_119 : decode cX10_goSwitches 119 = .ok (.iload 6, 2) := by decide +kernel
theorem dX10_goSwitches_121 : decode cX10_goSwitches 121 = .ok (.iload 5, 2) := by decide +kernel
theorem dX10_goSwitches_123 : decode cX10_goSwitches 123 = .ok (.if_icmp .ne 47, 3) := by decide +kernel
theorem dX10_goSwitches_126 : decode cX10_goSwitches 126 = .ok (.lload_n 3, 1) := by decide +kernel
theorem dX10_goSwitches_127 : decode cX10_goSwitches 127 = .ok (.lconst 1, 1) := by decide +kernel
theorem dX10_goSwitches_128 : decode cX10_goSwitches 128 = .ok (.iload 7, 2) := by decide +kernel
theorem dX10_goSwitches_130 : decode cX10_goSwitches 130 = .ok (.iload_n 1, 1) := by decide +kernel
theorem dX10_goSwitches_131 : decode cX10_goSwitches 131 = .ok (.imul, 1) := by decide +kernel
theorem dX10_goSwitches_132 : decode cX10_goSwitches 132 = .ok (.iload 9, 2) := by decide +kernel
theorem dX10_goSwitches_134 : decode cX10_goSwitches 134 = .ok (.iadd, 1) := by decide +kernel
theorem dX10_goSwitches_135 : decode cX10_goSwitches 135 = .ok (.lshl, 1) := by decide +kernel
theorem dX10_goSwitches_136 : decode cX10_goSwitches 136 = .ok (.lxor, 1) := by decide +kernel
theorem dX10_goSwitches_137 : decode cX10_goSwitches 137 = .ok (.lconst 1, 1) := by decide +kernel
theorem dX10_goSwitches_138 : decode cX10_goSwitches 138 = .ok (.iload 8, 2) := by decide +kernel
theorem dX10_goSwitches_140 : decode cX10_goSwitches 140 = .ok (.iload_n 1, 1) := by decide +kernel
theorem dX10_goSwitches_141 : decode cX10_goSwitches 141 = .ok (.imul, 1) := by decide +kernel
theorem dX10_goSwitches_142 : decode cX10_goSwitches 142 = .ok (.iload 10, 2) := by decide +kernel
theorem dX10_goSwitches_144 : decode cX10_goSwitches 144 = .ok (.iadd, 1) := by decide +kernel
theorem dX10_goSwitches_145 : decode cX10_goSwitches 145 = .ok (.lshl, 1) := by decide +kernel
theorem dX10_goSwitches_146 : decode cX10_goSwitches 146 = .ok (.lxor, 1) := by decide +kernel
theorem dX10_goSwitches_147 : decode cX10_goSwitches 147 = .ok (.lconst 1, 1) := by decide +kernel
theorem dX10_goSwitches_148 : decode cX10_goSwitches 148 = .ok (.iload 7, 2) := by decide +kernel
theorem dX10_goSwitches_150 : decode cX10_goSwitches 150 = .ok (.iload_n 1, 1) := by decide +kernel
theorem dX10_goSwitches_151 : decode cX10_goSwitches 151 = .ok (.imul, 1) := by decide +kernel
theorem dX10_goSwitches_152 : decode cX10_goSwitches 152 = .ok (.iload 10, 2) := by decide +kernel
theorem dX10_goSwitches_154 : decode cX10_goSwitches 154 = .ok (.iadd, 1) := by decide +kernel
theorem dX10_goSwitches_155 : decode cX10_goSwitches 155 = .ok (.lshl, 1) := by decide +kernel
theorem dX10_goSwitches_156 : decode cX10_goSwitches 156 = .ok (.lxor, 1) := by decide +kernel
theorem dX10_goSwitches_157 : decode cX10_goSwitches 157 = .ok (.lconst 1, 1) := by decide +kernel
theorem dX10_goSwitches_158 : decode cX10_goSwitches 158 = .ok (.iload 8, 2) := by decide +kernel
theorem dX10_goSwitches_160 : decode cX10_goSwitches 160 = .ok (.iload_n 1, 1) := by decide +kernel
theorem dX10_goSwitches_161 : decode cX10_goSwitches 161 = .ok (.imul, 1) := by decide +kernel
theorem dX10_goSwitches_162 : decode cX10_goSwitches 162 = .ok (.iload 9, 2) := by decide +kernel
theorem dX10_goSwitches_164 : decode cX10_goSwitches 164 = .ok (.iadd, 1) := by decide +kernel
theorem dX10_goSwitches_165 : decode cX10_goSwitches 165 = .ok (.lshl, 1) := by decide +kernel
theorem dX10_goSwitches_166 : decode cX10_goSwitches 166 = .ok (.lxor, 1) := by decide +kernel
theorem dX10_goSwitches_167 : decode cX10_goSwitches 167 = .ok (.goto 7, 3) := by decide +kernel
theorem dX10_goSwitches_170 : decode cX10_goSwitches 170 = .ok (.aload_n 0, 1) := by decide +kernel
theorem dX10_goSwitches_171 : decode cX10_goSwitches 171 = .ok (.getfield 201, 3) := by decide +kernel
theorem dX10_goSwitches_174 : decode cX10_goSwitches 174 = .ok (.putfield 201, 3) := by decide +kernel
theorem dX10_goSwitches_177 : decode cX10_goSwitches 177 = .ok (.iinc 6 1, 3) := by decide +kernel
theorem dX10_goSwitches_180 : decode cX10_goSwitches 180 = .ok (.iinc 10 1, 3) := by decide +kernel
theorem dX10_goSwitches_183 : decode cX10_goSwitches 183 = .ok (.goto (-144), 3) := by decide +kernel
theorem dX10_goSwitches_186 : decode cX10_goSwitches 186 = .ok (.iinc 9 1, 3) := by decide +kernel
theorem dX10_goSwitches_189 : decode cX10_goSwitches 189 = .ok (.goto (-162), 3) := by decide +kernel
theorem dX10_goSwitches_192 : decode cX10_goSwitches 192 = .ok (.iinc 8 1, 3) := by decide +kernel
theorem dX10_goSwitches_195 : decode cX10_goSwitches 195 = .ok (.goto (-177), 3) := by decide +kernel
theorem dX10_goSwitches_198 : decode cX10_goSwitches 198 = .ok (.iinc 7 1, 3) := by decide +kernel
theorem dX10_goSwitches_201 : decode cX10_goSwitches 201 = .ok (.goto (-195), 3) := by decide +kernel
theorem dX10_goSwitches_204 : decode cX10_goSwitches 204 = .ok (.iload 6, 2) := by decide +kernel
theorem dX10_goSwitches_206 : decode cX10_goSwitches 206 = .ok (.ireturn, 1) := by decide +kernel
set_option maxRecDepth 20000 in
theorem ggX10_switches_X10_isPicture : GoodIn wsX10_switches wsX10_isPicture := goodIn_r _ [5, 6, 7, 4, 8, 9, 10, 11, 12] (by decide +kernel) (by decide +kernel)
set_option maxRecDepth 20000 in
theorem gX10_switches_X10_isPicture : GoodIn wsX10_switches (va_wsS RX10 126 yX10_isPicture wsX10_isPicture) := goodIn_app (goodIn_of _ (by decide +kernel)) ggX10_switches_X10_isPicture
set_option maxRecDepth 20000 in
theorem ggX10_switches_X10_goSwitches : GoodIn wsX10_switches wsX10_goSwitches := goodIn_r _ [16, 17, 18, 19, 4, 20, 21, 22, 23, 24, 25, 26, 27, 28, 29, 30, 31, 32, 33, 34, 35, 36, 37, 38, 39, 40, 41, 42, 43, 44, 45, 46, 47, 48, 49, 50, 51, 52, 53, 54, 55] (by decide +kernel) (by decide +kernel)
set_option maxRecDepth 20000 in
theorem gX10_switches_X10_goSwitches : GoodIn wsX10_switches (wsV RX10 204 RX10 yX10_goSwitches wsX10_goSwitches) := goodIn_app (goodIn_of _ (by decide +kernel)) ggX10_switches_X10_goSwitches
theorem dX10_switches_0 : decode cX10_switches 0 = .ok (.aload_n 0, 1) := by decide +kernel
theorem dX10_switches_1 : decode cX10_switches 1 = .ok (.iconst 0, 1) := by decide +kernel
theorem dX10_switches_2 : decode cX10_switches 2 = .ok (.putfield 79, 3) := by decide +kernel
theorem dX10_switches_5 : decode cX10_switches 5 = .ok (.iload_n 1, 1) := by decide +kernel
theorem dX10_switches_6 : decode cX10_switches 6 = .ok (.iload_n 2, 1) := by decide +kernel
theorem dX10_switches_7 : decode cX10_switches 7 = .ok (.lload_n 3, 1) := by decide +kernel
theorem dX10_switches_8 : decode cX10_switches 8 = .ok (.invokestatic 126, 3) := by decide +kernel
theorem dX10_switches_11 : decode cX10_switches 11 = .ok (.ifCond .eq 14, 3) := by decide +kernel
theorem dX10_switches_14 : decode cX10_switches 14 = .ok (.aload_n 0, 1) := by decide +kernel
theorem dX10_switches_15 : decode cX10_switches 15 = .ok (.iload_n 1, 1) := by decide +kernel
theorem dX10_switches_16 : decode cX10_switches 16 = .ok (.iload_n 2, 1) := by decide +kernel
theorem dX10_switches_17 : decode cX10_switches 17 = .ok (.lload_n 3, 1) := by decide +kernel
theorem dX10_switches_18 : decode cX10_switches 18 = .ok (.iconst (-1), 1) := by decide +kernel
theorem dX10_switches_19 : decode cX10_switches 19 = .ok (.invokevirtual 204, 3) := by decide +kernel
theorem dX10_switches_22 : decode cX10_switches 22 = .ok (.goto 4, 3) := by decide +kernel
theorem dX10_switches_25 : decode cX10_switches 25 = .ok (.iconst (-1), 1) := by decide +kernel
theorem dX10_switches_26 : decode cX10_switches 26 = .ok (.ireturn, 1) := by decide +kernel
set_option maxRecDepth 20000 in
theorem ggX10_switched_X10_isPicture : GoodIn wsX10_switched wsX10_isPicture := goodIn_r _ [8, 9, 10, 7, 11, 12, 13, 14, 15] (by decide +kernel) (by decide +kernel)
set_option maxRecDepth 20000 in
theorem gX10_switched_X10_isPicture : GoodIn wsX10_switched (va_wsS RX10 126 yX10_isPicture wsX10_isPicture) := goodIn_app (goodIn_of _ (by decide +kernel)) ggX10_switched_X10_isPicture
set_option maxRecDepth 20000 in
theorem ggX10_switched_X10_goSwitches : GoodIn wsX10_switched wsX10_goSwitches := goodIn_r _ [19, 3, 20, 21, 7, 22, 23, 24, 25, 26, 27, 28, 29, 30, 31, 32, 33, 34, 35, 36, 37, 38, 39, 40, 41, 42, 43, 44, 45, 46, 47, 48, 49, 50, 51, 52, 53, 54, 55, 56, 57] (by decide +kernel) (by decide +kernel)
set_option maxRecDepth 20000 in
theorem gX10_switched_X10_goSwitches : GoodIn wsX10_switched (wsV RX10 204 RX10 yX10_goSwitches wsX10_goSwitches) := goodIn_app (goodIn_of _ (by decide +kernel)) ggX10_switched_X10_goSwitches
theorem dX10_switched_0 : decode cX10_switched 0 = .ok (.aload_n 0, 1) := by decide +kernel
theorem dX10_switched_1 : decode cX10_switched 1 = .ok (.iconst 0, 1) := by decide +kernel
theorem dX10_switched_2 : decode cX10_switched 2 = .ok (.putfield 79, 3) := by decide +kernel
theorem dX10_switched_5 : decode cX10_switched 5 = .ok (.iload_n 1, 1) := by decide +kernel
theorem dX10_switched_6 : decode cX10_switched 6 = .ok (.iload_n 2, 1) := by decide +kernel
theorem dX10_switched_7 : decode cX10_switched 7 = .ok (.lload_n 3, 1) := by decide +kernel
theorem dX10_switched_8 : decode cX10_switched 8 = .ok (.invokestatic 126, 3) := by decide +kernel
theorem dX10_switched_11 : decode cX10_switched 11 = .ok (.ifCond .eq 8, 3) := by decide +kernel
theorem dX10_switched_14 : decode cX10_switched 14 = .ok (.iload 5, 2) := by decide +kernel
theorem dX10_switched_16 : decode cX10_switched 16 = .ok (.ifCond .ge 7, 3) := by decide +kernel
theorem dX10_switched_19 : decode cX10_switched 19 = .ok (.ldc2_w 185, 3) := by decide +kernel
theorem dX10_switched_22 : decode cX10_switched 22 = .ok (.lreturn, 1) := by decide +kernel
theorem dX10_switched_23 : decode cX10_switched 23 = .ok (.iload 5, 2) := by decide +kernel
theorem dX10_switched_25 : decode cX10_switched 25 = .ok (.aload_n 0, 1) := by decide +kernel
theorem dX10_switched_26 : decode cX10_switched 26 = .ok (.iload_n 1, 1) := by decide +kernel
theorem dX10_switched_27 : decode cX10_switched 27 = .ok (.iload_n 2, 1) := by decide +kernel
theorem dX10_switched_28 : decode cX10_switched 28 = .ok (.lload_n 3, 1) := by decide +kernel
theorem dX10_switched_29 : decode cX10_switched 29 = .ok (.iload 5, 2) := by decide +kernel
theorem dX10_switched_31 : decode cX10_switched 31 = .ok (.invokevirtual 204, 3) := by decide +kernel
theorem dX10_switched_34 : decode cX10_switched 34 = .ok (.if_icmp .ge 10, 3) := by decide +kernel
theorem dX10_switched_37 : decode cX10_switched 37 = .ok (.aload_n 0, 1) := by decide +kernel
theorem dX10_switched_38 : decode cX10_switched 38 = .ok (.getfield 201, 3) := by decide +kernel
theorem dX10_switched_41 : decode cX10_switched 41 = .ok (.goto 6, 3) := by decide +kernel
theorem dX10_switched_44 : decode cX10_switched 44 = .ok (.ldc2_w 189, 3) := by decide +kernel
theorem dX10_switched_47 : decode cX10_switched 47 = .ok (.lreturn, 1) := by decide +kernel
set_option maxRecDepth 20000 in
theorem ggX10_joined_X10_isPicture : GoodIn wsX10_joined wsX10_isPicture := goodIn_r _ [5, 6, 7, 4, 8, 9, 10, 11, 12] (by decide +kernel) (by decide +kernel)
set_option maxRecDepth 20000 in
theorem gX10_joined_X10_isPicture : GoodIn wsX10_joined (va_wsS RX10 126 yX10_isPicture wsX10_isPicture) := goodIn_app (goodIn_of _ (by decide +kernel)) ggX10_joined_X10_isPicture
set_option maxRecDepth 20000 in
theorem ggX10_joined_X10_isJoined : GoodIn wsX10_joined wsX10_isJoined := goodIn_r _ [16, 17, 18, 19, 4, 20, 21, 22, 23, 24, 25, 26, 27, 28, 29, 30, 31, 32, 33, 34, 35, 36, 37, 38, 39, 40, 41, 42, 43, 44, 45, 46, 47, 48, 49, 50, 51, 52, 53, 54, 55] (by decide +kernel) (by decide +kernel)
set_option maxRecDepth 20000 in
theorem gX10_joined_X10_isJoined : GoodIn wsX10_joined (wsV RX10 143 RX10 yX10_isJoined wsX10_isJoined) := goodIn_app (goodIn_of _ (by decide +kernel)) ggX10_joined_X10_isJoined
theorem dX10_joined_0 : decode cX10_joined 0 = .ok (.aload_n 0, 1) := by decide +kernel
theorem dX10_joined_1 : decode cX10_joined 1 = .ok (.iconst 0, 1) := by decide +kernel
theorem dX10_joined_2 : decode cX10_joined 2 = .ok (.putfield 79, 3) := by decide +kernel
theorem dX10_joined_5 : decode cX10_joined 5 = .ok (.iload_n 1, 1) := by decide +kernel
theorem dX10_joined_6 : decode cX10_joined 6 = .ok (.iload_n 2, 1) := by decide +kernel
theorem dX10_joined_7 : decode cX10_joined 7 = .ok (.lload_n 3, 1) := by decide +kernel
theorem dX10_joined_8 : decode cX10_joined 8 = .ok (.invokestatic 126, 3) := by decide +kernel
theorem dX10_joined_11 : decode cX10_joined 11 = .ok (.ifCond .ne 7, 3) := by decide +kernel
theorem dX10_joined_14 : decode cX10_joined 14 = .ok (.iconst (-1), 1) := by decide +kernel
theorem dX10_joined_15 : decode cX10_joined 15 = .ok (.goto 18, 3) := by decide +kernel
theorem dX10_joined_18 : decode cX10_joined 18 = .ok (.aload_n 0, 1) := by decide +kernel
theorem dX10_joined_19 : decode cX10_joined 19 = .ok (.iload_n 1, 1) := by decide +kernel
theorem dX10_joined_20 : decode cX10_joined 20 = .ok (.iload_n 2, 1) := by decide +kernel
theorem dX10_joined_21 : decode cX10_joined 21 = .ok (.lload_n 3, 1) := by decide +kernel
theorem dX10_joined_22 : decode cX10_joined 22 = .ok (.invokevirtual 143, 3) := by decide +kernel
theorem dX10_joined_25 : decode cX10_joined 25 = .ok (.ifCond .eq 7, 3) := by decide +kernel
theorem dX10_joined_28 : decode cX10_joined 28 = .ok (.iconst 1, 1) := by decide +kernel
theorem dX10_joined_29 : decode cX10_joined 29 = .ok (.goto 4, 3) := by decide +kernel
theorem dX10_joined_32 : decode cX10_joined 32 = .ok (.iconst 0, 1) := by decide +kernel
theorem dX10_joined_33 : decode cX10_joined 33 = .ok (.ireturn, 1) := by decide +kernel
set_option maxRecDepth 20000 in
theorem ggX10_even_X10_isPicture : GoodIn wsX10_even wsX10_isPicture := goodIn_r _ [5, 6, 7, 4, 8, 9, 10, 11, 12] (by decide +kernel) (by decide +kernel)
set_option maxRecDepth 20000 in
theorem gX10_even_X10_isPicture : GoodIn wsX10_even (va_wsS RX10 126 yX10_isPicture wsX10_isPicture) := goodIn_app (goodIn_of _ (by decide +kernel)) ggX10_even_X10_isPicture
set_option maxRecDepth 20000 in
theorem ggX10_even_X10_isEven : GoodIn wsX10_even wsX10_isEven := goodIn_r _ [15, 16, 17, 4, 18] (by decide +kernel) (by decide +kernel)
set_option maxRecDepth 20000 in
theorem gX10_even_X10_isEven : GoodIn wsX10_even (va_wsS RX10 146 yX10_isEven wsX10_isEven) := goodIn_app (goodIn_of _ (by decide +kernel)) ggX10_even_X10_isEven
theorem dX10_even_0 : decode cX10_even 0 = .ok (.aload_n 0, 1) := by decide +kernel
theorem dX10_even_1 : decode cX10_even 1 = .ok (.iconst 0, 1) := by decide +kernel
theorem dX10_even_2 : decode cX10_even 2 = .ok (.putfield 79, 3) := by decide +kernel
theorem dX10_even_5 : decode cX10_even 5 = .ok (.iload_n 1, 1) := by decide +kernel
theorem dX10_even_6 : decode cX10_even 6 = .ok (.iload_n 2, 1) := by decide +kernel
theorem dX10_even_7 : decode cX10_even 7 = .ok (.lload_n 3, 1) := by decide +kernel
theorem dX10_even_8 : decode cX10_even 8 = .ok (.invokestatic 126, 3) := by decide +kernel
theorem dX10_even_11 : decode cX10_even 11 = .ok (.ifCond .ne 7, 3) := by decide +kernel
theorem dX10_even_14 : decode cX10_even 14 = .ok (.iconst (-1), 1) := by decide +kernel
theorem dX10_even_15 : decode cX10_even 15 = .ok (.goto 19, 3) := by decide +kernel
theorem dX10_even_18 : decode cX10_even 18 = .ok (.iload_n 1, 1) := by decide +kernel
theorem dX10_even_19 : decode cX10_even 19 = .ok (.iload_n 2, 1) := by decide +kernel
theorem dX10_even_20 : decode cX10_even 20 = .ok (.lload_n 3, 1) := by decide +kernel
theorem dX10_even_21 : decode cX10_even 21 = .ok (.iload 5, 2) := by decide +kernel
theorem dX10_even_23 : decode cX10_even 23 = .ok (.invokestatic 146, 3) := by decide +kernel
theorem dX10_even_26 : decode cX10_even 26 = .ok (.ifCond .eq 7, 3) := by decide +kernel
theorem dX10_even_29 : decode cX10_even 29 = .ok (.iconst 1, 1) := by decide +kernel
theorem dX10_even_30 : decode cX10_even 30 = .ok (.goto 4, 3) := by decide +kernel
theorem dX10_even_33 : decode cX10_even 33 = .ok (.iconst 0, 1) := by decide +kernel
theorem dX10_even_34 : decode cX10_even 34 = .ok (.ireturn, 1) := by decide +kernel
set_option maxRecDepth 20000 in
theorem ggX10_turned_X10_isPicture : GoodIn wsX10_turned wsX10_isPicture := goodIn_r _ [7, 8, 9, 6, 10, 11, 12, 13, 14] (by decide +kernel) (by decide +kernel)
set_option maxRecDepth 20000 in
theorem gX10_turned_X10_isPicture : GoodIn wsX10_turned (va_wsS RX10 126 yX10_isPicture wsX10_isPicture) := goodIn_app (goodIn_of _ (by decide +kernel)) ggX10_turned_X10_isPicture
set_option maxRecDepth 20000 in
theorem ggX10_turned_X10_isIn : GoodIn wsX10_turned wsX10_isIn := goodIn_r _ [14] (by decide +kernel) (by decide +kernel)
set_option maxRecDepth 20000 in
theorem gX10_turned_X10_isIn : GoodIn wsX10_turned (va_wsS RX10 85 yX10_isIn wsX10_isIn) := goodIn_app (goodIn_of _ (by decide +kernel)) ggX10_turned_X10_isIn
set_option maxRecDepth 20000 in
theorem ggX10_turned_X10_one : GoodIn wsX10_turned wsX10_one := goodIn_r _ [17] (by decide +kernel) (by decide +kernel)
set_option maxRecDepth 20000 in
theorem gX10_turned_X10_one : GoodIn wsX10_turned (va_wsS RX10 104 yX10_one wsX10_one) := goodIn_app (goodIn_of _ (by decide +kernel)) ggX10_turned_X10_one
theorem dX10_turned_0 : decode cX10_turned 0 = .ok (.aload_n 0, 1) := by decide +kernel
theorem dX10_turned_1 : decode cX10_turned 1 = .ok (.iconst 0, 1) := by decide +kernel
theorem dX10_turned_2 : decode cX10_turned 2 = .ok (.putfield 79, 3) := by decide +kernel
theorem dX10_turned_5 : decode cX10_turned 5 = .ok (.iload_n 1, 1) := by decide +kernel
theorem dX10_turned_6 : decode cX10_turned 6 = .ok (.iload_n 2, 1) := by decide +kernel
theorem dX10_turned_7 : decode cX10_turned 7 = .ok (.lload_n 3, 1) := by decide +kernel
theorem dX10_turned_8 : decode cX10_turned 8 = .ok (.invokestatic 126, 3) := by decide +kernel
theorem dX10_turned_11 : decode cX10_turned 11 = .ok (.ifCond .eq 16, 3) := by decide +kernel
theorem dX10_turned_14 : decode cX10_turned 14 = .ok (.iload 5, 2) := by decide +kernel
theorem dX10_turned_16 : decode cX10_turned 16 = .ok (.i2l, 1) := by decide +kernel
theorem dX10_turned_17 : decode cX10_turned 17 = .ok (.lconst 0, 1) := by decide +kernel
theorem dX10_turned_18 : decode cX10_turned 18 = .ok (.ldc2_w 116, 3) := by decide +kernel
theorem dX10_turned_21 : decode cX10_turned 21 = .ok (.invokestatic 85, 3) := by decide +kernel
theorem dX10_turned_24 : decode cX10_turned 24 = .ok (.ifCond .ne 7, 3) := by decide +kernel
theorem dX10_turned_27 : decode cX10_turned 27 = .ok (.ldc2_w 185, 3) := by decide +kernel
theorem dX10_turned_30 : decode cX10_turned 30 = .ok (.lreturn, 1) := by decide +kernel
theorem dX10_turned_31 : decode cX10_turned 31 = .ok (.lconst 0, 1) := by decide +kernel
theorem dX10_turned_32 : decode cX10_turned 32 = .ok (.lstore 6, 2) := by decide +kernel
theorem dX10_turned_34 : decode cX10_turned 34 = .ok (.iconst 0, 1) := by decide +kernel
theorem dX10_turned_35 : decode cX10_turned 35 = .ok (.istore 8, 2) := by decide +kernel
theorem dX10_turned_37 : decode cX10_turned 37 = .ok (.iload 8, 2) := by decide +kernel
theorem dX10_turned_39 : decode cX10_turned 39 = .ok (.iload_n 1, 1) := by decide +kernel
theorem dX10_turned_40 : decode cX10_turned 40 = .ok (.iload_n 2, 1) := by decide +kernel
theorem dX10_turned_41 : decode cX10_turned 41 = .ok (.imul, 1) := by decide +kernel
theorem dX10_turned_42 : decode cX10_turned 42 = .ok (.if_icmp .ge 112, 3) := by decide +kernel
theorem dX10_turned_45 : decode cX10_turned 45 = .ok (.iload 8, 2) := by decide +kernel
theorem dX10_turned_47 : decode cX10_turned 47 = .ok (.iload_n 1, 1) := by decide +kernel
theorem dX10_turned_48 : decode cX10_turned 48 = .ok (.irem, 1) := by decide +kernel
theorem dX10_turned_49 : decode cX10_turned 49 = .ok (.istore 9, 2) := by decide +kernel
theorem dX10_turned_51 : decode cX10_turned 51 = .ok (.iload 8, 2) := by decide +kernel
theorem dX10_turned_53 : decode cX10_turned 53 = .ok (.iload_n 1, 1) := by decide +kernel
theorem dX10_turned_54 : decode cX10_turned 54 = .ok (.idiv, 1) := by decide +kernel
theorem dX10_turned_55 : decode cX10_turned 55 = .ok (.istore 10, 2) := by decide +kernel
theorem dX10_turned_57 : decode cX10_turned 57 = .ok (.iload 5, 2) := by decide +kernel
theorem dX10_turned_59 : decode cX10_turned 59 = .ok (.ifCond .ne 17, 3) := by decide +kernel
theorem dX10_turned_62 : decode cX10_turned 62 = .ok (.iload 9, 2) := by decide +kernel
theorem dX10_turned_64 : decode cX10_turned 64 = .ok (.iload_n 2, 1) := by decide +kernel
theorem dX10_turned_65 : decode cX10_turned 65 = .ok (.imul, 1) := by decide +kernel
theorem dX10_turned_66 : decode cX10_turned 66 = .ok (.iload_n 2, 1) := by decide +kernel
theorem dX10_turned_67 : decode cX10_turned 67 = .ok (.iadd, 1) := by decide +kernel
theorem dX10_turned_68 : decode cX10_turned 68 = .ok (.iconst 1, 1) := by decide +kernel
theorem dX10_turned_69 : decode cX10_turned 69 = .ok (.isub, 1) := by decide +kernel
theorem dX10_turned_70 : decode cX10_turned 70 = .ok (.iload 10, 2) := by decide +kernel
theorem dX10_turned_72 : decode cX10_turned 72 = .ok (.isub, 1) := by decide +kernel
theorem dX10_turned_73 : decode cX10_turned 73 = .ok (.goto 41, 3) := by decide +kernel
theorem dX10_turned_76 : decode cX10_turned 76 = .ok (.iload 5, 2) := by decide +kernel
theorem dX10_turned_78 : decode cX10_turned 78 = .ok (.iconst 1, 1) := by decide +kernel
theorem dX10_turned_79 : decode cX10_turned 79 = .ok (.if_icmp .ne 17, 3) := by decide +kernel
theorem dX10_turned_82 : decode cX10_turned 82 = .ok (.iload_n 2, 1) := by decide +kernel
theorem dX10_turned_83 : decode cX10_turned 83 = .ok (.iconst 1, 1) := by decide +kernel
theorem dX10_turned_84 : decode cX10_turned 84 = .ok (.isub, 1) := by decide +kernel
theorem dX10_turned_85 : decode cX10_turned 85 = .ok (.iload 10, 2) := by decide +kernel
theorem dX10_turned_87 : decode cX10_turned 87 = .ok (.isub, 1) := by decide +kernel
theorem dX10_turned_88 : decode cX10_turned 88 = .ok (.iload_n 1, 1) := by decide +kernel
theorem dX10_turned_89 : decode cX10_turned 89 = .ok (.imul, 1) := by decide +kernel
theorem dX10_turned_90 : decode cX10_turned 90 = .ok (.iload 9, 2) := by decide +kernel
theorem dX10_turned_92 : decode cX10_turned 92 = .ok (.iadd, 1) := by decide +kernel
theorem dX10_turned_93 : decode cX10_turned 93 = .ok (.goto 21, 3) := by decide +kernel
theorem dX10_turned_96 : decode cX10_turned 96 = .ok (.iload 5, 2) := by decide +kernel
theorem dX10_turned_98 : decode cX10_turned 98 = .ok (.iconst 2, 1) := by decide +kernel
theorem dX10_turned_99 : decode cX10_turned 99 = .ok (.if_icmp .ne 13, 3) := by decide +kernel
theorem dX10_turned_102 : decode cX10_turned 102 = .ok (.iload 9, 2) := by decide +kernel
theorem dX10_turned_104 : decode cX10_turned 104 = .ok (.iload_n 2, 1) := by decide +kernel
theorem dX10_turned_105 : decode cX10_turned 105 = .ok (.imul, 1) := by decide +kernel
theorem dX10_turned_106 : decode cX10_turned 106 = .ok (.iload 10, 2) := by decide +kernel
theorem dX10_turned_108 : decode cX10_turned 108 = .ok (.iadd, 1) := by decide +kernel
theorem dX10_turned_109 : decode cX10_turned 109 = .ok (.goto 5, 3) := by decide +kernel
theorem dX10_turned_112 : decode cX10_turned 112 = .ok (.iload 8, 2) := by decide +kernel
theorem dX10_turned_114 : decode cX10_turned 114 = .ok (.istore 11, 2) := by decide +kernel
theorem dX10_turned_116 : decode cX10_turned 116 = .ok (.lload 6, 2) := by decide +kernel
theorem dX10_turned_118 : decode cX10_turned 118 = .ok (.iload 5, 2) := by decide +kernel
theorem dX10_turned_120 : decode cX10_turned 120 = .ok (.iconst 3, 1) := by decide +kernel
theorem dX10_turned_121 : decode cX10_turned 121 = .ok (.if_icmp .ne 14, 3) := by decide +kernel
theorem dX10_turned_124 : decode cX10_turned 124 = .ok (.iconst 1, 1) := by decide +kernel
theorem dX10_turned_125 : decode cX10_turned 125 = .ok (.lload_n 3, 1) := by decide +kernel
theorem dX10_turned_126 : decode cX10_turned 126 = .ok (.iload 8, 2) := by decide +kernel
theorem dX10_turned_128 : decode cX10_turned 128 = .ok (.invokestatic 104, 3) := by decide +kernel
theorem dX10_turned_131 : decode cX10_turned 131 = .ok (.isub, 1) := by decide +kernel
theorem dX10_turned_132 : decode cX10_turned 132 = .ok (.goto 9, 3) := by decide +kernel
theorem dX10_turned_135 : decode cX10_turned 135 = .ok (.lload_n 3, 1) := by decide +kernel
theorem dX10_turned_136 : decode cX10_turned 136 = .ok (.iload 8, 2) := by decide +kernel
theorem dX10_turned_138 : decode cX10_turned 138 = .ok (.invokestatic 104, 3) := by decide +kernel
theorem dX10_turned_141 : decode cX10_turned 141 = .ok (.i2l, 1) := by decide +kernel
theorem dX10_turned_142 : decode cX10_turned 142 = .ok (.iload 11, 2) := by decide +kernel
theorem dX10_turned_144 : decode cX10_turned 144 = .ok (.lshl, 1) := by decide +kernel
theorem dX10_turned_145 : decode cX10_turned 145 = .ok (.lor, 1) := by decide +kernel
theorem dX10_turned_146 : decode cX10_turned 146 = .ok (.lstore 6, 2) := by decide +kernel
theorem dX10_turned_148 : decode cX10_turned 148 = .ok (.iinc 8 1, 3) := by decide +kernel
theorem dX10_turned_151 : decode cX10_turned 151 = .ok (.goto (-114), 3) := by decide +kernel
theorem dX10_turned_154 : decode cX10_turned 154 = .ok (.lload 6, 2) := by decide +kernel
theorem dX10_turned_156 : decode cX10_turned 156 = .ok (.lreturn, 1) := by decide +kernel
set_option maxRecDepth 20000 in
theorem ggX10_parts_X10_isPicture : GoodIn wsX10_parts wsX10_isPicture := goodIn_r _ [6, 7, 8, 5, 9, 10, 11, 12, 13] (by decide +kernel) (by decide +kernel)
set_option maxRecDepth 20000 in
theorem gX10_parts_X10_isPicture : GoodIn wsX10_parts (va_wsS RX10 126 yX10_isPicture wsX10_isPicture) := goodIn_app (goodIn_of _ (by decide +kernel)) ggX10_parts_X10_isPicture
set_option maxRecDepth 20000 in
theorem ggX10_parts_X10_isIn : GoodIn wsX10_parts wsX10_isIn := goodIn_r _ [13] (by decide +kernel) (by decide +kernel)
set_option maxRecDepth 20000 in
theorem gX10_parts_X10_isIn : GoodIn wsX10_parts (va_wsS RX10 85 yX10_isIn wsX10_isIn) := goodIn_app (goodIn_of _ (by decide +kernel)) ggX10_parts_X10_isIn
set_option maxRecDepth 20000 in
theorem ggX10_parts_X10_areAlike : GoodIn wsX10_parts wsX10_areAlike := goodIn_r _ [16, 17, 18, 5, 19, 20, 21, 22, 23, 24, 25, 26, 27, 28] (by decide +kernel) (by decide +kernel)
set_option maxRecDepth 20000 in
theorem gX10_parts_X10_areAlike : GoodIn wsX10_parts (va_wsS RX10 210 yX10_areAlike wsX10_areAlike) := goodIn_app (goodIn_of _ (by decide +kernel)) ggX10_parts_X10_areAlike
theorem dX10_parts_0 : decode cX10_parts 0 = .ok (.aload_n 0, 1) := by decide +kernel
theorem dX10_parts_1 : decode cX10_parts 1 = .ok (.iconst 0, 1) := by decide +kernel
theorem dX10_parts_2 : decode cX10_parts 2 = .ok (.putfield 79, 3) := by decide +kernel
theorem dX10_parts_5 : decode cX10_parts 5 = .ok (.iload_n 1, 1) := by decide +kernel
theorem dX10_parts_6 : decode cX10_parts 6 = .ok (.iload_n 2, 1) := by decide +kernel
theorem dX10_parts_7 : decode cX10_parts 7 = .ok (.lload_n 3, 1) := by decide +kernel
theorem dX10_parts_8 : decode cX10_parts 8 = .ok (.invokestatic 126, 3) := by decide +kernel
theorem dX10_parts_11 : decode cX10_parts 11 = .ok (.ifCond .eq 26, 3) := by decide +kernel
theorem dX10_parts_14 : decode cX10_parts 14 = .ok (.iload_n 1, 1) := by decide +kernel
theorem dX10_parts_15 : decode cX10_parts 15 = .ok (.iload_n 2, 1) := by decide +kernel

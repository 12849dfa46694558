theorem dX10_parts_16 : decode cX10_parts 16 = .ok (.lload 5, 2) := by decide +kernel
theorem dX10_parts_18 : decode cX10_parts 18 = .ok (.invokestatic 126, 3) := by decide +kernel
theorem dX10_parts_21 : decode cX10_parts 21 = .ok (.ifCond .eq 16, 3) := by decide +kernel
theorem dX10_parts_24 : decode cX10_parts 24 = .ok (.iload 7, 2) := by decide +kernel
theorem dX10_parts_26 : decode cX10_parts 26 = .ok (.i2l, 1) := by decide +kernel
theorem dX10_parts_27 : decode cX10_parts 27 = .ok (.lconst 0, 1) := by decide +kernel
theorem dX10_parts_28 : decode cX10_parts 28 = .ok (.ldc2_w 228, 3) := by decide +kernel
theorem dX10_parts_31 : decode cX10_parts 31 = .ok (.invokestatic 85, 3) := by decide +kernel
theorem dX10_parts_34 : decode cX10_parts 34 = .ok (.ifCond .ne 5, 3) := by decide +kernel
theorem dX10_parts_37 : decode cX10_parts 37 = .ok (.iconst (-1), 1) := by decide +kernel
theorem dX10_parts_38 : decode cX10_parts 38 = .ok (.ireturn, 1) := by decide +kernel
theorem dX10_parts_39 : decode cX10_parts 39 = .ok (.iconst 0, 1) := by decide +kernel
theorem dX10_parts_40 : decode cX10_parts 40 = .ok (.istore 8, 2) := by decide +kernel
theorem dX10_parts_42 : decode cX10_parts 42 = .ok (.iload 8, 2) := by decide +kernel
theorem dX10_parts_44 : decode cX10_parts 44 = .ok (.iconst 4, 1) := by decide +kernel
theorem dX10_parts_45 : decode cX10_parts 45 = .ok (.if_icmp .ge 36, 3) := by decide +kernel
theorem dX10_parts_48 : decode cX10_parts 48 = .ok (.iload 7, 2) := by decide +kernel
theorem dX10_parts_50 : decode cX10_parts 50 = .ok (.iload 8, 2) := by decide +kernel
theorem dX10_parts_52 : decode cX10_parts 52 = .ok (.ishr, 1) := by decide +kernel
theorem dX10_parts_53 : decode cX10_parts 53 = .ok (.iconst 1, 1) := by decide +kernel
theorem dX10_parts_54 : decode cX10_parts 54 = .ok (.iand, 1) := by decide +kernel
theorem dX10_parts_55 : decode cX10_parts 55 = .ok (.iconst 1, 1) := by decide +kernel
theorem dX10_parts_56 : decode cX10_parts 56 = .ok (.if_icmp .ne 19, 3) := by decide +kernel
theorem dX10_parts_59 : decode cX10_parts 59 = .ok (.iload_n 1, 1) := by decide +kernel
theorem dX10_parts_60 : decode cX10_parts 60 = .ok (.iload_n 2, 1) := by decide +kernel
theorem dX10_parts_61 : decode cX10_parts 61 = .ok (.lload_n 3, 1) := by decide +kernel
theorem dX10_parts_62 : decode cX10_parts 62 = .ok (.lload 5, 2) := by decide +kernel
theorem dX10_parts_64 : decode cX10_parts 64 = .ok (.iload 8, 2) := by decide +kernel
theorem dX10_parts_66 : decode cX10_parts 66 = .ok (.invokestatic 210, 3) := by decide +kernel
theorem dX10_parts_69 : decode cX10_parts 69 = .ok (.ifCond .ne 6, 3) := by decide +kernel
theorem dX10_parts_72 : decode cX10_parts 72 = .ok (.iload 8, 2) := by decide +kernel
theorem dX10_parts_74 : decode cX10_parts 74 = .ok (.ireturn, 1) := by decide +kernel
theorem dX10_parts_75 : decode cX10_parts 75 = .ok (.iinc 8 1, 3) := by decide +kernel
theorem dX10_parts_78 : decode cX10_parts 78 = .ok (.goto (-36), 3) := by decide +kernel
theorem dX10_parts_81 : decode cX10_parts 81 = .ok (.bipush (-2), 2) := by decide +kernel
theorem dX10_parts_83 : decode cX10_parts 83 = .ok (.ireturn, 1) := by decide +kernel
set_option maxRecDepth 20000 in
theorem ggX10_list_X10_isPicture : GoodIn wsX10_list wsX10_isPicture := goodIn_r _ [9, 10, 11, 8, 12, 13, 14, 15, 16] (by decide +kernel) (by decide +kernel)
set_option maxRecDepth 20000 in
theorem gX10_list_X10_isPicture : GoodIn wsX10_list (va_wsS RX10 126 yX10_isPicture wsX10_isPicture) := goodIn_app (goodIn_of _ (by decide +kernel)) ggX10_list_X10_isPicture
theorem dX10_list_0 : decode cX10_list 0 = .ok (.aload_n 0, 1) := by decide +kernel
theorem dX10_list_1 : decode cX10_list 1 = .ok (.iconst 0, 1) := by decide +kernel
theorem dX10_list_2 : decode cX10_list 2 = .ok (.putfield 79, 3) := by decide +kernel
theorem dX10_list_5 : decode cX10_list 5 = .ok (.iload_n 1, 1) := by decide +kernel
theorem dX10_list_6 : decode cX10_list 6 = .ok (.iload_n 2, 1) := by decide +kernel
theorem dX10_list_7 : decode cX10_list 7 = .ok (.lload_n 3, 1) := by decide +kernel
theorem dX10_list_8 : decode cX10_list 8 = .ok (.invokestatic 126, 3) := by decide +kernel
theorem dX10_list_11 : decode cX10_list 11 = .ok (.ifCond .ne 5, 3) := by decide +kernel
theorem dX10_list_14 : decode cX10_list 14 = .ok (.iconst (-1), 1) := by decide +kernel
theorem dX10_list_15 : decode cX10_list 15 = .ok (.ireturn, 1) := by decide +kernel
theorem dX10_list_16 : decode cX10_list 16 = .ok (.aload_n 0, 1) := by decide +kernel
theorem dX10_list_17 : decode cX10_list 17 = .ok (.getfield 230, 3) := by decide +kernel
theorem dX10_list_20 : decode cX10_list 20 = .ok (.bipush 12, 2) := by decide +kernel
theorem dX10_list_22 : decode cX10_list 22 = .ok (.if_icmp .ne 6, 3) := by decide +kernel
theorem dX10_list_25 : decode cX10_list 25 = .ok (.bipush (-2), 2) := by decide +kernel
theorem dX10_list_27 : decode cX10_list 27 = .ok (.ireturn, 1) := by decide +kernel
theorem dX10_list_28 : decode cX10_list 28 = .ok (.aload_n 0, 1) := by decide +kernel
theorem dX10_list_29 : decode cX10_list 29 = .ok (.getfield 230, 3) := by decide +kernel
theorem dX10_list_32 : decode cX10_list 32 = .ok (.ifCond .le 23, 3) := by decide +kernel
theorem dX10_list_35 : decode cX10_list 35 = .ok (.iload_n 1, 1) := by decide +kernel
theorem dX10_list_36 : decode cX10_list 36 = .ok (.aload_n 0, 1) := by decide +kernel
theorem dX10_list_37 : decode cX10_list 37 = .ok (.getfield 233, 3) := by decide +kernel
theorem dX10_list_40 : decode cX10_list 40 = .ok (.if_icmp .ne 11, 3) := by decide +kernel
theorem dX10_list_43 : decode cX10_list 43 = .ok (.iload_n 2, 1) := by decide +kernel
theorem dX10_list_44 : decode cX10_list 44 = .ok (.aload_n 0, 1) := by decide +kernel
theorem dX10_list_45 : decode cX10_list 45 = .ok (.getfield 236, 3) := by decide +kernel
theorem dX10_list_48 : decode cX10_list 48 = .ok (.if_icmp .eq 7, 3) := by decide +kernel
theorem dX10_list_51 : decode cX10_list 51 = .ok (.iconst 1, 1) := by decide +kernel
theorem dX10_list_52 : decode cX10_list 52 = .ok (.goto 4, 3) := by decide +kernel
theorem dX10_list_55 : decode cX10_list 55 = .ok (.iconst 0, 1) := by decide +kernel
theorem dX10_list_56 : decode cX10_list 56 = .ok (.istore 5, 2) := by decide +kernel
theorem dX10_list_58 : decode cX10_list 58 = .ok (.iconst 0, 1) := by decide +kernel
theorem dX10_list_59 : decode cX10_list 59 = .ok (.istore 6, 2) := by decide +kernel
theorem dX10_list_61 : decode cX10_list 61 = .ok (.iload 6, 2) := by decide +kernel
theorem dX10_list_63 : decode cX10_list 63 = .ok (.aload_n 0, 1) := by decide +kernel
theorem dX10_list_64 : decode cX10_list 64 = .ok (.getfield 230, 3) := by decide +kernel
theorem dX10_list_67 : decode cX10_list 67 = .ok (.if_icmp .ge 33, 3) := by decide +kernel
theorem dX10_list_70 : decode cX10_list 70 = .ok (.iload 5, 2) := by decide +kernel
theorem dX10_list_72 : decode cX10_list 72 = .ok (.ifCond .ne 15, 3) := by decide +kernel
theorem dX10_list_75 : decode cX10_list 75 = .ok (.aload_n 0, 1) := by decide +kernel
theorem dX10_list_76 : decode cX10_list 76 = .ok (.getfield 52, 3) := by decide +kernel
theorem dX10_list_79 : decode cX10_list 79 = .ok (.iload 6, 2) := by decide +kernel
theorem dX10_list_81 : decode cX10_list 81 = .ok (.laload, 1) := by decide +kernel
theorem dX10_list_82 : decode cX10_list 82 = .ok (.lload_n 3, 1) := by decide +kernel
theorem dX10_list_83 : decode cX10_list 83 = .ok (.lcmp, 1) := by decide +kernel
theorem dX10_list_84 : decode cX10_list 84 = .ok (.ifCond .ne 7, 3) := by decide +kernel
theorem dX10_list_87 : decode cX10_list 87 = .ok (.iconst 1, 1) := by decide +kernel
theorem dX10_list_88 : decode cX10_list 88 = .ok (.goto 4, 3) := by decide +kernel
theorem dX10_list_91 : decode cX10_list 91 = .ok (.iconst 0, 1) := by decide +kernel
theorem dX10_list_92 : decode cX10_list 92 = .ok (.istore 5, 2) := by decide +kernel
theorem dX10_list_94 : decode cX10_list 94 = .ok (.iinc 6 1, 3) := by decide +kernel
theorem dX10_list_97 : decode cX10_list 97 = .ok (.goto (-36), 3) := by decide +kernel
theorem dX10_list_100 : decode cX10_list 100 = .ok (.iload 5, 2) := by decide +kernel
theorem dX10_list_102 : decode cX10_list 102 = .ok (.ifCond .eq 6, 3) := by decide +kernel
theorem dX10_list_105 : decode cX10_list 105 = .ok (.bipush (-3), 2) := by decide +kernel
theorem dX10_list_107 : decode cX10_list 107 = .ok (.ireturn, 1) := by decide +kernel
theorem dX10_list_108 : decode cX10_list 108 = .ok (.aload_n 0, 1) := by decide +kernel
theorem dX10_list_109 : decode cX10_list 109 = .ok (.iload_n 1, 1) := by decide +kernel
theorem dX10_list_110 : decode cX10_list 110 = .ok (.putfield 233, 3) := by decide +kernel
theorem dX10_list_113 : decode cX10_list 113 = .ok (.aload_n 0, 1) := by decide +kernel
theorem dX10_list_114 : decode cX10_list 114 = .ok (.iload_n 2, 1) := by decide +kernel
theorem dX10_list_115 : decode cX10_list 115 = .ok (.putfield 236, 3) := by decide +kernel
theorem dX10_list_118 : decode cX10_list 118 = .ok (.aload_n 0, 1) := by decide +kernel
theorem dX10_list_119 : decode cX10_list 119 = .ok (.getfield 52, 3) := by decide +kernel
theorem dX10_list_122 : decode cX10_list 122 = .ok (.aload_n 0, 1) := by decide +kernel
theorem dX10_list_123 : decode cX10_list 123 = .ok (.getfield 230, 3) := by decide +kernel
theorem dX10_list_126 : decode cX10_list 126 = .ok (.lload_n 3, 1) := by decide +kernel
theorem dX10_list_127 : decode cX10_list 127 = .ok (.lastore, 1) := by decide +kernel
theorem dX10_list_128 : decode cX10_list 128 = .ok (.aload_n 0, 1) := by decide +kernel
theorem dX10_list_129 : decode cX10_list 129 = .ok (.dup, 1) := by decide +kernel
theorem dX10_list_130 : decode cX10_list 130 = .ok (.getfield 230, 3) := by decide +kernel
theorem dX10_list_133 : decode cX10_list 133 = .ok (.iconst 1, 1) := by decide +kernel
theorem dX10_list_134 : decode cX10_list 134 = .ok (.iadd, 1) := by decide +kernel
theorem dX10_list_135 : decode cX10_list 135 = .ok (.putfield 230, 3) := by decide +kernel
theorem dX10_list_138 : decode cX10_list 138 = .ok (.aload_n 0, 1) := by decide +kernel
theorem dX10_list_139 : decode cX10_list 139 = .ok (.getfield 230, 3) := by decide +kernel
theorem dX10_list_142 : decode cX10_list 142 = .ok (.ireturn, 1) := by decide +kernel
theorem dX10_clear_0 : decode cX10_clear 0 = .ok (.aload_n 0, 1) := by decide +kernel
theorem dX10_clear_1 : decode cX10_clear 1 = .ok (.iconst 0, 1) := by decide +kernel
theorem dX10_clear_2 : decode cX10_clear 2 = .ok (.putfield 79, 3) := by decide +kernel
theorem dX10_clear_5 : decode cX10_clear 5 = .ok (.aload_n 0, 1) := by decide +kernel
theorem dX10_clear_6 : decode cX10_clear 6 = .ok (.getfield 230, 3) := by decide +kernel
theorem dX10_clear_9 : decode cX10_clear 9 = .ok (.istore_n 1, 1) := by decide +kernel
theorem dX10_clear_10 : decode cX10_clear 10 = .ok (.aload_n 0, 1) := by decide +kernel
theorem dX10_clear_11 : decode cX10_clear 11 = .ok (.iconst 0, 1) := by decide +kernel
theorem dX10_clear_12 : decode cX10_clear 12 = .ok (.putfield 230, 3) := by decide +kernel
theorem dX10_clear_15 : decode cX10_clear 15 = .ok (.iload_n 1, 1) := by decide +kernel
theorem dX10_clear_16 : decode cX10_clear 16 = .ok (.ireturn, 1) := by decide +kernel
set_option maxRecDepth 20000 in
theorem ggX10_tells_X10_areAlike : GoodIn wsX10_tells wsX10_areAlike := goodIn_r _ [8, 9, 10, 7, 11, 12, 13, 14, 15, 16, 17, 18, 19, 20] (by decide +kernel) (by decide +kernel)
set_option maxRecDepth 20000 in
theorem gX10_tells_X10_areAlike : GoodIn wsX10_tells (va_wsS RX10 210 yX10_areAlike wsX10_areAlike) := goodIn_app (goodIn_of _ (by decide +kernel)) ggX10_tells_X10_areAlike
theorem dX10_tells_0 : decode cX10_tells 0 = .ok (.iconst 1, 1) := by decide +kernel
theorem dX10_tells_1 : decode cX10_tells 1 = .ok (.istore_n 2, 1) := by decide +kernel
theorem dX10_tells_2 : decode cX10_tells 2 = .ok (.iconst 0, 1) := by decide +kernel
theorem dX10_tells_3 : decode cX10_tells 3 = .ok (.istore_n 3, 1) := by decide +kernel
theorem dX10_tells_4 : decode cX10_tells 4 = .ok (.iload_n 3, 1) := by decide +kernel
theorem dX10_tells_5 : decode cX10_tells 5 = .ok (.aload_n 0, 1) := by decide +kernel
theorem dX10_tells_6 : decode cX10_tells 6 = .ok (.getfield 230, 3) := by decide +kernel
theorem dX10_tells_9 : decode cX10_tells 9 = .ok (.if_icmp .ge 108, 3) := by decide +kernel
theorem dX10_tells_12 : decode cX10_tells 12 = .ok (.iconst 0, 1) := by decide +kernel
theorem dX10_tells_13 : decode cX10_tells 13 = .ok (.istore 4, 2) := by decide +kernel
theorem dX10_tells_15 : decode cX10_tells 15 = .ok (.iload 4, 2) := by decide +kernel
theorem dX10_tells_17 : decode cX10_tells 17 = .ok (.iload_n 3, 1) := by decide +kernel
theorem dX10_tells_18 : decode cX10_tells 18 = .ok (.if_icmp .ge 93, 3) := by decide +kernel
theorem dX10_tells_21 : decode cX10_tells 21 = .ok (.iconst 0, 1) := by decide +kernel
theorem dX10_tells_22 : decode cX10_tells 22 = .ok (.istore 5, 2) := by decide +kernel
theorem dX10_tells_24 : decode cX10_tells 24 = .ok (.iconst 0, 1) := by decide +kernel
theorem dX10_tells_25 : decode cX10_tells 25 = .ok (.istore 6, 2) := by decide +kernel
theorem dX10_tells_27 : decode cX10_tells 27 = .ok (.iload 6, 2) := by decide +kernel
theorem dX10_tells_29 : decode cX10_tells 29 = .ok (.iconst 4, 1) := by decide +kernel
theorem dX10_tells_30 : decode cX10_tells 30 = .ok (.if_icmp .ge 60, 3) := by decide +kernel
theorem dX10_tells_33 : decode cX10_tells 33 = .ok (.iload 5, 2) := by decide +kernel
theorem dX10_tells_35 : decode cX10_tells 35 = .ok (.ifCond .ne 42, 3) := by decide +kernel
theorem dX10_tells_38 : decode cX10_tells 38 = .ok (.iload_n 1, 1) := by decide +kernel
theorem dX10_tells_39 : decode cX10_tells 39 = .ok (.iload 6, 2) := by decide +kernel
theorem dX10_tells_41 : decode cX10_tells 41 = .ok (.ishr, 1) := by decide +kernel
theorem dX10_tells_42 : decode cX10_tells 42 = .ok (.iconst 1, 1) := by decide +kernel
theorem dX10_tells_43 : decode cX10_tells 43 = .ok (.iand, 1) := by decide +kernel
theorem dX10_tells_44 : decode cX10_tells 44 = .ok (.iconst 1, 1) := by decide +kernel
theorem dX10_tells_45 : decode cX10_tells 45 = .ok (.if_icmp .ne 36, 3) := by decide +kernel
theorem dX10_tells_48 : decode cX10_tells 48 = .ok (.aload_n 0, 1) := by decide +kernel
theorem dX10_tells_49 : decode cX10_tells 49 = .ok (.getfield 233, 3) := by decide +kernel
theorem dX10_tells_52 : decode cX10_tells 52 = .ok (.aload_n 0, 1) := by decide +kernel
theorem dX10_tells_53 : decode cX10_tells 53 = .ok (.getfield 236, 3) := by decide +kernel
theorem dX10_tells_56 : decode cX10_tells 56 = .ok (.aload_n 0, 1) := by decide +kernel
theorem dX10_tells_57 : decode cX10_tells 57 = .ok (.getfield 52, 3) := by decide +kernel
theorem dX10_tells_60 : decode cX10_tells 60 = .ok (.iload_n 3, 1) := by decide +kernel
theorem dX10_tells_61 : decode cX10_tells 61 = .ok (.laload, 1) := by decide +kernel
theorem dX10_tells_62 : decode cX10_tells 62 = .ok (.aload_n 0, 1) := by decide +kernel
theorem dX10_tells_63 : decode cX10_tells 63 = .ok (.getfield 52, 3) := by decide +kernel
theorem dX10_tells_66 : decode cX10_tells 66 = .ok (.iload 4, 2) := by decide +kernel
theorem dX10_tells_68 : decode cX10_tells 68 = .ok (.laload, 1) := by decide +kernel
theorem dX10_tells_69 : decode cX10_tells 69 = .ok (.iload 6, 2) := by decide +kernel
theorem dX10_tells_71 : decode cX10_tells 71 = .ok (.invokestatic 210, 3) := by decide +kernel
theorem dX10_tells_74 : decode cX10_tells 74 = .ok (.ifCond .ne 7, 3) := by decide +kernel
theorem dX10_tells_77 : decode cX10_tells 77 = .ok (.iconst 1, 1) := by decide +kernel
theorem dX10_tells_78 : decode cX10_tells 78 = .ok (.goto 4, 3) := by decide +kernel
theorem dX10_tells_81 : decode cX10_tells 81 = .ok (.iconst 0, 1) := by decide +kernel
theorem dX10_tells_82 : decode cX10_tells 82 = .ok (.istore 5, 2) := by decide +kernel
theorem dX10_tells_84 : decode cX10_tells 84 = .ok (.iinc 6 1, 3) := by decide +kernel
theorem dX10_tells_87 : decode cX10_tells 87 = .ok (.goto (-60), 3) := by decide +kernel
theorem dX10_tells_90 : decode cX10_tells 90 = .ok (.iload_n 2, 1) := by decide +kernel
theorem dX10_tells_91 : decode cX10_tells 91 = .ok (.ifCond .eq 12, 3) := by decide +kernel
theorem dX10_tells_94 : decode cX10_tells 94 = .ok (.iload 5, 2) := by decide +kernel
theorem dX10_tells_96 : decode cX10_tells 96 = .ok (.ifCond .eq 7, 3) := by decide +kernel
theorem dX10_tells_99 : decode cX10_tells 99 = .ok (.iconst 1, 1) := by decide +kernel
theorem dX10_tells_100 : decode cX10_tells 100 = .ok (.goto 4, 3) := by decide +kernel
theorem dX10_tells_103 : decode cX10_tells 103 = .ok (.iconst 0, 1) := by decide +kernel
theorem dX10_tells_104 : decode cX10_tells 104 = .ok (.istore_n 2, 1) := by decide +kernel
theorem dX10_tells_105 : decode cX10_tells 105 = .ok (.iinc 4 1, 3) := by decide +kernel
theorem dX10_tells_108 : decode cX10_tells 108 = .ok (.goto (-93), 3) := by decide +kernel
theorem dX10_tells_111 : decode cX10_tells 111 = .ok (.iinc 3 1, 3) := by decide +kernel
theorem dX10_tells_114 : decode cX10_tells 114 = .ok (.goto (-110), 3) := by decide +kernel
theorem dX10_tells_117 : decode cX10_tells 117 = .ok (.iload_n 2, 1) := by decide +kernel
theorem dX10_tells_118 : decode cX10_tells 118 = .ok (.ireturn, 1) := by decide +kernel
set_option maxRecDepth 20000 in
theorem ggX10_ways_X10_countOnes : GoodIn wsX10_ways wsX10_countOnes := goodIn_r _ [5, 6, 7, 4, 8] (by decide +kernel) (by decide +kernel)
set_option maxRecDepth 20000 in
theorem gX10_ways_X10_countOnes : GoodIn wsX10_ways (va_wsS RX10 130 yX10_countOnes wsX10_countOnes) := goodIn_app (goodIn_of _ (by decide +kernel)) ggX10_ways_X10_countOnes
set_option maxRecDepth 20000 in
theorem ggX10_ways_X10_tells : GoodIn wsX10_ways wsX10_tells := goodIn_r _ [12, 13, 14, 15, 16, 17, 18, 4, 19, 20, 21, 22, 23, 24, 25, 26, 27, 28, 6, 7, 8, 29, 30, 31, 32, 33, 34, 35, 36, 37, 38, 39, 40, 41, 42, 43, 44, 45, 46, 47, 48, 49, 50, 51, 52, 53, 54, 55, 56, 57, 58, 59, 60, 61, 62, 63] (by decide +kernel) (by decide +kernel)
set_option maxRecDepth 20000 in
theorem gX10_ways_X10_tells : GoodIn wsX10_ways (wsV RX10 239 RX10 yX10_tells wsX10_tells) := goodIn_app (goodIn_of _ (by decide +kernel)) ggX10_ways_X10_tells
theorem dX10_ways_0 : decode cX10_ways 0 = .ok (.aload_n 0, 1) := by decide +kernel
theorem dX10_ways_1 : decode cX10_ways 1 = .ok (.iconst 0, 1) := by decide +kernel
theorem dX10_ways_2 : decode cX10_ways 2 = .ok (.putfield 79, 3) := by decide +kernel
theorem dX10_ways_5 : decode cX10_ways 5 = .ok (.iconst 0, 1) := by decide +kernel
theorem dX10_ways_6 : decode cX10_ways 6 = .ok (.istore_n 1, 1) := by decide +kernel
theorem dX10_ways_7 : decode cX10_ways 7 = .ok (.iload_n 1, 1) := by decide +kernel
theorem dX10_ways_8 : decode cX10_ways 8 = .ok (.iconst 4, 1) := by decide +kernel
theorem dX10_ways_9 : decode cX10_ways 9 = .ok (.if_icmp .gt 42, 3) := by decide +kernel
theorem dX10_ways_12 : decode cX10_ways 12 = .ok (.iconst 0, 1) := by decide +kernel
theorem dX10_ways_13 : decode cX10_ways 13 = .ok (.istore_n 2, 1) := by decide +kernel
theorem dX10_ways_14 : decode cX10_ways 14 = .ok (.iload_n 2, 1) := by decide +kernel
theorem dX10_ways_15 : decode cX10_ways 15 = .ok (.bipush 16, 2) := by decide +kernel
theorem dX10_ways_17 : decode cX10_ways 17 = .ok (.if_icmp .ge 28, 3) := by decide +kernel
theorem dX10_ways_20 : decode cX10_ways 20 = .ok (.iload_n 2, 1) := by decide +kernel
theorem dX10_ways_21 : decode cX10_ways 21 = .ok (.i2l, 1) := by decide +kernel
theorem dX10_ways_22 : decode cX10_ways 22 = .ok (.invokestatic 130, 3) := by decide +kernel
theorem dX10_ways_25 : decode cX10_ways 25 = .ok (.iload_n 1, 1) := by decide +kernel
theorem dX10_ways_26 : decode cX10_ways 26 = .ok (.if_icmp .ne 13, 3) := by decide +kernel
theorem dX10_ways_29 : decode cX10_ways 29 = .ok (.aload_n 0, 1) := by decide +kernel
theorem dX10_ways_30 : decode cX10_ways 30 = .ok (.iload_n 2, 1) := by decide +kernel
theorem dX10_ways_31 : decode cX10_ways 31 = .ok (.invokevirtual 239, 3) := by decide +kernel
theorem dX10_ways_34 : decode cX10_ways 34 = .ok (.ifCond .eq 5, 3) := by decide +kernel
theorem dX10_ways_37 : decode cX10_ways 37 = .ok (.iload_n 2, 1) := by decide +kernel
theorem dX10_ways_38 : decode cX10_ways 38 = .ok (.ireturn, 1) := by decide +kernel
theorem dX10_ways_39 : decode cX10_ways 39 = .ok (.iinc 2 1, 3) := by decide +kernel
theorem dX10_ways_42 : decode cX10_ways 42 = .ok (.goto (-28), 3) := by decide +kernel
theorem dX10_ways_45 : decode cX10_ways 45 = .ok (.iinc 1 1, 3) := by decide +kernel
theorem dX10_ways_48 : decode cX10_ways 48 = .ok (.goto (-41), 3) := by decide +kernel
theorem dX10_ways_51 : decode cX10_ways 51 = .ok (.bipush (-2), 2) := by decide +kernel
theorem dX10_ways_53 : decode cX10_ways 53 = .ok (.ireturn, 1) := by decide +kernel
theorem dX10_across_0 : decode cX10_across 0 = .ok (.iload_n 0, 1) := by decide +kernel
theorem dX10_across_1 : decode cX10_across 1 = .ok (.iconst 1, 1) := by decide +kernel
theorem dX10_across_2 : decode cX10_across 2 = .ok (.if_icmp .ne 7, 3) := by decide +kernel
theorem dX10_across_5 : decode cX10_across 5 = .ok (.iconst 0, 1) := by decide +kernel
theorem dX10_across_6 : decode cX10_across 6 = .ok (.goto 4, 3) := by decide +kernel
theorem dX10_across_9 : decode cX10_across 9 = .ok (.iconst 1, 1) := by decide +kernel
theorem dX10_across_10 : decode cX10_across 10 = .ok (.ireturn, 1) := by decide +kernel
theorem dX10_down_0 : decode cX10_down 0 = .ok (.iload_n 0, 1) := by decide +kernel
theorem dX10_down_1 : decode cX10_down 1 = .ok (.ifCond .ne 7, 3) := by decide +kernel
theorem dX10_down_4 : decode cX10_down 4 = .ok (.iconst 0, 1) := by decide +kernel
theorem dX10_down_5 : decode cX10_down 5 = .ok (.goto 13, 3) := by decide +kernel
theorem dX10_down_8 : decode cX10_down 8 = .ok (.iload_n 0, 1) := by decide +kernel
theorem dX10_down_9 : decode cX10_down 9 = .ok (.iconst 3, 1) := by decide +kernel
theorem dX10_down_10 : decode cX10_down 10 = .ok (.if_icmp .ne 7, 3) := by decide +kernel
theorem dX10_down_13 : decode cX10_down 13 = .ok (.iconst (-1), 1) := by decide +kernel
theorem dX10_down_14 : decode cX10_down 14 = .ok (.goto 4, 3) := by decide +kernel
theorem dX10_down_17 : decode cX10_down 17 = .ok (.iconst 1, 1) := by decide +kernel
theorem dX10_down_18 : decode cX10_down 18 = .ok (.ireturn, 1) := by decide +kernel
set_option maxRecDepth 20000 in
theorem ggX10_haunt_X10_across : GoodIn wsX10_haunt wsX10_across := goodIn_r _ [7] (by decide +kernel) (by decide +kernel)
set_option maxRecDepth 20000 in
theorem gX10_haunt_X10_across : GoodIn wsX10_haunt (va_wsS RX10 242 yX10_across wsX10_across) := goodIn_app (goodIn_of _ (by decide +kernel)) ggX10_haunt_X10_across
set_option maxRecDepth 20000 in
theorem ggX10_haunt_X10_down : GoodIn wsX10_haunt wsX10_down := goodIn_r _ [10] (by decide +kernel) (by decide +kernel)
set_option maxRecDepth 20000 in
theorem gX10_haunt_X10_down : GoodIn wsX10_haunt (va_wsS RX10 245 yX10_down wsX10_down) := goodIn_app (goodIn_of _ (by decide +kernel)) ggX10_haunt_X10_down
set_option maxRecDepth 20000 in
theorem ggX10_haunt_X10_isIn : GoodIn wsX10_haunt wsX10_isIn := goodIn_r _ [13] (by decide +kernel) (by decide +kernel)
set_option maxRecDepth 20000 in
theorem gX10_haunt_X10_isIn : GoodIn wsX10_haunt (va_wsS RX10 85 yX10_isIn wsX10_isIn) := goodIn_app (goodIn_of _ (by decide +kernel)) ggX10_haunt_X10_isIn
theorem dX10_haunt_0 : decode cX10_haunt 0 = .ok (.iconst 0, 1) := by decide +kernel
theorem dX10_haunt_1 : decode cX10_haunt 1 = .ok (.istore_n 2, 1) := by decide +kernel
theorem dX10_haunt_2 : decode cX10_haunt 2 = .ok (.iload_n 2, 1) := by decide +kernel
theorem dX10_haunt_3 : decode cX10_haunt 3 = .ok (.bipush 121, 2) := by decide +kernel
theorem dX10_haunt_5 : decode cX10_haunt 5 = .ok (.if_icmp .ge 16, 3) := by decide +kernel
theorem dX10_haunt_8 : decode cX10_haunt 8 = .ok (.aload_n 0, 1) := by decide +kernel
theorem dX10_haunt_9 : decode cX10_haunt 9 = .ok (.getfield 55, 3) := by decide +kernel
theorem dX10_haunt_12 : decode cX10_haunt 12 = .ok (.iload_n 2, 1) := by decide +kernel
theorem dX10_haunt_13 : decode cX10_haunt 13 = .ok (.iconst 0, 1) := by decide +kernel
theorem dX10_haunt_14 : decode cX10_haunt 14 = .ok (.iastore, 1) := by decide +kernel
theorem dX10_haunt_15 : decode cX10_haunt 15 = .ok (.iinc 2 1, 3) := by decide +kernel
theorem dX10_haunt_18 : decode cX10_haunt 18 = .ok (.goto (-16), 3) := by decide +kernel
theorem dX10_haunt_21 : decode cX10_haunt 21 = .ok (.aload_n 0, 1) := by decide +kernel
theorem dX10_haunt_22 : decode cX10_haunt 22 = .ok (.getfield 55, 3) := by decide +kernel
theorem dX10_haunt_25 : decode cX10_haunt 25 = .ok (.iload_n 1, 1) := by decide +kernel
theorem dX10_haunt_26 : decode cX10_haunt 26 = .ok (.iconst 3, 1) := by decide +kernel
theorem dX10_haunt_27 : decode cX10_haunt 27 = .ok (.ishr, 1) := by decide +kernel
theorem dX10_haunt_28 : decode cX10_haunt 28 = .ok (.iconst 1, 1) := by decide +kernel
theorem dX10_haunt_29 : decode cX10_haunt 29 = .ok (.iand, 1) := by decide +kernel
theorem dX10_haunt_30 : decode cX10_haunt 30 = .ok (.bipush 11, 2) := by decide +kernel
theorem dX10_haunt_32 : decode cX10_haunt 32 = .ok (.imul, 1) := by decide +kernel
theorem dX10_haunt_33 : decode cX10_haunt 33 = .ok (.iconst 1, 1) := by decide +kernel
theorem dX10_haunt_34 : decode cX10_haunt 34 = .ok (.iastore, 1) := by decide +kernel
theorem dX10_haunt_35 : decode cX10_haunt 35 = .ok (.iconst 0, 1) := by decide +kernel
theorem dX10_haunt_36 : decode cX10_haunt 36 = .ok (.istore_n 2, 1) := by decide +kernel
theorem dX10_haunt_37 : decode cX10_haunt 37 = .ok (.iload_n 2, 1) := by decide +kernel
theorem dX10_haunt_38 : decode cX10_haunt 38 = .ok (.iconst 4, 1) := by decide +kernel
theorem dX10_haunt_39 : decode cX10_haunt 39 = .ok (.if_icmp .ge 157, 3) := by decide +kernel
theorem dX10_haunt_42 : decode cX10_haunt 42 = .ok (.iconst 0, 1) := by decide +kernel
theorem dX10_haunt_43 : decode cX10_haunt 43 = .ok (.istore_n 3, 1) := by decide +kernel
theorem dX10_haunt_44 : decode cX10_haunt 44 = .ok (.iload_n 3, 1) := by decide +kernel
theorem dX10_haunt_45 : decode cX10_haunt 45 = .ok (.bipush 121, 2) := by decide +kernel
theorem dX10_haunt_47 : decode cX10_haunt 47 = .ok (.if_icmp .ge 108, 3) := by decide +kernel
theorem dX10_haunt_50 : decode cX10_haunt 50 = .ok (.iload_n 1, 1) := by decide +kernel
theorem dX10_haunt_51 : decode cX10_haunt 51 = .ok (.iload_n 2, 1) := by decide +kernel
theorem dX10_haunt_52 : decode cX10_haunt 52 = .ok (.ishr, 1) := by decide +kernel
theorem dX10_haunt_53 : decode cX10_haunt 53 = .ok (.iconst 1, 1) := by decide +kernel
theorem dX10_haunt_54 : decode cX10_haunt 54 = .ok (.iand, 1) := by decide +kernel
theorem dX10_haunt_55 : decode cX10_haunt 55 = .ok (.iconst 1, 1) := by decide +kernel
theorem dX10_haunt_56 : decode cX10_haunt 56 = .ok (.if_icmp .ne 99, 3) := by decide +kernel
theorem dX10_haunt_59 : decode cX10_haunt 59 = .ok (.iload_n 3, 1) := by decide +kernel
theorem dX10_haunt_60 : decode cX10_haunt 60 = .ok (.bipush 11, 2) := by decide +kernel
theorem dX10_haunt_62 : decode cX10_haunt 62 = .ok (.irem, 1) := by decide +kernel
theorem dX10_haunt_63 : decode cX10_haunt 63 = .ok (.iload_n 2, 1) := by decide +kernel
theorem dX10_haunt_64 : decode cX10_haunt 64 = .ok (.invokestatic 242, 3) := by decide +kernel
theorem dX10_haunt_67 : decode cX10_haunt 67 = .ok (.isub, 1) := by decide +kernel
theorem dX10_haunt_68 : decode cX10_haunt 68 = .ok (.istore 4, 2) := by decide +kernel
theorem dX10_haunt_70 : decode cX10_haunt 70 = .ok (.iload_n 3, 1) := by decide +kernel
theorem dX10_haunt_71 : decode cX10_haunt 71 = .ok (.bipush 11, 2) := by decide +kernel
theorem dX10_haunt_73 : decode cX10_haunt 73 = .ok (.idiv, 1) := by decide +kernel
theorem dX10_haunt_74 : decode cX10_haunt 74 = .ok (.iload_n 2, 1) := by decide +kernel
theorem dX10_haunt_75 : decode cX10_haunt 75 = .ok (.invokestatic 245, 3) := by decide +kernel
theorem dX10_haunt_78 : decode cX10_haunt 78 = .ok (.isub, 1) := by decide +kernel
theorem dX10_haunt_79 : decode cX10_haunt 79 = .ok (.istore 5, 2) := by decide +kernel
theorem dX10_haunt_81 : decode cX10_haunt 81 = .ok (.iload 4, 2) := by decide +kernel
theorem dX10_haunt_83 : decode cX10_haunt 83 = .ok (.i2l, 1) := by decide +kernel
theorem dX10_haunt_84 : decode cX10_haunt 84 = .ok (.lconst 0, 1) := by decide +kernel
theorem dX10_haunt_85 : decode cX10_haunt 85 = .ok (.ldc2_w 248, 3) := by decide +kernel
theorem dX10_haunt_88 : decode cX10_haunt 88 = .ok (.invokestatic 85, 3) := by decide +kernel
theorem dX10_haunt_91 : decode cX10_haunt 91 = .ok (.ifCond .eq 20, 3) := by decide +kernel
theorem dX10_haunt_94 : decode cX10_haunt 94 = .ok (.iload 5, 2) := by decide +kernel
theorem dX10_haunt_96 : decode cX10_haunt 96 = .ok (.i2l, 1) := by decide +kernel
theorem dX10_haunt_97 : decode cX10_haunt 97 = .ok (.lconst 0, 1) := by decide +kernel
theorem dX10_haunt_98 : decode cX10_haunt 98 = .ok (.ldc2_w 248, 3) := by decide +kernel
theorem dX10_haunt_101 : decode cX10_haunt 101 = .ok (.invokestatic 85, 3) := by decide +kernel
theorem dX10_haunt_104 : decode cX10_haunt 104 = .ok (.ifCond .eq 7, 3) := by decide +kernel
theorem dX10_haunt_107 : decode cX10_haunt 107 = .ok (.iconst 1, 1) := by decide +kernel
theorem dX10_haunt_108 : decode cX10_haunt 108 = .ok (.goto 4, 3) := by decide +kernel
theorem dX10_haunt_111 : decode cX10_haunt 111 = .ok (.iconst 0, 1) := by decide +kernel
theorem dX10_haunt_112 : decode cX10_haunt 112 = .ok (.istore 6, 2) := by decide +kernel
theorem dX10_haunt_114 : decode cX10_haunt 114 = .ok (.aload_n 0, 1) := by decide +kernel
theorem dX10_haunt_115 : decode cX10_haunt 115 = .ok (.getfield 58, 3) := by decide +kernel
theorem dX10_haunt_118 : decode cX10_haunt 118 = .ok (.iload_n 3, 1) := by decide +kernel
theorem dX10_haunt_119 : decode cX10_haunt 119 = .ok (.aload_n 0, 1) := by decide +kernel
theorem dX10_haunt_120 : decode cX10_haunt 120 = .ok (.getfield 55, 3) := by decide +kernel
theorem dX10_haunt_123 : decode cX10_haunt 123 = .ok (.iload_n 3, 1) := by decide +kernel
theorem dX10_haunt_124 : decode cX10_haunt 124 = .ok (.iaload, 1) := by decide +kernel
theorem dX10_haunt_125 : decode cX10_haunt 125 = .ok (.iload 6, 2) := by decide +kernel
theorem dX10_haunt_127 : decode cX10_haunt 127 = .ok (.ifCond .eq 19, 3) := by decide +kernel
theorem dX10_haunt_130 : decode cX10_haunt 130 = .ok (.aload_n 0, 1) := by decide +kernel
theorem dX10_haunt_131 : decode cX10_haunt 131 = .ok (.getfield 55, 3) := by decide +kernel
theorem dX10_haunt_134 : decode cX10_haunt 134 = .ok (.bipush 11, 2) := by decide +kernel
theorem dX10_haunt_136 : decode cX10_haunt 136 = .ok (.iload 5, 2) := by decide +kernel
theorem dX10_haunt_138 : decode cX10_haunt 138 = .ok (.imul, 1) := by decide +kernel
theorem dX10_haunt_139 : decode cX10_haunt 139 = .ok (.iload 4, 2) := by decide +kernel
theorem dX10_haunt_141 : decode cX10_haunt 141 = .ok (.iadd, 1) := by decide +kernel
theorem dX10_haunt_142 : decode cX10_haunt 142 = .ok (.iaload, 1) := by decide +kernel
theorem dX10_haunt_143 : decode cX10_haunt 143 = .ok (.goto 4, 3) := by decide +kernel
theorem dX10_haunt_146 : decode cX10_haunt 146 = .ok (.iconst 0, 1) := by decide +kernel
theorem dX10_haunt_147 : decode cX10_haunt 147 = .ok (.isub, 1) := by decide +kernel
theorem dX10_haunt_148 : decode cX10_haunt 148 = .ok (.iastore, 1) := by decide +kernel
theorem dX10_haunt_149 : decode cX10_haunt 149 = .ok (.iinc 3 1, 3) := by decide +kernel
theorem dX10_haunt_152 : decode cX10_haunt 152 = .ok (.goto (-108), 3) := by decide +kernel
theorem dX10_haunt_155 : decode cX10_haunt 155 = .ok (.iconst 0, 1) := by decide +kernel
theorem dX10_haunt_156 : decode cX10_haunt 156 = .ok (.istore_n 3, 1) := by decide +kernel
theorem dX10_haunt_157 : decode cX10_haunt 157 = .ok (.iload_n 3, 1) := by decide +kernel
theorem dX10_haunt_158 : decode cX10_haunt 158 = .ok (.bipush 121, 2) := by decide +kernel
theorem dX10_haunt_160 : decode cX10_haunt 160 = .ok (.if_icmp .ge 30, 3) := by decide +kernel
theorem dX10_haunt_163 : decode cX10_haunt 163 = .ok (.iload_n 1, 1) := by decide +kernel
theorem dX10_haunt_164 : decode cX10_haunt 164 = .ok (.iload_n 2, 1) := by decide +kernel
theorem dX10_haunt_165 : decode cX10_haunt 165 = .ok (.ishr, 1) := by decide +kernel
theorem dX10_haunt_166 : decode cX10_haunt 166 = .ok (.iconst 1, 1) := by decide +kernel
theorem dX10_haunt_167 : decode cX10_haunt 167 = .ok (.iand, 1) := by decide +kernel
theorem dX10_haunt_168 : decode cX10_haunt 168 = .ok (.iconst 1, 1) := by decide +kernel
theorem dX10_haunt_169 : decode cX10_haunt 169 = .ok (.if_icmp .ne 21, 3) := by decide +kernel
theorem dX10_haunt_172 : decode cX10_haunt 172 = .ok (.aload_n 0, 1) := by decide +kernel
theorem dX10_haunt_173 : decode cX10_haunt 173 = .ok (.getfield 55, 3) := by decide +kernel
theorem dX10_haunt_176 : decode cX10_haunt 176 = .ok (.iload_n 3, 1) := by decide +kernel
theorem dX10_haunt_177 : decode cX10_haunt 177 = .ok (.aload_n 0, 1) := by decide +kernel
theorem dX10_haunt_178 : decode cX10_haunt 178 = .ok (.getfield 58, 3) := by decide +kernel
theorem dX10_haunt_181 : decode cX10_haunt 181 = .ok (.iload_n 3, 1) := by decide +kernel
theorem dX10_haunt_182 : decode cX10_haunt 182 = .ok (.iaload, 1) := by decide +kernel
theorem dX10_haunt_183 : decode cX10_haunt 183 = .ok (.iastore, 1) := by decide +kernel
theorem dX10_haunt_184 : decode cX10_haunt 184 = .ok (.iinc 3 1, 3) := by decide +kernel
theorem dX10_haunt_187 : decode cX10_haunt 187 = .ok (.goto (-30), 3) := by decide +kernel
theorem dX10_haunt_190 : decode cX10_haunt 190 = .ok (.iinc 2 1, 3) := by decide +kernel
theorem dX10_haunt_193 : decode cX10_haunt 193 = .ok (.goto (-156), 3) := by decide +kernel
theorem dX10_haunt_196 : decode cX10_haunt 196 = .ok (.return_, 1) := by decide +kernel
set_option maxRecDepth 20000 in
theorem ggX10_ghost_X10_isIn : GoodIn wsX10_ghost wsX10_isIn := goodIn_r _ [8] (by decide +kernel) (by decide +kernel)
set_option maxRecDepth 20000 in
theorem gX10_ghost_X10_isIn : GoodIn wsX10_ghost (va_wsS RX10 85 yX10_isIn wsX10_isIn) := goodIn_app (goodIn_of _ (by decide +kernel)) ggX10_ghost_X10_isIn
set_option maxRecDepth 20000 in
theorem ggX10_ghost_X10_haunt : GoodIn wsX10_ghost wsX10_haunt := goodIn_r _ [12, 4, 13, 14, 15, 16, 7, 17, 18, 19, 20, 5, 6, 8, 21, 22, 23, 24, 25, 26, 27, 28, 29, 30, 31, 32, 33, 34, 35, 36, 37, 38, 39, 40, 41, 42, 43, 44, 45, 46, 47, 48, 49, 50, 51, 52, 53, 54, 55] (by decide +kernel) (by decide +kernel)
set_option maxRecDepth 20000 in
theorem gX10_ghost_X10_haunt : GoodIn wsX10_ghost (wsV RX10 252 RX10 yX10_haunt wsX10_haunt) := goodIn_app (goodIn_of _ (by decide +kernel)) ggX10_ghost_X10_haunt
theorem dX10_ghost_0 : decode cX10_ghost 0 = .ok (.aload_n 0, 1) := by decide +kernel
theorem dX10_ghost_1 : decode cX10_ghost 1 = .ok (.iload_n 1, 1) := by decide +kernel
theorem dX10_ghost_2 : decode cX10_ghost 2 = .ok (.i2l, 1) := by decide +kernel
theorem dX10_ghost_3 : decode cX10_ghost 3 = .ok (.lconst 1, 1) := by decide +kernel
theorem dX10_ghost_4 : decode cX10_ghost 4 = .ok (.ldc2_w 228, 3) := by decide +kernel
theorem dX10_ghost_7 : decode cX10_ghost 7 = .ok (.invokestatic 85, 3) := by decide +kernel
theorem dX10_ghost_10 : decode cX10_ghost 10 = .ok (.ifCond .eq 31, 3) := by decide +kernel
theorem dX10_ghost_13 : decode cX10_ghost 13 = .ok (.iload_n 2, 1) := by decide +kernel
theorem dX10_ghost_14 : decode cX10_ghost 14 = .ok (.i2l, 1) := by decide +kernel
theorem dX10_ghost_15 : decode cX10_ghost 15 = .ok (.lconst 0, 1) := by decide +kernel
theorem dX10_ghost_16 : decode cX10_ghost 16 = .ok (.ldc2_w 250, 3) := by decide +kernel
theorem dX10_ghost_19 : decode cX10_ghost 19 = .ok (.invokestatic 85, 3) := by decide +kernel
theorem dX10_ghost_22 : decode cX10_ghost 22 = .ok (.ifCond .eq 19, 3) := by decide +kernel
theorem dX10_ghost_25 : decode cX10_ghost 25 = .ok (.iload_n 3, 1) := by decide +kernel
theorem dX10_ghost_26 : decode cX10_ghost 26 = .ok (.i2l, 1) := by decide +kernel
theorem dX10_ghost_27 : decode cX10_ghost 27 = .ok (.lconst 0, 1) := by decide +kernel
theorem dX10_ghost_28 : decode cX10_ghost 28 = .ok (.ldc2_w 250, 3) := by decide +kernel
theorem dX10_ghost_31 : decode cX10_ghost 31 = .ok (.invokestatic 85, 3) := by decide +kernel
theorem dX10_ghost_34 : decode cX10_ghost 34 = .ok (.ifCond .eq 7, 3) := by decide +kernel
theorem dX10_ghost_37 : decode cX10_ghost 37 = .ok (.iconst 0, 1) := by decide +kernel
theorem dX10_ghost_38 : decode cX10_ghost 38 = .ok (.goto 4, 3) := by decide +kernel
theorem dX10_ghost_41 : decode cX10_ghost 41 = .ok (.iconst 1, 1) := by decide +kernel
theorem dX10_ghost_42 : decode cX10_ghost 42 = .ok (.putfield 79, 3) := by decide +kernel
theorem dX10_ghost_45 : decode cX10_ghost 45 = .ok (.aload_n 0, 1) := by decide +kernel
theorem dX10_ghost_46 : decode cX10_ghost 46 = .ok (.getfield 79, 3) := by decide +kernel
theorem dX10_ghost_49 : decode cX10_ghost 49 = .ok (.ifCond .le 5, 3) := by decide +kernel
theorem dX10_ghost_52 : decode cX10_ghost 52 = .ok (.iconst 0, 1) := by decide +kernel
theorem dX10_ghost_53 : decode cX10_ghost 53 = .ok (.ireturn, 1) := by decide +kernel

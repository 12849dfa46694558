theorem dX10_ghost_54 : decode cX10_ghost 54 = .ok (.aload_n 0, 1) := by decide +kernel
theorem dX10_ghost_55 : decode cX10_ghost 55 = .ok (.iload_n 1, 1) := by decide +kernel
theorem dX10_ghost_56 : decode cX10_ghost 56 = .ok (.invokevirtual 252, 3) := by decide +kernel
theorem dX10_ghost_59 : decode cX10_ghost 59 = .ok (.aload_n 0, 1) := by decide +kernel
theorem dX10_ghost_60 : decode cX10_ghost 60 = .ok (.getfield 55, 3) := by decide +kernel
theorem dX10_ghost_63 : decode cX10_ghost 63 = .ok (.bipush 11, 2) := by decide +kernel
theorem dX10_ghost_65 : decode cX10_ghost 65 = .ok (.iload_n 3, 1) := by decide +kernel
theorem dX10_ghost_66 : decode cX10_ghost 66 = .ok (.imul, 1) := by decide +kernel
theorem dX10_ghost_67 : decode cX10_ghost 67 = .ok (.iload_n 2, 1) := by decide +kernel
theorem dX10_ghost_68 : decode cX10_ghost 68 = .ok (.iadd, 1) := by decide +kernel
theorem dX10_ghost_69 : decode cX10_ghost 69 = .ok (.iaload, 1) := by decide +kernel
theorem dX10_ghost_70 : decode cX10_ghost 70 = .ok (.ireturn, 1) := by decide +kernel
set_option maxRecDepth 20000 in
theorem ggX10_placesOf_X10_across : GoodIn wsX10_placesOf wsX10_across := goodIn_r _ [4] (by decide +kernel) (by decide +kernel)
set_option maxRecDepth 20000 in
theorem gX10_placesOf_X10_across : GoodIn wsX10_placesOf (va_wsS RX10 242 yX10_across wsX10_across) := goodIn_app (goodIn_of _ (by decide +kernel)) ggX10_placesOf_X10_across
theorem dX10_placesOf_0 : decode cX10_placesOf 0 = .ok (.iconst 1, 1) := by decide +kernel
theorem dX10_placesOf_1 : decode cX10_placesOf 1 = .ok (.istore 4, 2) := by decide +kernel
theorem dX10_placesOf_3 : decode cX10_placesOf 3 = .ok (.iconst 1, 1) := by decide +kernel
theorem dX10_placesOf_4 : decode cX10_placesOf 4 = .ok (.istore 5, 2) := by decide +kernel
theorem dX10_placesOf_6 : decode cX10_placesOf 6 = .ok (.iconst 0, 1) := by decide +kernel
theorem dX10_placesOf_7 : decode cX10_placesOf 7 = .ok (.istore 6, 2) := by decide +kernel
theorem dX10_placesOf_9 : decode cX10_placesOf 9 = .ok (.iload 6, 2) := by decide +kernel
theorem dX10_placesOf_11 : decode cX10_placesOf 11 = .ok (.iconst 4, 1) := by decide +kernel
theorem dX10_placesOf_12 : decode cX10_placesOf 12 = .ok (.if_icmp .ge 65, 3) := by decide +kernel
theorem dX10_placesOf_15 : decode cX10_placesOf 15 = .ok (.iload_n 1, 1) := by decide +kernel
theorem dX10_placesOf_16 : decode cX10_placesOf 16 = .ok (.iload 6, 2) := by decide +kernel
theorem dX10_placesOf_18 : decode cX10_placesOf 18 = .ok (.ishr, 1) := by decide +kernel
theorem dX10_placesOf_19 : decode cX10_placesOf 19 = .ok (.iconst 1, 1) := by decide +kernel
theorem dX10_placesOf_20 : decode cX10_placesOf 20 = .ok (.iand, 1) := by decide +kernel
theorem dX10_placesOf_21 : decode cX10_placesOf 21 = .ok (.iconst 1, 1) := by decide +kernel
theorem dX10_placesOf_22 : decode cX10_placesOf 22 = .ok (.if_icmp .ne 7, 3) := by decide +kernel
theorem dX10_placesOf_25 : decode cX10_placesOf 25 = .ok (.iconst 1, 1) := by decide +kernel
theorem dX10_placesOf_26 : decode cX10_placesOf 26 = .ok (.goto 4, 3) := by decide +kernel
theorem dX10_placesOf_29 : decode cX10_placesOf 29 = .ok (.iconst 0, 1) := by decide +kernel
theorem dX10_placesOf_30 : decode cX10_placesOf 30 = .ok (.istore 7, 2) := by decide +kernel
theorem dX10_placesOf_32 : decode cX10_placesOf 32 = .ok (.iload 4, 2) := by decide +kernel
theorem dX10_placesOf_34 : decode cX10_placesOf 34 = .ok (.iload 7, 2) := by decide +kernel
theorem dX10_placesOf_36 : decode cX10_placesOf 36 = .ok (.ifCond .eq 11, 3) := by decide +kernel
theorem dX10_placesOf_39 : decode cX10_placesOf 39 = .ok (.iload 6, 2) := by decide +kernel
theorem dX10_placesOf_41 : decode cX10_placesOf 41 = .ok (.invokestatic 242, 3) := by decide +kernel
theorem dX10_placesOf_44 : decode cX10_placesOf 44 = .ok (.goto 4, 3) := by decide +kernel
theorem dX10_placesOf_47 : decode cX10_placesOf 47 = .ok (.iconst 0, 1) := by decide +kernel
theorem dX10_placesOf_48 : decode cX10_placesOf 48 = .ok (.iadd, 1) := by decide +kernel
theorem dX10_placesOf_49 : decode cX10_placesOf 49 = .ok (.istore 4, 2) := by decide +kernel
theorem dX10_placesOf_51 : decode cX10_placesOf 51 = .ok (.iload 5, 2) := by decide +kernel
theorem dX10_placesOf_53 : decode cX10_placesOf 53 = .ok (.iload 7, 2) := by decide +kernel
theorem dX10_placesOf_55 : decode cX10_placesOf 55 = .ok (.ifCond .eq 12, 3) := by decide +kernel
theorem dX10_placesOf_58 : decode cX10_placesOf 58 = .ok (.iload 6, 2) := by decide +kernel
theorem dX10_placesOf_60 : decode cX10_placesOf 60 = .ok (.ifCond .le 7, 3) := by decide +kernel
theorem dX10_placesOf_63 : decode cX10_placesOf 63 = .ok (.iconst 1, 1) := by decide +kernel
theorem dX10_placesOf_64 : decode cX10_placesOf 64 = .ok (.goto 4, 3) := by decide +kernel
theorem dX10_placesOf_67 : decode cX10_placesOf 67 = .ok (.iconst 0, 1) := by decide +kernel
theorem dX10_placesOf_68 : decode cX10_placesOf 68 = .ok (.iadd, 1) := by decide +kernel
theorem dX10_placesOf_69 : decode cX10_placesOf 69 = .ok (.istore 5, 2) := by decide +kernel
theorem dX10_placesOf_71 : decode cX10_placesOf 71 = .ok (.iinc 6 1, 3) := by decide +kernel
theorem dX10_placesOf_74 : decode cX10_placesOf 74 = .ok (.goto (-65), 3) := by decide +kernel
theorem dX10_placesOf_77 : decode cX10_placesOf 77 = .ok (.iload_n 2, 1) := by decide +kernel
theorem dX10_placesOf_78 : decode cX10_placesOf 78 = .ok (.iload 4, 2) := by decide +kernel
theorem dX10_placesOf_80 : decode cX10_placesOf 80 = .ok (.if_icmp .lt 9, 3) := by decide +kernel
theorem dX10_placesOf_83 : decode cX10_placesOf 83 = .ok (.iload_n 3, 1) := by decide +kernel
theorem dX10_placesOf_84 : decode cX10_placesOf 84 = .ok (.iload 5, 2) := by decide +kernel
theorem dX10_placesOf_86 : decode cX10_placesOf 86 = .ok (.if_icmp .ge 7, 3) := by decide +kernel
theorem dX10_placesOf_89 : decode cX10_placesOf 89 = .ok (.iconst 0, 1) := by decide +kernel
theorem dX10_placesOf_90 : decode cX10_placesOf 90 = .ok (.goto 16, 3) := by decide +kernel
theorem dX10_placesOf_93 : decode cX10_placesOf 93 = .ok (.iload_n 2, 1) := by decide +kernel
theorem dX10_placesOf_94 : decode cX10_placesOf 94 = .ok (.iload 4, 2) := by decide +kernel
theorem dX10_placesOf_96 : decode cX10_placesOf 96 = .ok (.isub, 1) := by decide +kernel
theorem dX10_placesOf_97 : decode cX10_placesOf 97 = .ok (.iconst 1, 1) := by decide +kernel
theorem dX10_placesOf_98 : decode cX10_placesOf 98 = .ok (.iadd, 1) := by decide +kernel
theorem dX10_placesOf_99 : decode cX10_placesOf 99 = .ok (.iload_n 3, 1) := by decide +kernel
theorem dX10_placesOf_100 : decode cX10_placesOf 100 = .ok (.iload 5, 2) := by decide +kernel
theorem dX10_placesOf_102 : decode cX10_placesOf 102 = .ok (.isub, 1) := by decide +kernel
theorem dX10_placesOf_103 : decode cX10_placesOf 103 = .ok (.iconst 1, 1) := by decide +kernel
theorem dX10_placesOf_104 : decode cX10_placesOf 104 = .ok (.iadd, 1) := by decide +kernel
theorem dX10_placesOf_105 : decode cX10_placesOf 105 = .ok (.imul, 1) := by decide +kernel
theorem dX10_placesOf_106 : decode cX10_placesOf 106 = .ok (.ireturn, 1) := by decide +kernel
set_option maxRecDepth 20000 in
theorem ggX10_haunts_X10_isIn : GoodIn wsX10_haunts wsX10_isIn := goodIn_r _ [6] (by decide +kernel) (by decide +kernel)
set_option maxRecDepth 20000 in
theorem gX10_haunts_X10_isIn : GoodIn wsX10_haunts (va_wsS RX10 85 yX10_isIn wsX10_isIn) := goodIn_app (goodIn_of _ (by decide +kernel)) ggX10_haunts_X10_isIn
set_option maxRecDepth 20000 in
theorem ggX10_haunts_X10_isBoard : GoodIn wsX10_haunts wsX10_isBoard := goodIn_r _ [9, 10, 3, 4, 5, 6] (by decide +kernel) (by decide +kernel)
set_option maxRecDepth 20000 in
theorem gX10_haunts_X10_isBoard : GoodIn wsX10_haunts (va_wsS RX10 89 yX10_isBoard wsX10_isBoard) := goodIn_app (goodIn_of _ (by decide +kernel)) ggX10_haunts_X10_isBoard
set_option maxRecDepth 20000 in
theorem ggX10_haunts_X10_placesOf : GoodIn wsX10_haunts wsX10_placesOf := goodIn_r _ [14, 15, 16, 5, 17] (by decide +kernel) (by decide +kernel)
set_option maxRecDepth 20000 in
theorem gX10_haunts_X10_placesOf : GoodIn wsX10_haunts (wsV RX10 256 RX10 yX10_placesOf wsX10_placesOf) := goodIn_app (goodIn_of _ (by decide +kernel)) ggX10_haunts_X10_placesOf
theorem dX10_haunts_0 : decode cX10_haunts 0 = .ok (.aload_n 0, 1) := by decide +kernel
theorem dX10_haunts_1 : decode cX10_haunts 1 = .ok (.iconst 0, 1) := by decide +kernel
theorem dX10_haunts_2 : decode cX10_haunts 2 = .ok (.putfield 79, 3) := by decide +kernel
theorem dX10_haunts_5 : decode cX10_haunts 5 = .ok (.iload_n 1, 1) := by decide +kernel
theorem dX10_haunts_6 : decode cX10_haunts 6 = .ok (.i2l, 1) := by decide +kernel
theorem dX10_haunts_7 : decode cX10_haunts 7 = .ok (.lconst 1, 1) := by decide +kernel
theorem dX10_haunts_8 : decode cX10_haunts 8 = .ok (.ldc2_w 228, 3) := by decide +kernel
theorem dX10_haunts_11 : decode cX10_haunts 11 = .ok (.invokestatic 85, 3) := by decide +kernel
theorem dX10_haunts_14 : decode cX10_haunts 14 = .ok (.ifCond .eq 11, 3) := by decide +kernel
theorem dX10_haunts_17 : decode cX10_haunts 17 = .ok (.iload_n 2, 1) := by decide +kernel
theorem dX10_haunts_18 : decode cX10_haunts 18 = .ok (.iload_n 3, 1) := by decide +kernel
theorem dX10_haunts_19 : decode cX10_haunts 19 = .ok (.invokestatic 89, 3) := by decide +kernel
theorem dX10_haunts_22 : decode cX10_haunts 22 = .ok (.ifCond .ne 7, 3) := by decide +kernel
theorem dX10_haunts_25 : decode cX10_haunts 25 = .ok (.iconst (-1), 1) := by decide +kernel
theorem dX10_haunts_26 : decode cX10_haunts 26 = .ok (.goto 18, 3) := by decide +kernel
theorem dX10_haunts_29 : decode cX10_haunts 29 = .ok (.aload_n 0, 1) := by decide +kernel
theorem dX10_haunts_30 : decode cX10_haunts 30 = .ok (.iload_n 1, 1) := by decide +kernel
theorem dX10_haunts_31 : decode cX10_haunts 31 = .ok (.iload_n 2, 1) := by decide +kernel
theorem dX10_haunts_32 : decode cX10_haunts 32 = .ok (.iload_n 3, 1) := by decide +kernel
theorem dX10_haunts_33 : decode cX10_haunts 33 = .ok (.invokevirtual 256, 3) := by decide +kernel
theorem dX10_haunts_36 : decode cX10_haunts 36 = .ok (.ifCond .le 7, 3) := by decide +kernel
theorem dX10_haunts_39 : decode cX10_haunts 39 = .ok (.iconst 1, 1) := by decide +kernel
theorem dX10_haunts_40 : decode cX10_haunts 40 = .ok (.goto 4, 3) := by decide +kernel
theorem dX10_haunts_43 : decode cX10_haunts 43 = .ok (.iconst 0, 1) := by decide +kernel
theorem dX10_haunts_44 : decode cX10_haunts 44 = .ok (.ireturn, 1) := by decide +kernel
set_option maxRecDepth 20000 in
theorem ggX10_ghosts_X10_isIn : GoodIn wsX10_ghosts wsX10_isIn := goodIn_r _ [6] (by decide +kernel) (by decide +kernel)
set_option maxRecDepth 20000 in
theorem gX10_ghosts_X10_isIn : GoodIn wsX10_ghosts (va_wsS RX10 85 yX10_isIn wsX10_isIn) := goodIn_app (goodIn_of _ (by decide +kernel)) ggX10_ghosts_X10_isIn
set_option maxRecDepth 20000 in
theorem ggX10_ghosts_X10_isBoard : GoodIn wsX10_ghosts wsX10_isBoard := goodIn_r _ [9, 10, 3, 4, 5, 6] (by decide +kernel) (by decide +kernel)
set_option maxRecDepth 20000 in
theorem gX10_ghosts_X10_isBoard : GoodIn wsX10_ghosts (va_wsS RX10 89 yX10_isBoard wsX10_isBoard) := goodIn_app (goodIn_of _ (by decide +kernel)) ggX10_ghosts_X10_isBoard
set_option maxRecDepth 20000 in
theorem ggX10_ghosts_X10_placesOf : GoodIn wsX10_ghosts wsX10_placesOf := goodIn_r _ [14, 15, 16, 5, 17] (by decide +kernel) (by decide +kernel)
set_option maxRecDepth 20000 in
theorem gX10_ghosts_X10_placesOf : GoodIn wsX10_ghosts (wsV RX10 256 RX10 yX10_placesOf wsX10_placesOf) := goodIn_app (goodIn_of _ (by decide +kernel)) ggX10_ghosts_X10_placesOf
theorem dX10_ghosts_0 : decode cX10_ghosts 0 = .ok (.aload_n 0, 1) := by decide +kernel
theorem dX10_ghosts_1 : decode cX10_ghosts 1 = .ok (.iconst 0, 1) := by decide +kernel
theorem dX10_ghosts_2 : decode cX10_ghosts 2 = .ok (.putfield 79, 3) := by decide +kernel
theorem dX10_ghosts_5 : decode cX10_ghosts 5 = .ok (.iload_n 1, 1) := by decide +kernel
theorem dX10_ghosts_6 : decode cX10_ghosts 6 = .ok (.i2l, 1) := by decide +kernel
theorem dX10_ghosts_7 : decode cX10_ghosts 7 = .ok (.lconst 1, 1) := by decide +kernel
theorem dX10_ghosts_8 : decode cX10_ghosts 8 = .ok (.ldc2_w 228, 3) := by decide +kernel
theorem dX10_ghosts_11 : decode cX10_ghosts 11 = .ok (.invokestatic 85, 3) := by decide +kernel
theorem dX10_ghosts_14 : decode cX10_ghosts 14 = .ok (.ifCond .eq 11, 3) := by decide +kernel
theorem dX10_ghosts_17 : decode cX10_ghosts 17 = .ok (.iload_n 2, 1) := by decide +kernel
theorem dX10_ghosts_18 : decode cX10_ghosts 18 = .ok (.iload_n 3, 1) := by decide +kernel
theorem dX10_ghosts_19 : decode cX10_ghosts 19 = .ok (.invokestatic 89, 3) := by decide +kernel
theorem dX10_ghosts_22 : decode cX10_ghosts 22 = .ok (.ifCond .ne 7, 3) := by decide +kernel
theorem dX10_ghosts_25 : decode cX10_ghosts 25 = .ok (.iconst (-1), 1) := by decide +kernel
theorem dX10_ghosts_26 : decode cX10_ghosts 26 = .ok (.goto 10, 3) := by decide +kernel
theorem dX10_ghosts_29 : decode cX10_ghosts 29 = .ok (.aload_n 0, 1) := by decide +kernel
theorem dX10_ghosts_30 : decode cX10_ghosts 30 = .ok (.iload_n 1, 1) := by decide +kernel
theorem dX10_ghosts_31 : decode cX10_ghosts 31 = .ok (.iload_n 2, 1) := by decide +kernel
theorem dX10_ghosts_32 : decode cX10_ghosts 32 = .ok (.iload_n 3, 1) := by decide +kernel
theorem dX10_ghosts_33 : decode cX10_ghosts 33 = .ok (.invokevirtual 256, 3) := by decide +kernel
theorem dX10_ghosts_36 : decode cX10_ghosts 36 = .ok (.ireturn, 1) := by decide +kernel
theorem dX10_weightOf_0 : decode cX10_weightOf 0 = .ok (.bipush 10, 2) := by decide +kernel
theorem dX10_weightOf_2 : decode cX10_weightOf 2 = .ok (.aload_n 0, 1) := by decide +kernel
theorem dX10_weightOf_3 : decode cX10_weightOf 3 = .ok (.getfield 13, 3) := by decide +kernel
theorem dX10_weightOf_6 : decode cX10_weightOf 6 = .ok (.iload_n 1, 1) := by decide +kernel
theorem dX10_weightOf_7 : decode cX10_weightOf 7 = .ok (.iaload, 1) := by decide +kernel
theorem dX10_weightOf_8 : decode cX10_weightOf 8 = .ok (.aload_n 0, 1) := by decide +kernel
theorem dX10_weightOf_9 : decode cX10_weightOf 9 = .ok (.getfield 16, 3) := by decide +kernel
theorem dX10_weightOf_12 : decode cX10_weightOf 12 = .ok (.iload_n 1, 1) := by decide +kernel
theorem dX10_weightOf_13 : decode cX10_weightOf 13 = .ok (.iaload, 1) := by decide +kernel
theorem dX10_weightOf_14 : decode cX10_weightOf 14 = .ok (.imul, 1) := by decide +kernel
theorem dX10_weightOf_15 : decode cX10_weightOf 15 = .ok (.iadd, 1) := by decide +kernel
theorem dX10_weightOf_16 : decode cX10_weightOf 16 = .ok (.istore_n 2, 1) := by decide +kernel
theorem dX10_weightOf_17 : decode cX10_weightOf 17 = .ok (.iconst 0, 1) := by decide +kernel
theorem dX10_weightOf_18 : decode cX10_weightOf 18 = .ok (.istore_n 3, 1) := by decide +kernel
theorem dX10_weightOf_19 : decode cX10_weightOf 19 = .ok (.iconst 0, 1) := by decide +kernel
theorem dX10_weightOf_20 : decode cX10_weightOf 20 = .ok (.istore 4, 2) := by decide +kernel
theorem dX10_weightOf_22 : decode cX10_weightOf 22 = .ok (.iload 4, 2) := by decide +kernel
theorem dX10_weightOf_24 : decode cX10_weightOf 24 = .ok (.bipush 36, 2) := by decide +kernel
theorem dX10_weightOf_26 : decode cX10_weightOf 26 = .ok (.if_icmp .ge 24, 3) := by decide +kernel
theorem dX10_weightOf_29 : decode cX10_weightOf 29 = .ok (.iload_n 3, 1) := by decide +kernel
theorem dX10_weightOf_30 : decode cX10_weightOf 30 = .ok (.aload_n 0, 1) := by decide +kernel
theorem dX10_weightOf_31 : decode cX10_weightOf 31 = .ok (.getfield 29, 3) := by decide +kernel
theorem dX10_weightOf_34 : decode cX10_weightOf 34 = .ok (.bipush 36, 2) := by decide +kernel
theorem dX10_weightOf_36 : decode cX10_weightOf 36 = .ok (.iload_n 1, 1) := by decide +kernel
theorem dX10_weightOf_37 : decode cX10_weightOf 37 = .ok (.imul, 1) := by decide +kernel
theorem dX10_weightOf_38 : decode cX10_weightOf 38 = .ok (.iload 4, 2) := by decide +kernel
theorem dX10_weightOf_40 : decode cX10_weightOf 40 = .ok (.iadd, 1) := by decide +kernel
theorem dX10_weightOf_41 : decode cX10_weightOf 41 = .ok (.iaload, 1) := by decide +kernel
theorem dX10_weightOf_42 : decode cX10_weightOf 42 = .ok (.iadd, 1) := by decide +kernel
theorem dX10_weightOf_43 : decode cX10_weightOf 43 = .ok (.istore_n 3, 1) := by decide +kernel
theorem dX10_weightOf_44 : decode cX10_weightOf 44 = .ok (.iinc 4 1, 3) := by decide +kernel
theorem dX10_weightOf_47 : decode cX10_weightOf 47 = .ok (.goto (-25), 3) := by decide +kernel
theorem dX10_weightOf_50 : decode cX10_weightOf 50 = .ok (.aload_n 0, 1) := by decide +kernel
theorem dX10_weightOf_51 : decode cX10_weightOf 51 = .ok (.getfield 7, 3) := by decide +kernel
theorem dX10_weightOf_54 : decode cX10_weightOf 54 = .ok (.iload_n 1, 1) := by decide +kernel
theorem dX10_weightOf_55 : decode cX10_weightOf 55 = .ok (.iaload, 1) := by decide +kernel
theorem dX10_weightOf_56 : decode cX10_weightOf 56 = .ok (.ifCond .ne 7, 3) := by decide +kernel
theorem dX10_weightOf_59 : decode cX10_weightOf 59 = .ok (.iload_n 2, 1) := by decide +kernel
theorem dX10_weightOf_60 : decode cX10_weightOf 60 = .ok (.goto 42, 3) := by decide +kernel
theorem dX10_weightOf_63 : decode cX10_weightOf 63 = .ok (.aload_n 0, 1) := by decide +kernel
theorem dX10_weightOf_64 : decode cX10_weightOf 64 = .ok (.getfield 7, 3) := by decide +kernel
theorem dX10_weightOf_67 : decode cX10_weightOf 67 = .ok (.iload_n 1, 1) := by decide +kernel
theorem dX10_weightOf_68 : decode cX10_weightOf 68 = .ok (.iaload, 1) := by decide +kernel
theorem dX10_weightOf_69 : decode cX10_weightOf 69 = .ok (.iconst 1, 1) := by decide +kernel
theorem dX10_weightOf_70 : decode cX10_weightOf 70 = .ok (.if_icmp .ne 10, 3) := by decide +kernel
theorem dX10_weightOf_73 : decode cX10_weightOf 73 = .ok (.iload_n 2, 1) := by decide +kernel
theorem dX10_weightOf_74 : decode cX10_weightOf 74 = .ok (.bipush 100, 2) := by decide +kernel
theorem dX10_weightOf_76 : decode cX10_weightOf 76 = .ok (.iadd, 1) := by decide +kernel
theorem dX10_weightOf_77 : decode cX10_weightOf 77 = .ok (.goto 25, 3) := by decide +kernel
theorem dX10_weightOf_80 : decode cX10_weightOf 80 = .ok (.aload_n 0, 1) := by decide +kernel
theorem dX10_weightOf_81 : decode cX10_weightOf 81 = .ok (.getfield 7, 3) := by decide +kernel
theorem dX10_weightOf_84 : decode cX10_weightOf 84 = .ok (.iload_n 1, 1) := by decide +kernel
theorem dX10_weightOf_85 : decode cX10_weightOf 85 = .ok (.iaload, 1) := by decide +kernel
theorem dX10_weightOf_86 : decode cX10_weightOf 86 = .ok (.iconst 2, 1) := by decide +kernel
theorem dX10_weightOf_87 : decode cX10_weightOf 87 = .ok (.if_icmp .ne 12, 3) := by decide +kernel
theorem dX10_weightOf_90 : decode cX10_weightOf 90 = .ok (.iconst 2, 1) := by decide +kernel
theorem dX10_weightOf_91 : decode cX10_weightOf 91 = .ok (.iload_n 2, 1) := by decide +kernel
theorem dX10_weightOf_92 : decode cX10_weightOf 92 = .ok (.bipush 100, 2) := by decide +kernel
theorem dX10_weightOf_94 : decode cX10_weightOf 94 = .ok (.iadd, 1) := by decide +kernel
theorem dX10_weightOf_95 : decode cX10_weightOf 95 = .ok (.imul, 1) := by decide +kernel
theorem dX10_weightOf_96 : decode cX10_weightOf 96 = .ok (.goto 6, 3) := by decide +kernel
theorem dX10_weightOf_99 : decode cX10_weightOf 99 = .ok (.iload_n 2, 1) := by decide +kernel
theorem dX10_weightOf_100 : decode cX10_weightOf 100 = .ok (.iload_n 3, 1) := by decide +kernel
theorem dX10_weightOf_101 : decode cX10_weightOf 101 = .ok (.iadd, 1) := by decide +kernel
theorem dX10_weightOf_102 : decode cX10_weightOf 102 = .ok (.ireturn, 1) := by decide +kernel
set_option maxRecDepth 20000 in
theorem ggX10_make_X10_isShelf : GoodIn wsX10_make wsX10_isShelf := goodIn_r _ [10] (by decide +kernel) (by decide +kernel)
set_option maxRecDepth 20000 in
theorem gX10_make_X10_isShelf : GoodIn wsX10_make (va_wsS RX10 259 yX10_isShelf wsX10_isShelf) := goodIn_app (goodIn_of _ (by decide +kernel)) ggX10_make_X10_isShelf
set_option maxRecDepth 20000 in
theorem ggX10_make_X10_isIn : GoodIn wsX10_make wsX10_isIn := goodIn_r _ [13] (by decide +kernel) (by decide +kernel)
set_option maxRecDepth 20000 in
theorem gX10_make_X10_isIn : GoodIn wsX10_make (va_wsS RX10 85 yX10_isIn wsX10_isIn) := goodIn_app (goodIn_of _ (by decide +kernel)) ggX10_make_X10_isIn
theorem dX10_make_0 : decode cX10_make 0 = .ok (.aload_n 0, 1) := by decide +kernel
theorem dX10_make_1 : decode cX10_make 1 = .ok (.iconst 0, 1) := by decide +kernel
theorem dX10_make_2 : decode cX10_make 2 = .ok (.putfield 79, 3) := by decide +kernel
theorem dX10_make_5 : decode cX10_make 5 = .ok (.iload_n 1, 1) := by decide +kernel
theorem dX10_make_6 : decode cX10_make 6 = .ok (.invokestatic 259, 3) := by decide +kernel
theorem dX10_make_9 : decode cX10_make 9 = .ok (.ifCond .eq 23, 3) := by decide +kernel
theorem dX10_make_12 : decode cX10_make 12 = .ok (.iload_n 2, 1) := by decide +kernel
theorem dX10_make_13 : decode cX10_make 13 = .ok (.i2l, 1) := by decide +kernel
theorem dX10_make_14 : decode cX10_make 14 = .ok (.ldc2_w 116, 3) := by decide +kernel
theorem dX10_make_17 : decode cX10_make 17 = .ok (.ldc2_w 265, 3) := by decide +kernel
theorem dX10_make_20 : decode cX10_make 20 = .ok (.invokestatic 85, 3) := by decide +kernel
theorem dX10_make_23 : decode cX10_make 23 = .ok (.ifCond .eq 9, 3) := by decide +kernel
theorem dX10_make_26 : decode cX10_make 26 = .ok (.iload_n 3, 1) := by decide +kernel
theorem dX10_make_27 : decode cX10_make 27 = .ok (.bipush 60, 2) := by decide +kernel
theorem dX10_make_29 : decode cX10_make 29 = .ok (.if_icmp .le 5, 3) := by decide +kernel
theorem dX10_make_32 : decode cX10_make 32 = .ok (.iconst (-1), 1) := by decide +kernel
theorem dX10_make_33 : decode cX10_make 33 = .ok (.ireturn, 1) := by decide +kernel
theorem dX10_make_34 : decode cX10_make 34 = .ok (.iload_n 3, 1) := by decide +kernel
theorem dX10_make_35 : decode cX10_make 35 = .ok (.ifCond .ge 6, 3) := by decide +kernel
theorem dX10_make_38 : decode cX10_make 38 = .ok (.bipush (-14), 2) := by decide +kernel
theorem dX10_make_40 : decode cX10_make 40 = .ok (.ireturn, 1) := by decide +kernel
theorem dX10_make_41 : decode cX10_make 41 = .ok (.aload_n 0, 1) := by decide +kernel
theorem dX10_make_42 : decode cX10_make 42 = .ok (.getfield 61, 3) := by decide +kernel
theorem dX10_make_45 : decode cX10_make 45 = .ok (.iload_n 1, 1) := by decide +kernel
theorem dX10_make_46 : decode cX10_make 46 = .ok (.iload_n 2, 1) := by decide +kernel
theorem dX10_make_47 : decode cX10_make 47 = .ok (.iastore, 1) := by decide +kernel
theorem dX10_make_48 : decode cX10_make 48 = .ok (.aload_n 0, 1) := by decide +kernel
theorem dX10_make_49 : decode cX10_make 49 = .ok (.getfield 64, 3) := by decide +kernel
theorem dX10_make_52 : decode cX10_make 52 = .ok (.iload_n 1, 1) := by decide +kernel
theorem dX10_make_53 : decode cX10_make 53 = .ok (.iload_n 3, 1) := by decide +kernel
theorem dX10_make_54 : decode cX10_make 54 = .ok (.iastore, 1) := by decide +kernel
theorem dX10_make_55 : decode cX10_make 55 = .ok (.iconst 0, 1) := by decide +kernel
theorem dX10_make_56 : decode cX10_make 56 = .ok (.istore 4, 2) := by decide +kernel
theorem dX10_make_58 : decode cX10_make 58 = .ok (.iload 4, 2) := by decide +kernel
theorem dX10_make_60 : decode cX10_make 60 = .ok (.iload_n 3, 1) := by decide +kernel
theorem dX10_make_61 : decode cX10_make 61 = .ok (.if_icmp .ge 22, 3) := by decide +kernel
theorem dX10_make_64 : decode cX10_make 64 = .ok (.aload_n 0, 1) := by decide +kernel
theorem dX10_make_65 : decode cX10_make 65 = .ok (.getfield 73, 3) := by decide +kernel
theorem dX10_make_68 : decode cX10_make 68 = .ok (.bipush 60, 2) := by decide +kernel
theorem dX10_make_70 : decode cX10_make 70 = .ok (.iload_n 1, 1) := by decide +kernel
theorem dX10_make_71 : decode cX10_make 71 = .ok (.imul, 1) := by decide +kernel
theorem dX10_make_72 : decode cX10_make 72 = .ok (.iload 4, 2) := by decide +kernel
theorem dX10_make_74 : decode cX10_make 74 = .ok (.iadd, 1) := by decide +kernel
theorem dX10_make_75 : decode cX10_make 75 = .ok (.lconst 0, 1) := by decide +kernel
theorem dX10_make_76 : decode cX10_make 76 = .ok (.lastore, 1) := by decide +kernel
theorem dX10_make_77 : decode cX10_make 77 = .ok (.iinc 4 1, 3) := by decide +kernel
theorem dX10_make_80 : decode cX10_make 80 = .ok (.goto (-22), 3) := by decide +kernel
theorem dX10_make_83 : decode cX10_make 83 = .ok (.iconst 0, 1) := by decide +kernel
theorem dX10_make_84 : decode cX10_make 84 = .ok (.ireturn, 1) := by decide +kernel
set_option maxRecDepth 20000 in
theorem ggX10_element_X10_isShelf : GoodIn wsX10_element wsX10_isShelf := goodIn_r _ [8] (by decide +kernel) (by decide +kernel)
set_option maxRecDepth 20000 in
theorem gX10_element_X10_isShelf : GoodIn wsX10_element (va_wsS RX10 259 yX10_isShelf wsX10_isShelf) := goodIn_app (goodIn_of _ (by decide +kernel)) ggX10_element_X10_isShelf
set_option maxRecDepth 20000 in
theorem ggX10_element_X10_isIn : GoodIn wsX10_element wsX10_isIn := goodIn_r _ [11] (by decide +kernel) (by decide +kernel)
set_option maxRecDepth 20000 in
theorem gX10_element_X10_isIn : GoodIn wsX10_element (va_wsS RX10 85 yX10_isIn wsX10_isIn) := goodIn_app (goodIn_of _ (by decide +kernel)) ggX10_element_X10_isIn
theorem dX10_element_0 : decode cX10_element 0 = .ok (.iload_n 1, 1) := by decide +kernel
theorem dX10_element_1 : decode cX10_element 1 = .ok (.invokestatic 259, 3) := by decide +kernel
theorem dX10_element_4 : decode cX10_element 4 = .ok (.ifCond .eq 35, 3) := by decide +kernel
theorem dX10_element_7 : decode cX10_element 7 = .ok (.aload_n 0, 1) := by decide +kernel
theorem dX10_element_8 : decode cX10_element 8 = .ok (.getfield 61, 3) := by decide +kernel
theorem dX10_element_11 : decode cX10_element 11 = .ok (.iload_n 1, 1) := by decide +kernel
theorem dX10_element_12 : decode cX10_element 12 = .ok (.iaload, 1) := by decide +kernel
theorem dX10_element_13 : decode cX10_element 13 = .ok (.iconst 2, 1) := by decide +kernel
theorem dX10_element_14 : decode cX10_element 14 = .ok (.if_icmp .le 25, 3) := by decide +kernel
theorem dX10_element_17 : decode cX10_element 17 = .ok (.iload_n 2, 1) := by decide +kernel
theorem dX10_element_18 : decode cX10_element 18 = .ok (.i2l, 1) := by decide +kernel
theorem dX10_element_19 : decode cX10_element 19 = .ok (.lconst 0, 1) := by decide +kernel
theorem dX10_element_20 : decode cX10_element 20 = .ok (.aload_n 0, 1) := by decide +kernel
theorem dX10_element_21 : decode cX10_element 21 = .ok (.getfield 64, 3) := by decide +kernel
theorem dX10_element_24 : decode cX10_element 24 = .ok (.iload_n 1, 1) := by decide +kernel
theorem dX10_element_25 : decode cX10_element 25 = .ok (.iaload, 1) := by decide +kernel
theorem dX10_element_26 : decode cX10_element 26 = .ok (.iconst 1, 1) := by decide +kernel
theorem dX10_element_27 : decode cX10_element 27 = .ok (.isub, 1) := by decide +kernel
theorem dX10_element_28 : decode cX10_element 28 = .ok (.i2l, 1) := by decide +kernel
theorem dX10_element_29 : decode cX10_element 29 = .ok (.invokestatic 85, 3) := by decide +kernel
theorem dX10_element_32 : decode cX10_element 32 = .ok (.ifCond .eq 7, 3) := by decide +kernel
theorem dX10_element_35 : decode cX10_element 35 = .ok (.iconst 1, 1) := by decide +kernel
theorem dX10_element_36 : decode cX10_element 36 = .ok (.goto 4, 3) := by decide +kernel
theorem dX10_element_39 : decode cX10_element 39 = .ok (.iconst 0, 1) := by decide +kernel
theorem dX10_element_40 : decode cX10_element 40 = .ok (.istore_n 3, 1) := by decide +kernel
theorem dX10_element_41 : decode cX10_element 41 = .ok (.aload_n 0, 1) := by decide +kernel
theorem dX10_element_42 : decode cX10_element 42 = .ok (.iload_n 1, 1) := by decide +kernel
theorem dX10_element_43 : decode cX10_element 43 = .ok (.invokestatic 259, 3) := by decide +kernel
theorem dX10_element_46 : decode cX10_element 46 = .ok (.ifCond .ne 7, 3) := by decide +kernel
theorem dX10_element_49 : decode cX10_element 49 = .ok (.iconst 1, 1) := by decide +kernel
theorem dX10_element_50 : decode cX10_element 50 = .ok (.goto 12, 3) := by decide +kernel
theorem dX10_element_53 : decode cX10_element 53 = .ok (.iload_n 3, 1) := by decide +kernel
theorem dX10_element_54 : decode cX10_element 54 = .ok (.ifCond .eq 7, 3) := by decide +kernel
theorem dX10_element_57 : decode cX10_element 57 = .ok (.iconst 0, 1) := by decide +kernel
theorem dX10_element_58 : decode cX10_element 58 = .ok (.goto 4, 3) := by decide +kernel
theorem dX10_element_61 : decode cX10_element 61 = .ok (.iconst 2, 1) := by decide +kernel
theorem dX10_element_62 : decode cX10_element 62 = .ok (.putfield 79, 3) := by decide +kernel
theorem dX10_element_65 : decode cX10_element 65 = .ok (.iload_n 3, 1) := by decide +kernel
theorem dX10_element_66 : decode cX10_element 66 = .ok (.ifCond .eq 17, 3) := by decide +kernel
theorem dX10_element_69 : decode cX10_element 69 = .ok (.aload_n 0, 1) := by decide +kernel
theorem dX10_element_70 : decode cX10_element 70 = .ok (.getfield 73, 3) := by decide +kernel
theorem dX10_element_73 : decode cX10_element 73 = .ok (.bipush 60, 2) := by decide +kernel
theorem dX10_element_75 : decode cX10_element 75 = .ok (.iload_n 1, 1) := by decide +kernel
theorem dX10_element_76 : decode cX10_element 76 = .ok (.imul, 1) := by decide +kernel
theorem dX10_element_77 : decode cX10_element 77 = .ok (.iload_n 2, 1) := by decide +kernel
theorem dX10_element_78 : decode cX10_element 78 = .ok (.iadd, 1) := by decide +kernel
theorem dX10_element_79 : decode cX10_element 79 = .ok (.laload, 1) := by decide +kernel
theorem dX10_element_80 : decode cX10_element 80 = .ok (.goto 4, 3) := by decide +kernel
theorem dX10_element_83 : decode cX10_element 83 = .ok (.lconst 0, 1) := by decide +kernel
theorem dX10_element_84 : decode cX10_element 84 = .ok (.lreturn, 1) := by decide +kernel
theorem dX10_hasPlaces_0 : decode cX10_hasPlaces 0 = .ok (.iload_n 3, 1) := by decide +kernel
theorem dX10_hasPlaces_1 : decode cX10_hasPlaces 1 = .ok (.ifCond .lt 33, 3) := by decide +kernel
theorem dX10_hasPlaces_4 : decode cX10_hasPlaces 4 = .ok (.iload_n 2, 1) := by decide +kernel
theorem dX10_hasPlaces_5 : decode cX10_hasPlaces 5 = .ok (.ifCond .lt 29, 3) := by decide +kernel
theorem dX10_hasPlaces_8 : decode cX10_hasPlaces 8 = .ok (.iload_n 2, 1) := by decide +kernel
theorem dX10_hasPlaces_9 : decode cX10_hasPlaces 9 = .ok (.aload_n 0, 1) := by decide +kernel
theorem dX10_hasPlaces_10 : decode cX10_hasPlaces 10 = .ok (.getfield 64, 3) := by decide +kernel
theorem dX10_hasPlaces_13 : decode cX10_hasPlaces 13 = .ok (.iload_n 1, 1) := by decide +kernel
theorem dX10_hasPlaces_14 : decode cX10_hasPlaces 14 = .ok (.iaload, 1) := by decide +kernel
theorem dX10_hasPlaces_15 : decode cX10_hasPlaces 15 = .ok (.if_icmp .gt 19, 3) := by decide +kernel
theorem dX10_hasPlaces_18 : decode cX10_hasPlaces 18 = .ok (.iload_n 3, 1) := by decide +kernel
theorem dX10_hasPlaces_19 : decode cX10_hasPlaces 19 = .ok (.aload_n 0, 1) := by decide +kernel
theorem dX10_hasPlaces_20 : decode cX10_hasPlaces 20 = .ok (.getfield 64, 3) := by decide +kernel
theorem dX10_hasPlaces_23 : decode cX10_hasPlaces 23 = .ok (.iload_n 1, 1) := by decide +kernel
theorem dX10_hasPlaces_24 : decode cX10_hasPlaces 24 = .ok (.iaload, 1) := by decide +kernel
theorem dX10_hasPlaces_25 : decode cX10_hasPlaces 25 = .ok (.iload_n 2, 1) := by decide +kernel
theorem dX10_hasPlaces_26 : decode cX10_hasPlaces 26 = .ok (.isub, 1) := by decide +kernel
theorem dX10_hasPlaces_27 : decode cX10_hasPlaces 27 = .ok (.if_icmp .gt 7, 3) := by decide +kernel
theorem dX10_hasPlaces_30 : decode cX10_hasPlaces 30 = .ok (.iconst 1, 1) := by decide +kernel
theorem dX10_hasPlaces_31 : decode cX10_hasPlaces 31 = .ok (.goto 4, 3) := by decide +kernel
theorem dX10_hasPlaces_34 : decode cX10_hasPlaces 34 = .ok (.iconst 0, 1) := by decide +kernel
theorem dX10_hasPlaces_35 : decode cX10_hasPlaces 35 = .ok (.ireturn, 1) := by decide +kernel
set_option maxRecDepth 20000 in
theorem ggX10_copy_X10_isShelf : GoodIn wsX10_copy wsX10_isShelf := goodIn_r _ [8] (by decide +kernel) (by decide +kernel)
set_option maxRecDepth 20000 in
theorem gX10_copy_X10_isShelf : GoodIn wsX10_copy (va_wsS RX10 259 yX10_isShelf wsX10_isShelf) := goodIn_app (goodIn_of _ (by decide +kernel)) ggX10_copy_X10_isShelf
set_option maxRecDepth 20000 in
theorem ggX10_copy_X10_hasPlaces : GoodIn wsX10_copy wsX10_hasPlaces := goodIn_r _ [12, 13, 14, 15, 16, 17, 18, 19, 20, 21, 22, 23, 24, 25, 26, 27, 28, 29, 30, 31, 32, 33, 34, 35, 36, 37, 38, 39, 40, 41, 42, 43, 44, 45, 46, 47, 48] (by decide +kernel) (by decide +kernel)
set_option maxRecDepth 20000 in
theorem gX10_copy_X10_hasPlaces : GoodIn wsX10_copy (wsV RX10 267 RX10 yX10_hasPlaces wsX10_hasPlaces) := goodIn_app (goodIn_of _ (by decide +kernel)) ggX10_copy_X10_hasPlaces
theorem dX10_copy_0 : decode cX10_copy 0 = .ok (.aload_n 0, 1) := by decide +kernel
theorem dX10_copy_1 : decode cX10_copy 1 = .ok (.iconst 0, 1) := by decide +kernel
theorem dX10_copy_2 : decode cX10_copy 2 = .ok (.putfield 79, 3) := by decide +kernel
theorem dX10_copy_5 : decode cX10_copy 5 = .ok (.iload_n 1, 1) := by decide +kernel
theorem dX10_copy_6 : decode cX10_copy 6 = .ok (.invokestatic 259, 3) := by decide +kernel
theorem dX10_copy_9 : decode cX10_copy 9 = .ok (.ifCond .eq 10, 3) := by decide +kernel
theorem dX10_copy_12 : decode cX10_copy 12 = .ok (.iload_n 3, 1) := by decide +kernel
theorem dX10_copy_13 : decode cX10_copy 13 = .ok (.invokestatic 259, 3) := by decide +kernel
theorem dX10_copy_16 : decode cX10_copy 16 = .ok (.ifCond .ne 5, 3) := by decide +kernel
theorem dX10_copy_19 : decode cX10_copy 19 = .ok (.iconst (-1), 1) := by decide +kernel
theorem dX10_copy_20 : decode cX10_copy 20 = .ok (.ireturn, 1) := by decide +kernel
theorem dX10_copy_21 : decode cX10_copy 21 = .ok (.aload_n 0, 1) := by decide +kernel
theorem dX10_copy_22 : decode cX10_copy 22 = .ok (.getfield 61, 3) := by decide +kernel
theorem dX10_copy_25 : decode cX10_copy 25 = .ok (.iload_n 1, 1) := by decide +kernel
theorem dX10_copy_26 : decode cX10_copy 26 = .ok (.iaload, 1) := by decide +kernel
theorem dX10_copy_27 : decode cX10_copy 27 = .ok (.ifCond .eq 12, 3) := by decide +kernel
theorem dX10_copy_30 : decode cX10_copy 30 = .ok (.aload_n 0, 1) := by decide +kernel
theorem dX10_copy_31 : decode cX10_copy 31 = .ok (.getfield 61, 3) := by decide +kernel
theorem dX10_copy_34 : decode cX10_copy 34 = .ok (.iload_n 3, 1) := by decide +kernel
theorem dX10_copy_35 : decode cX10_copy 35 = .ok (.iaload, 1) := by decide +kernel
theorem dX10_copy_36 : decode cX10_copy 36 = .ok (.ifCond .ne 6, 3) := by decide +kernel
theorem dX10_copy_39 : decode cX10_copy 39 = .ok (.bipush (-11), 2) := by decide +kernel
theorem dX10_copy_41 : decode cX10_copy 41 = .ok (.ireturn, 1) := by decide +kernel
theorem dX10_copy_42 : decode cX10_copy 42 = .ok (.aload_n 0, 1) := by decide +kernel
theorem dX10_copy_43 : decode cX10_copy 43 = .ok (.getfield 61, 3) := by decide +kernel
theorem dX10_copy_46 : decode cX10_copy 46 = .ok (.iload_n 1, 1) := by decide +kernel
theorem dX10_copy_47 : decode cX10_copy 47 = .ok (.iaload, 1) := by decide +kernel
theorem dX10_copy_48 : decode cX10_copy 48 = .ok (.iconst 3, 1) := by decide +kernel
theorem dX10_copy_49 : decode cX10_copy 49 = .ok (.if_icmp .lt 18, 3) := by decide +kernel
theorem dX10_copy_52 : decode cX10_copy 52 = .ok (.aload_n 0, 1) := by decide +kernel
theorem dX10_copy_53 : decode cX10_copy 53 = .ok (.getfield 61, 3) := by decide +kernel
theorem dX10_copy_56 : decode cX10_copy 56 = .ok (.iload_n 1, 1) := by decide +kernel
theorem dX10_copy_57 : decode cX10_copy 57 = .ok (.iaload, 1) := by decide +kernel
theorem dX10_copy_58 : decode cX10_copy 58 = .ok (.aload_n 0, 1) := by decide +kernel
theorem dX10_copy_59 : decode cX10_copy 59 = .ok (.getfield 61, 3) := by decide +kernel
theorem dX10_copy_62 : decode cX10_copy 62 = .ok (.iload_n 3, 1) := by decide +kernel
theorem dX10_copy_63 : decode cX10_copy 63 = .ok (.iaload, 1) := by decide +kernel
theorem dX10_copy_64 : decode cX10_copy 64 = .ok (.if_icmp .eq 6, 3) := by decide +kernel
theorem dX10_copy_67 : decode cX10_copy 67 = .ok (.bipush (-12), 2) := by decide +kernel
theorem dX10_copy_69 : decode cX10_copy 69 = .ok (.ireturn, 1) := by decide +kernel
theorem dX10_copy_70 : decode cX10_copy 70 = .ok (.aload_n 0, 1) := by decide +kernel
theorem dX10_copy_71 : decode cX10_copy 71 = .ok (.iload_n 1, 1) := by decide +kernel
theorem dX10_copy_72 : decode cX10_copy 72 = .ok (.iload_n 2, 1) := by decide +kernel
theorem dX10_copy_73 : decode cX10_copy 73 = .ok (.iload 5, 2) := by decide +kernel
theorem dX10_copy_75 : decode cX10_copy 75 = .ok (.invokevirtual 267, 3) := by decide +kernel
theorem dX10_copy_78 : decode cX10_copy 78 = .ok (.ifCond .eq 15, 3) := by decide +kernel
theorem dX10_copy_81 : decode cX10_copy 81 = .ok (.aload_n 0, 1) := by decide +kernel
theorem dX10_copy_82 : decode cX10_copy 82 = .ok (.iload_n 3, 1) := by decide +kernel
theorem dX10_copy_83 : decode cX10_copy 83 = .ok (.iload 4, 2) := by decide +kernel
theorem dX10_copy_85 : decode cX10_copy 85 = .ok (.iload 5, 2) := by decide +kernel
theorem dX10_copy_87 : decode cX10_copy 87 = .ok (.invokevirtual 267, 3) := by decide +kernel
theorem dX10_copy_90 : decode cX10_copy 90 = .ok (.ifCond .ne 6, 3) := by decide +kernel
theorem dX10_copy_93 : decode cX10_copy 93 = .ok (.bipush (-13), 2) := by decide +kernel
theorem dX10_copy_95 : decode cX10_copy 95 = .ok (.ireturn, 1) := by decide +kernel
theorem dX10_copy_96 : decode cX10_copy 96 = .ok (.iconst 0, 1) := by decide +kernel
theorem dX10_copy_97 : decode cX10_copy 97 = .ok (.istore 6, 2) := by decide +kernel
theorem dX10_copy_99 : decode cX10_copy 99 = .ok (.iload 6, 2) := by decide +kernel
theorem dX10_copy_101 : decode cX10_copy 101 = .ok (.iload 5, 2) := by decide +kernel
theorem dX10_copy_103 : decode cX10_copy 103 = .ok (.if_icmp .ge 30, 3) := by decide +kernel
theorem dX10_copy_106 : decode cX10_copy 106 = .ok (.aload_n 0, 1) := by decide +kernel
theorem dX10_copy_107 : decode cX10_copy 107 = .ok (.getfield 76, 3) := by decide +kernel
theorem dX10_copy_110 : decode cX10_copy 110 = .ok (.iload 6, 2) := by decide +kernel
theorem dX10_copy_112 : decode cX10_copy 112 = .ok (.aload_n 0, 1) := by decide +kernel
theorem dX10_copy_113 : decode cX10_copy 113 = .ok (.getfield 73, 3) := by decide +kernel
theorem dX10_copy_116 : decode cX10_copy 116 = .ok (.bipush 60, 2) := by decide +kernel
theorem dX10_copy_118 : decode cX10_copy 118 = .ok (.iload_n 1, 1) := by decide +kernel
theorem dX10_copy_119 : decode cX10_copy 119 = .ok (.imul, 1) := by decide +kernel
theorem dX10_copy_120 : decode cX10_copy 120 = .ok (.iload_n 2, 1) := by decide +kernel
theorem dX10_copy_121 : decode cX10_copy 121 = .ok (.iadd, 1) := by decide +kernel

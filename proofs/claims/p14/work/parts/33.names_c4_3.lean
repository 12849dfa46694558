theorem dX9_copy_34 : decode cX9_copy 34 = .ok (.bipush (-11), 2) := by decide +kernel
theorem dX9_copy_36 : decode cX9_copy 36 = .ok (.ireturn, 1) := by decide +kernel
theorem dX9_copy_37 : decode cX9_copy 37 = .ok (.aload_n 0, 1) := by decide +kernel
theorem dX9_copy_38 : decode cX9_copy 38 = .ok (.getfield 27, 3) := by decide +kernel
theorem dX9_copy_41 : decode cX9_copy 41 = .ok (.iload_n 1, 1) := by decide +kernel
theorem dX9_copy_42 : decode cX9_copy 42 = .ok (.aaload, 1) := by decide +kernel
theorem dX9_copy_43 : decode cX9_copy 43 = .ok (.astore 8, 2) := by decide +kernel
theorem dX9_copy_45 : decode cX9_copy 45 = .ok (.aload 8, 2) := by decide +kernel
theorem dX9_copy_47 : decode cX9_copy 47 = .ok (.instanceof 245, 3) := by decide +kernel
theorem dX9_copy_50 : decode cX9_copy 50 = .ok (.ifCond .eq 87, 3) := by decide +kernel
theorem dX9_copy_53 : decode cX9_copy 53 = .ok (.aload 8, 2) := by decide +kernel
theorem dX9_copy_55 : decode cX9_copy 55 = .ok (.checkcast 245, 3) := by decide +kernel
theorem dX9_copy_58 : decode cX9_copy 58 = .ok (.astore 6, 2) := by decide +kernel
theorem dX9_copy_60 : decode cX9_copy 60 = .ok (.aload_n 0, 1) := by decide +kernel
theorem dX9_copy_61 : decode cX9_copy 61 = .ok (.getfield 27, 3) := by decide +kernel
theorem dX9_copy_64 : decode cX9_copy 64 = .ok (.iload_n 3, 1) := by decide +kernel
theorem dX9_copy_65 : decode cX9_copy 65 = .ok (.aaload, 1) := by decide +kernel
theorem dX9_copy_66 : decode cX9_copy 66 = .ok (.astore 8, 2) := by decide +kernel
theorem dX9_copy_68 : decode cX9_copy 68 = .ok (.aload 8, 2) := by decide +kernel
theorem dX9_copy_70 : decode cX9_copy 70 = .ok (.instanceof 245, 3) := by decide +kernel
theorem dX9_copy_73 : decode cX9_copy 73 = .ok (.ifCond .eq 64, 3) := by decide +kernel
theorem dX9_copy_76 : decode cX9_copy 76 = .ok (.aload 8, 2) := by decide +kernel
theorem dX9_copy_78 : decode cX9_copy 78 = .ok (.checkcast 245, 3) := by decide +kernel
theorem dX9_copy_81 : decode cX9_copy 81 = .ok (.astore 7, 2) := by decide +kernel
theorem dX9_copy_83 : decode cX9_copy 83 = .ok (.aload 6, 2) := by decide +kernel
theorem dX9_copy_85 : decode cX9_copy 85 = .ok (.getfield 264, 3) := by decide +kernel
theorem dX9_copy_88 : decode cX9_copy 88 = .ok (.aload 7, 2) := by decide +kernel
theorem dX9_copy_90 : decode cX9_copy 90 = .ok (.getfield 264, 3) := by decide +kernel
theorem dX9_copy_93 : decode cX9_copy 93 = .ok (.if_icmp .ne 44, 3) := by decide +kernel
theorem dX9_copy_96 : decode cX9_copy 96 = .ok (.aload 6, 2) := by decide +kernel
theorem dX9_copy_98 : decode cX9_copy 98 = .ok (.iload_n 2, 1) := by decide +kernel
theorem dX9_copy_99 : decode cX9_copy 99 = .ok (.iload 5, 2) := by decide +kernel
theorem dX9_copy_101 : decode cX9_copy 101 = .ok (.invokevirtual 252, 3) := by decide +kernel
theorem dX9_copy_104 : decode cX9_copy 104 = .ok (.ifCond .eq 15, 3) := by decide +kernel
theorem dX9_copy_107 : decode cX9_copy 107 = .ok (.aload 7, 2) := by decide +kernel
theorem dX9_copy_109 : decode cX9_copy 109 = .ok (.iload 4, 2) := by decide +kernel
theorem dX9_copy_111 : decode cX9_copy 111 = .ok (.iload 5, 2) := by decide +kernel
theorem dX9_copy_113 : decode cX9_copy 113 = .ok (.invokevirtual 252, 3) := by decide +kernel
theorem dX9_copy_116 : decode cX9_copy 116 = .ok (.ifCond .ne 6, 3) := by decide +kernel
theorem dX9_copy_119 : decode cX9_copy 119 = .ok (.bipush (-13), 2) := by decide +kernel
theorem dX9_copy_121 : decode cX9_copy 121 = .ok (.ireturn, 1) := by decide +kernel
theorem dX9_copy_122 : decode cX9_copy 122 = .ok (.aload 7, 2) := by decide +kernel
theorem dX9_copy_124 : decode cX9_copy 124 = .ok (.aload 6, 2) := by decide +kernel
theorem dX9_copy_126 : decode cX9_copy 126 = .ok (.iload_n 2, 1) := by decide +kernel
theorem dX9_copy_127 : decode cX9_copy 127 = .ok (.iload 4, 2) := by decide +kernel
theorem dX9_copy_129 : decode cX9_copy 129 = .ok (.iload 5, 2) := by decide +kernel
theorem dX9_copy_131 : decode cX9_copy 131 = .ok (.invokevirtual 268, 3) := by decide +kernel
theorem dX9_copy_134 : decode cX9_copy 134 = .ok (.iload 5, 2) := by decide +kernel
theorem dX9_copy_136 : decode cX9_copy 136 = .ok (.ireturn, 1) := by decide +kernel
theorem dX9_copy_137 : decode cX9_copy 137 = .ok (.bipush (-12), 2) := by decide +kernel
theorem dX9_copy_139 : decode cX9_copy 139 = .ok (.ireturn, 1) := by decide +kernel
set_option maxRecDepth 20000 in
theorem ggX9_layer_X9_isShelf : GoodIn wsX9_layer wsX9_isShelf := goodIn_r _ [10] (by decide +kernel) (by decide +kernel)
def chX9_layer : List (List Cond) := [wsX9_layer_r1, wsX9_layer_r2, wsX90, wsX70]
set_option maxRecDepth 20000 in
theorem chX9_layer_in : ∀ c ∈ chX9_layer, ∀ w ∈ c, w ∈ wsX9_layer := (all_c (P := fun c => ∀ w ∈ c, w ∈ wsX9_layer) (fun w h => List.mem_cons_of_mem _ (List.mem_append_left _ (List.mem_append_left _ (List.mem_append_left _ (h))))) (all_c (P := fun c => ∀ w ∈ c, w ∈ wsX9_layer) (fun w h => List.mem_cons_of_mem _ (List.mem_append_left _ (List.mem_append_left _ (List.mem_append_right _ (h))))) (all_c (P := fun c => ∀ w ∈ c, w ∈ wsX9_layer) (fun w h => List.mem_cons_of_mem _ (List.mem_append_left _ (List.mem_append_right _ (h)))) (all_c (P := fun c => ∀ w ∈ c, w ∈ wsX9_layer) (fun w h => List.mem_cons_of_mem _ (List.mem_append_right _ (h))) (fun _ h => nomatch h)))))
set_option maxRecDepth 20000 in
theorem gX9_layer_X9_isShelf : GoodIn wsX9_layer (va_wsS RX9 238 yX9_isShelf wsX9_isShelf) := goodIn_app (goodIn_c chX9_layer chX9_layer_in _ [(0, 6), (0, 7), (0, 8)] (by rfl) (by decide +kernel)) ggX9_layer_X9_isShelf
set_option maxRecDepth 20000 in
theorem ggX9_layer_X9_layerOf : GoodIn wsX9_layer wsX9_layerOf := goodIn_ca (goodIn_c chX9_layer chX9_layer_in _ [(0, 12), (0, 13), (0, 14), (0, 15), (0, 16), (0, 17), (0, 18), (0, 19), (0, 20), (0, 21), (0, 22), (0, 23), (1, 0), (1, 1), (1, 2), (1, 3), (1, 4), (1, 5)] (by rfl) (by decide +kernel)) (goodIn_sub (fun _ h => List.mem_cons_of_mem _ (List.mem_append_right _ (h))) (by decide +kernel))
set_option maxRecDepth 20000 in
theorem gX9_layer_X9_layerOf : GoodIn wsX9_layer (va_wsS RX9 274 yX9_layerOf wsX9_layerOf) := goodIn_app (goodIn_c chX9_layer chX9_layer_in _ [(0, 10), (0, 11), (0, 8)] (by rfl) (by decide +kernel)) ggX9_layer_X9_layerOf
theorem dX9_layer_0 : decode cX9_layer 0 = .ok (.iload_n 1, 1) := by decide +kernel
theorem dX9_layer_1 : decode cX9_layer 1 = .ok (.invokestatic 238, 3) := by decide +kernel
theorem dX9_layer_4 : decode cX9_layer 4 = .ok (.ifCond .eq 13, 3) := by decide +kernel
theorem dX9_layer_7 : decode cX9_layer 7 = .ok (.iload_n 2, 1) := by decide +kernel
theorem dX9_layer_8 : decode cX9_layer 8 = .ok (.ifCond .lt 9, 3) := by decide +kernel
theorem dX9_layer_11 : decode cX9_layer 11 = .ok (.iload_n 2, 1) := by decide +kernel
theorem dX9_layer_12 : decode cX9_layer 12 = .ok (.bipush 9, 2) := by decide +kernel
theorem dX9_layer_14 : decode cX9_layer 14 = .ok (.if_icmp .lt 7, 3) := by decide +kernel
theorem dX9_layer_17 : decode cX9_layer 17 = .ok (.ldc2_w 143, 3) := by decide +kernel
theorem dX9_layer_20 : decode cX9_layer 20 = .ok (.lreturn, 1) := by decide +kernel
theorem dX9_layer_21 : decode cX9_layer 21 = .ok (.aload_n 0, 1) := by decide +kernel
theorem dX9_layer_22 : decode cX9_layer 22 = .ok (.getfield 27, 3) := by decide +kernel
theorem dX9_layer_25 : decode cX9_layer 25 = .ok (.iload_n 1, 1) := by decide +kernel
theorem dX9_layer_26 : decode cX9_layer 26 = .ok (.aaload, 1) := by decide +kernel
theorem dX9_layer_27 : decode cX9_layer 27 = .ok (.ifnonnull 7, 3) := by decide +kernel
theorem dX9_layer_30 : decode cX9_layer 30 = .ok (.ldc2_w 272, 3) := by decide +kernel
theorem dX9_layer_33 : decode cX9_layer 33 = .ok (.lreturn, 1) := by decide +kernel
theorem dX9_layer_34 : decode cX9_layer 34 = .ok (.aload_n 0, 1) := by decide +kernel
theorem dX9_layer_35 : decode cX9_layer 35 = .ok (.getfield 27, 3) := by decide +kernel
theorem dX9_layer_38 : decode cX9_layer 38 = .ok (.iload_n 1, 1) := by decide +kernel
theorem dX9_layer_39 : decode cX9_layer 39 = .ok (.aaload, 1) := by decide +kernel
theorem dX9_layer_40 : decode cX9_layer 40 = .ok (.astore 4, 2) := by decide +kernel
theorem dX9_layer_42 : decode cX9_layer 42 = .ok (.aload 4, 2) := by decide +kernel
theorem dX9_layer_44 : decode cX9_layer 44 = .ok (.instanceof 245, 3) := by decide +kernel
theorem dX9_layer_47 : decode cX9_layer 47 = .ok (.ifCond .eq 22, 3) := by decide +kernel
theorem dX9_layer_50 : decode cX9_layer 50 = .ok (.aload 4, 2) := by decide +kernel
theorem dX9_layer_52 : decode cX9_layer 52 = .ok (.checkcast 245, 3) := by decide +kernel
theorem dX9_layer_55 : decode cX9_layer 55 = .ok (.astore_n 3, 1) := by decide +kernel
theorem dX9_layer_56 : decode cX9_layer 56 = .ok (.aload_n 3, 1) := by decide +kernel
theorem dX9_layer_57 : decode cX9_layer 57 = .ok (.getfield 264, 3) := by decide +kernel
theorem dX9_layer_60 : decode cX9_layer 60 = .ok (.ifCond .eq 9, 3) := by decide +kernel
theorem dX9_layer_63 : decode cX9_layer 63 = .ok (.aload_n 3, 1) := by decide +kernel
theorem dX9_layer_64 : decode cX9_layer 64 = .ok (.iload_n 2, 1) := by decide +kernel
theorem dX9_layer_65 : decode cX9_layer 65 = .ok (.invokestatic 274, 3) := by decide +kernel
theorem dX9_layer_68 : decode cX9_layer 68 = .ok (.lreturn, 1) := by decide +kernel
theorem dX9_layer_69 : decode cX9_layer 69 = .ok (.ldc2_w 278, 3) := by decide +kernel
theorem dX9_layer_72 : decode cX9_layer 72 = .ok (.lreturn, 1) := by decide +kernel
theorem dX9_isWay_0 : decode cX9_isWay 0 = .ok (.iload_n 0, 1) := by decide +kernel
theorem dX9_isWay_1 : decode cX9_isWay 1 = .ok (.ifCond .lt 12, 3) := by decide +kernel
theorem dX9_isWay_4 : decode cX9_isWay 4 = .ok (.iload_n 0, 1) := by decide +kernel
theorem dX9_isWay_5 : decode cX9_isWay 5 = .ok (.iconst 4, 1) := by decide +kernel
theorem dX9_isWay_6 : decode cX9_isWay 6 = .ok (.if_icmp .ge 7, 3) := by decide +kernel
theorem dX9_isWay_9 : decode cX9_isWay 9 = .ok (.iconst 1, 1) := by decide +kernel
theorem dX9_isWay_10 : decode cX9_isWay 10 = .ok (.goto 4, 3) := by decide +kernel
theorem dX9_isWay_13 : decode cX9_isWay 13 = .ok (.iconst 0, 1) := by decide +kernel
theorem dX9_isWay_14 : decode cX9_isWay 14 = .ok (.ireturn, 1) := by decide +kernel
theorem dX9_isShelf_0 : decode cX9_isShelf 0 = .ok (.iload_n 0, 1) := by decide +kernel
theorem dX9_isShelf_1 : decode cX9_isShelf 1 = .ok (.ifCond .lt 13, 3) := by decide +kernel
theorem dX9_isShelf_4 : decode cX9_isShelf 4 = .ok (.iload_n 0, 1) := by decide +kernel
theorem dX9_isShelf_5 : decode cX9_isShelf 5 = .ok (.bipush 8, 2) := by decide +kernel
theorem dX9_isShelf_7 : decode cX9_isShelf 7 = .ok (.if_icmp .ge 7, 3) := by decide +kernel
theorem dX9_isShelf_10 : decode cX9_isShelf 10 = .ok (.iconst 1, 1) := by decide +kernel
theorem dX9_isShelf_11 : decode cX9_isShelf 11 = .ok (.goto 4, 3) := by decide +kernel
theorem dX9_isShelf_14 : decode cX9_isShelf 14 = .ok (.iconst 0, 1) := by decide +kernel
theorem dX9_isShelf_15 : decode cX9_isShelf 15 = .ok (.ireturn, 1) := by decide +kernel
theorem dX9_isGhostSet_0 : decode cX9_isGhostSet 0 = .ok (.iload_n 0, 1) := by decide +kernel
theorem dX9_isGhostSet_1 : decode cX9_isGhostSet 1 = .ok (.ifCond .le 13, 3) := by decide +kernel
theorem dX9_isGhostSet_4 : decode cX9_isGhostSet 4 = .ok (.iload_n 0, 1) := by decide +kernel
theorem dX9_isGhostSet_5 : decode cX9_isGhostSet 5 = .ok (.bipush 16, 2) := by decide +kernel
theorem dX9_isGhostSet_7 : decode cX9_isGhostSet 7 = .ok (.if_icmp .ge 7, 3) := by decide +kernel
theorem dX9_isGhostSet_10 : decode cX9_isGhostSet 10 = .ok (.iconst 1, 1) := by decide +kernel
theorem dX9_isGhostSet_11 : decode cX9_isGhostSet 11 = .ok (.goto 4, 3) := by decide +kernel
theorem dX9_isGhostSet_14 : decode cX9_isGhostSet 14 = .ok (.iconst 0, 1) := by decide +kernel
theorem dX9_isGhostSet_15 : decode cX9_isGhostSet 15 = .ok (.ireturn, 1) := by decide +kernel
def chX9_boardOf : List (List Cond) := [wsX9_boardOf_r1, wsX9_boardOf_r2, wsX90, wsX00]
set_option maxRecDepth 20000 in
theorem chX9_boardOf_in : ∀ c ∈ chX9_boardOf, ∀ w ∈ c, w ∈ wsX9_boardOf := (all_c (P := fun c => ∀ w ∈ c, w ∈ wsX9_boardOf) (fun w h => List.mem_cons_of_mem _ (List.mem_append_left _ (List.mem_append_left _ (List.mem_append_left _ (h))))) (all_c (P := fun c => ∀ w ∈ c, w ∈ wsX9_boardOf) (fun w h => List.mem_cons_of_mem _ (List.mem_append_left _ (List.mem_append_left _ (List.mem_append_right _ (h))))) (all_c (P := fun c => ∀ w ∈ c, w ∈ wsX9_boardOf) (fun w h => List.mem_cons_of_mem _ (List.mem_append_left _ (List.mem_append_right _ (h)))) (all_c (P := fun c => ∀ w ∈ c, w ∈ wsX9_boardOf) (fun w h => List.mem_cons_of_mem _ (List.mem_append_right _ (h))) (fun _ h => nomatch h)))))
set_option maxRecDepth 20000 in
theorem ggX9_boardOf_X0_init : GoodIn wsX9_boardOf wsX0_init := goodIn_ca (goodIn_c chX9_boardOf chX9_boardOf_in _ [(0, 6), (0, 7), (0, 8), (0, 9), (0, 10), (0, 11), (0, 12), (0, 13), (0, 14), (0, 15), (0, 16), (0, 17), (0, 18), (0, 19), (0, 20), (0, 3), (0, 21), (0, 22), (0, 23), (1, 0), (1, 1), (1, 2), (1, 3), (1, 4), (1, 5), (1, 6), (1, 7), (1, 8), (1, 9), (1, 10), (1, 11), (1, 12), (1, 13), (1, 14), (1, 15), (1, 16), (1, 17)] (by rfl) (by decide +kernel)) (goodIn_sub (fun _ h => List.mem_cons_of_mem _ (List.mem_append_right _ (h))) (by decide +kernel))
set_option maxRecDepth 20000 in
theorem gX9_boardOf_X0_init : GoodIn wsX9_boardOf (wsX0_init) := ggX9_boardOf_X0_init
theorem dX9_boardOf_0 : decode cX9_boardOf 0 = .ok (.iload_n 1, 1) := by decide +kernel
theorem dX9_boardOf_1 : decode cX9_boardOf 1 = .ok (.iconst 1, 1) := by decide +kernel
theorem dX9_boardOf_2 : decode cX9_boardOf 2 = .ok (.if_icmp .lt 20, 3) := by decide +kernel
theorem dX9_boardOf_5 : decode cX9_boardOf 5 = .ok (.iload_n 1, 1) := by decide +kernel
theorem dX9_boardOf_6 : decode cX9_boardOf 6 = .ok (.bipush 6, 2) := by decide +kernel
theorem dX9_boardOf_8 : decode cX9_boardOf 8 = .ok (.if_icmp .gt 14, 3) := by decide +kernel
theorem dX9_boardOf_11 : decode cX9_boardOf 11 = .ok (.iload_n 2, 1) := by decide +kernel
theorem dX9_boardOf_12 : decode cX9_boardOf 12 = .ok (.iconst 1, 1) := by decide +kernel
theorem dX9_boardOf_13 : decode cX9_boardOf 13 = .ok (.if_icmp .lt 9, 3) := by decide +kernel
theorem dX9_boardOf_16 : decode cX9_boardOf 16 = .ok (.iload_n 2, 1) := by decide +kernel
theorem dX9_boardOf_17 : decode cX9_boardOf 17 = .ok (.bipush 6, 2) := by decide +kernel
theorem dX9_boardOf_19 : decode cX9_boardOf 19 = .ok (.if_icmp .le 5, 3) := by decide +kernel
theorem dX9_boardOf_22 : decode cX9_boardOf 22 = .ok (.aconst_null, 1) := by decide +kernel
theorem dX9_boardOf_23 : decode cX9_boardOf 23 = .ok (.areturn, 1) := by decide +kernel
theorem dX9_boardOf_24 : decode cX9_boardOf 24 = .ok (.iload_n 2, 1) := by decide +kernel
theorem dX9_boardOf_25 : decode cX9_boardOf 25 = .ok (.iconst 1, 1) := by decide +kernel
theorem dX9_boardOf_26 : decode cX9_boardOf 26 = .ok (.isub, 1) := by decide +kernel
theorem dX9_boardOf_27 : decode cX9_boardOf 27 = .ok (.bipush 6, 2) := by decide +kernel
theorem dX9_boardOf_29 : decode cX9_boardOf 29 = .ok (.imul, 1) := by decide +kernel
theorem dX9_boardOf_30 : decode cX9_boardOf 30 = .ok (.iload_n 1, 1) := by decide +kernel
theorem dX9_boardOf_31 : decode cX9_boardOf 31 = .ok (.iadd, 1) := by decide +kernel
theorem dX9_boardOf_32 : decode cX9_boardOf 32 = .ok (.iconst 1, 1) := by decide +kernel
theorem dX9_boardOf_33 : decode cX9_boardOf 33 = .ok (.isub, 1) := by decide +kernel
theorem dX9_boardOf_34 : decode cX9_boardOf 34 = .ok (.istore_n 3, 1) := by decide +kernel
theorem dX9_boardOf_35 : decode cX9_boardOf 35 = .ok (.aload_n 0, 1) := by decide +kernel
theorem dX9_boardOf_36 : decode cX9_boardOf 36 = .ok (.getfield 9, 3) := by decide +kernel
theorem dX9_boardOf_39 : decode cX9_boardOf 39 = .ok (.iload_n 3, 1) := by decide +kernel
theorem dX9_boardOf_40 : decode cX9_boardOf 40 = .ok (.aaload, 1) := by decide +kernel
theorem dX9_boardOf_41 : decode cX9_boardOf 41 = .ok (.ifnonnull 18, 3) := by decide +kernel
theorem dX9_boardOf_44 : decode cX9_boardOf 44 = .ok (.aload_n 0, 1) := by decide +kernel
theorem dX9_boardOf_45 : decode cX9_boardOf 45 = .ok (.getfield 9, 3) := by decide +kernel
theorem dX9_boardOf_48 : decode cX9_boardOf 48 = .ok (.iload_n 3, 1) := by decide +kernel
theorem dX9_boardOf_49 : decode cX9_boardOf 49 = .ok (.new 7, 3) := by decide +kernel
theorem dX9_boardOf_52 : decode cX9_boardOf 52 = .ok (.dup, 1) := by decide +kernel
theorem dX9_boardOf_53 : decode cX9_boardOf 53 = .ok (.iload_n 1, 1) := by decide +kernel
theorem dX9_boardOf_54 : decode cX9_boardOf 54 = .ok (.iload_n 2, 1) := by decide +kernel
theorem dX9_boardOf_55 : decode cX9_boardOf 55 = .ok (.invokespecial 290, 3) := by decide +kernel
theorem dX9_boardOf_58 : decode cX9_boardOf 58 = .ok (.aastore, 1) := by decide +kernel
theorem dX9_boardOf_59 : decode cX9_boardOf 59 = .ok (.aload_n 0, 1) := by decide +kernel
theorem dX9_boardOf_60 : decode cX9_boardOf 60 = .ok (.getfield 9, 3) := by decide +kernel
theorem dX9_boardOf_63 : decode cX9_boardOf 63 = .ok (.iload_n 3, 1) := by decide +kernel
theorem dX9_boardOf_64 : decode cX9_boardOf 64 = .ok (.aaload, 1) := by decide +kernel
theorem dX9_boardOf_65 : decode cX9_boardOf 65 = .ok (.areturn, 1) := by decide +kernel
theorem dX9_jobOf_0 : decode cX9_jobOf 0 = .ok (.iload_n 1, 1) := by decide +kernel
theorem dX9_jobOf_1 : decode cX9_jobOf 1 = .ok (.ifCond .lt 26, 3) := by decide +kernel
theorem dX9_jobOf_4 : decode cX9_jobOf 4 = .ok (.iload_n 1, 1) := by decide +kernel
theorem dX9_jobOf_5 : decode cX9_jobOf 5 = .ok (.aload_n 0, 1) := by decide +kernel
theorem dX9_jobOf_6 : decode cX9_jobOf 6 = .ok (.getfield 21, 3) := by decide +kernel
theorem dX9_jobOf_9 : decode cX9_jobOf 9 = .ok (.if_icmp .ge 18, 3) := by decide +kernel
theorem dX9_jobOf_12 : decode cX9_jobOf 12 = .ok (.iload_n 1, 1) := by decide +kernel
theorem dX9_jobOf_13 : decode cX9_jobOf 13 = .ok (.bipush 8, 2) := by decide +kernel
theorem dX9_jobOf_15 : decode cX9_jobOf 15 = .ok (.if_icmp .ge 12, 3) := by decide +kernel
theorem dX9_jobOf_18 : decode cX9_jobOf 18 = .ok (.aload_n 0, 1) := by decide +kernel
theorem dX9_jobOf_19 : decode cX9_jobOf 19 = .ok (.getfield 17, 3) := by decide +kernel
theorem dX9_jobOf_22 : decode cX9_jobOf 22 = .ok (.iload_n 1, 1) := by decide +kernel
theorem dX9_jobOf_23 : decode cX9_jobOf 23 = .ok (.aaload, 1) := by decide +kernel
theorem dX9_jobOf_24 : decode cX9_jobOf 24 = .ok (.goto 4, 3) := by decide +kernel
theorem dX9_jobOf_27 : decode cX9_jobOf 27 = .ok (.aconst_null, 1) := by decide +kernel
theorem dX9_jobOf_28 : decode cX9_jobOf 28 = .ok (.areturn, 1) := by decide +kernel
def chX9_newJob : List (List Cond) := [wsX9_newJob_r1, wsX9_newJob_r2, wsX40, wsX10, wsX50, wsX30, wsX00]
set_option maxRecDepth 20000 in
theorem chX9_newJob_in : ∀ c ∈ chX9_newJob, ∀ w ∈ c, w ∈ wsX9_newJob := (all_c (P := fun c => ∀ w ∈ c, w ∈ wsX9_newJob) (fun w h => List.mem_cons_of_mem _ (List.mem_append_left _ (List.mem_append_left _ (List.mem_append_left _ (List.mem_append_left _ (List.mem_append_left _ (List.mem_append_left _ (h)))))))) (all_c (P := fun c => ∀ w ∈ c, w ∈ wsX9_newJob) (fun w h => List.mem_cons_of_mem _ (List.mem_append_left _ (List.mem_append_left _ (List.mem_append_left _ (List.mem_append_left _ (List.mem_append_left _ (List.mem_append_right _ (h)))))))) (all_c (P := fun c => ∀ w ∈ c, w ∈ wsX9_newJob) (fun w h => List.mem_cons_of_mem _ (List.mem_append_left _ (List.mem_append_left _ (List.mem_append_left _ (List.mem_append_left _ (List.mem_append_right _ (h))))))) (all_c (P := fun c => ∀ w ∈ c, w ∈ wsX9_newJob) (fun w h => List.mem_cons_of_mem _ (List.mem_append_left _ (List.mem_append_left _ (List.mem_append_left _ (List.mem_append_right _ (h)))))) (all_c (P := fun c => ∀ w ∈ c, w ∈ wsX9_newJob) (fun w h => List.mem_cons_of_mem _ (List.mem_append_left _ (List.mem_append_left _ (List.mem_append_right _ (h))))) (all_c (P := fun c => ∀ w ∈ c, w ∈ wsX9_newJob) (fun w h => List.mem_cons_of_mem _ (List.mem_append_left _ (List.mem_append_right _ (h)))) (all_c (P := fun c => ∀ w ∈ c, w ∈ wsX9_newJob) (fun w h => List.mem_cons_of_mem _ (List.mem_append_right _ (h))) (fun _ h => nomatch h))))))))
set_option maxRecDepth 20000 in
theorem ggX9_newJob_X4_init : GoodIn wsX9_newJob wsX4_init := goodIn_ca (goodIn_ca (goodIn_ca (goodIn_ca (goodIn_c chX9_newJob chX9_newJob_in _ [(0, 14), (0, 15), (0, 16), (0, 11), (0, 17), (0, 18), (0, 19), (0, 20), (0, 21), (0, 22), (0, 23), (1, 0), (1, 1), (1, 2), (1, 3), (1, 4), (1, 5)] (by rfl) (by decide +kernel)) (goodIn_sub (fun _ h => List.mem_cons_of_mem _ (List.mem_append_left _ (List.mem_append_left _ (List.mem_append_left _ (List.mem_append_right _ (h)))))) (by decide +kernel))) (goodIn_sub (fun _ h => List.mem_cons_of_mem _ (List.mem_append_left _ (List.mem_append_right _ (h)))) (by decide +kernel))) (goodIn_sub (fun _ h => List.mem_cons_of_mem _ (List.mem_append_left _ (List.mem_append_left _ (List.mem_append_left _ (List.mem_append_left _ (List.mem_append_right _ (h))))))) (by decide +kernel))) (goodIn_sub (fun _ h => List.mem_cons_of_mem _ (List.mem_append_left _ (List.mem_append_left _ (List.mem_append_right _ (h))))) (by decide +kernel))
set_option maxRecDepth 20000 in
theorem gX9_newJob_X4_init : GoodIn wsX9_newJob (wsX4_init) := ggX9_newJob_X4_init
set_option maxRecDepth 20000 in
theorem ggX9_newJob_X1_init : GoodIn wsX9_newJob wsX1_init := goodIn_ca (goodIn_ca (goodIn_ca (goodIn_ca (goodIn_c chX9_newJob chX9_newJob_in _ [(1, 8), (1, 9), (0, 13), (0, 2), (0, 14), (0, 15), (0, 16), (0, 11), (0, 17), (0, 18), (0, 19), (0, 20), (0, 21), (0, 22), (0, 23), (1, 0), (1, 1), (1, 2), (1, 3), (1, 4), (1, 5)] (by rfl) (by decide +kernel)) (goodIn_sub (fun _ h => List.mem_cons_of_mem _ (List.mem_append_left _ (List.mem_append_left _ (List.mem_append_left _ (List.mem_append_right _ (h)))))) (by decide +kernel))) (goodIn_sub (fun _ h => List.mem_cons_of_mem _ (List.mem_append_left _ (List.mem_append_right _ (h)))) (by decide +kernel))) (goodIn_sub (fun _ h => List.mem_cons_of_mem _ (List.mem_append_left _ (List.mem_append_left _ (List.mem_append_left _ (List.mem_append_left _ (List.mem_append_right _ (h))))))) (by decide +kernel))) (goodIn_sub (fun _ h => List.mem_cons_of_mem _ (List.mem_append_left _ (List.mem_append_left _ (List.mem_append_right _ (h))))) (by decide +kernel))
set_option maxRecDepth 20000 in
theorem gX9_newJob_X1_init : GoodIn wsX9_newJob (wsX1_init) := ggX9_newJob_X1_init
set_option maxRecDepth 20000 in
theorem ggX9_newJob_X5_init : GoodIn wsX9_newJob wsX5_init := goodIn_ca (goodIn_ca (goodIn_ca (goodIn_ca (goodIn_ca (goodIn_c chX9_newJob chX9_newJob_in _ [(1, 12), (1, 13), (0, 18), (1, 14), (1, 15), (0, 16), (0, 11), (0, 17), (0, 19), (0, 20), (0, 21), (0, 22), (0, 23), (1, 0), (1, 1), (1, 2), (1, 3), (1, 4), (1, 5)] (by rfl) (by decide +kernel)) (goodIn_sub (fun _ h => List.mem_cons_of_mem _ (List.mem_append_right _ (h))) (by decide +kernel))) (goodIn_sub (fun _ h => List.mem_cons_of_mem _ (List.mem_append_left _ (List.mem_append_left _ (List.mem_append_right _ (h))))) (by decide +kernel))) (goodIn_sub (fun _ h => List.mem_cons_of_mem _ (List.mem_append_left _ (List.mem_append_left _ (List.mem_append_left _ (List.mem_append_right _ (h)))))) (by decide +kernel))) (goodIn_sub (fun _ h => List.mem_cons_of_mem _ (List.mem_append_left _ (List.mem_append_right _ (h)))) (by decide +kernel))) (goodIn_sub (fun _ h => List.mem_cons_of_mem _ (List.mem_append_left _ (List.mem_append_left _ (List.mem_append_left _ (List.mem_append_left _ (List.mem_append_right _ (h))))))) (by decide +kernel))
set_option maxRecDepth 20000 in
theorem gX9_newJob_X5_init : GoodIn wsX9_newJob (wsX5_init) := ggX9_newJob_X5_init
set_option maxRecDepth 20000 in
theorem ggX9_newJob_X3_init : GoodIn wsX9_newJob wsX3_init := goodIn_ca (goodIn_ca (goodIn_ca (goodIn_ca (goodIn_c chX9_newJob chX9_newJob_in _ [(0, 17), (0, 18), (0, 19), (0, 20), (0, 21), (0, 22), (0, 23), (1, 0), (1, 1), (1, 2), (1, 3), (1, 4), (1, 5)] (by rfl) (by decide +kernel)) (goodIn_sub (fun _ h => List.mem_cons_of_mem _ (List.mem_append_left _ (List.mem_append_left _ (List.mem_append_left _ (List.mem_append_right _ (h)))))) (by decide +kernel))) (goodIn_sub (fun _ h => List.mem_cons_of_mem _ (List.mem_append_left _ (List.mem_append_right _ (h)))) (by decide +kernel))) (goodIn_sub (fun _ h => List.mem_cons_of_mem _ (List.mem_append_left _ (List.mem_append_left _ (List.mem_append_left _ (List.mem_append_left _ (List.mem_append_right _ (h))))))) (by decide +kernel))) (goodIn_sub (fun _ h => List.mem_cons_of_mem _ (List.mem_append_left _ (List.mem_append_left _ (List.mem_append_right _ (h))))) (by decide +kernel))
set_option maxRecDepth 20000 in
theorem gX9_newJob_X3_init : GoodIn wsX9_newJob (wsX3_init) := ggX9_newJob_X3_init
theorem dX9_newJob_0 : decode cX9_newJob 0 = .ok (.iload_n 0, 1) := by decide +kernel
theorem dX9_newJob_1 : decode cX9_newJob 1 = .ok (.tableswitch 54 1 3 #[27, 36, 45], 27) := by decide +kernel
theorem dX9_newJob_28 : decode cX9_newJob 28 = .ok (.new 292, 3) := by decide +kernel
theorem dX9_newJob_31 : decode cX9_newJob 31 = .ok (.dup, 1) := by decide +kernel
theorem dX9_newJob_32 : decode cX9_newJob 32 = .ok (.aload_n 1, 1) := by decide +kernel
theorem dX9_newJob_33 : decode cX9_newJob 33 = .ok (.invokespecial 294, 3) := by decide +kernel
theorem dX9_newJob_36 : decode cX9_newJob 36 = .ok (.areturn, 1) := by decide +kernel
theorem dX9_newJob_37 : decode cX9_newJob 37 = .ok (.new 297, 3) := by decide +kernel
theorem dX9_newJob_40 : decode cX9_newJob 40 = .ok (.dup, 1) := by decide +kernel
theorem dX9_newJob_41 : decode cX9_newJob 41 = .ok (.aload_n 1, 1) := by decide +kernel
theorem dX9_newJob_42 : decode cX9_newJob 42 = .ok (.invokespecial 299, 3) := by decide +kernel
theorem dX9_newJob_45 : decode cX9_newJob 45 = .ok (.areturn, 1) := by decide +kernel
theorem dX9_newJob_46 : decode cX9_newJob 46 = .ok (.new 112, 3) := by decide +kernel
theorem dX9_newJob_49 : decode cX9_newJob 49 = .ok (.dup, 1) := by decide +kernel
theorem dX9_newJob_50 : decode cX9_newJob 50 = .ok (.aload_n 1, 1) := by decide +kernel
theorem dX9_newJob_51 : decode cX9_newJob 51 = .ok (.invokespecial 300, 3) := by decide +kernel
theorem dX9_newJob_54 : decode cX9_newJob 54 = .ok (.areturn, 1) := by decide +kernel
theorem dX9_newJob_55 : decode cX9_newJob 55 = .ok (.new 15, 3) := by decide +kernel
theorem dX9_newJob_58 : decode cX9_newJob 58 = .ok (.dup, 1) := by decide +kernel
theorem dX9_newJob_59 : decode cX9_newJob 59 = .ok (.aload_n 1, 1) := by decide +kernel
theorem dX9_newJob_60 : decode cX9_newJob 60 = .ok (.invokespecial 301, 3) := by decide +kernel
theorem dX9_newJob_63 : decode cX9_newJob 63 = .ok (.areturn, 1) := by decide +kernel
theorem dX9_isOtherThanListed_0 : decode cX9_isOtherThanListed 0 = .ok (.aload_n 0, 1) := by decide +kernel
theorem dX9_isOtherThanListed_1 : decode cX9_isOtherThanListed 1 = .ok (.getfield 49, 3) := by decide +kernel
theorem dX9_isOtherThanListed_4 : decode cX9_isOtherThanListed 4 = .ok (.ifnull 29, 3) := by decide +kernel
theorem dX9_isOtherThanListed_7 : decode cX9_isOtherThanListed 7 = .ok (.aload_n 0, 1) := by decide +kernel
theorem dX9_isOtherThanListed_8 : decode cX9_isOtherThanListed 8 = .ok (.getfield 49, 3) := by decide +kernel
theorem dX9_isOtherThanListed_11 : decode cX9_isOtherThanListed 11 = .ok (.getfield 156, 3) := by decide +kernel
theorem dX9_isOtherThanListed_14 : decode cX9_isOtherThanListed 14 = .ok (.iload_n 1, 1) := by decide +kernel
theorem dX9_isOtherThanListed_15 : decode cX9_isOtherThanListed 15 = .ok (.if_icmp .ne 14, 3) := by decide +kernel
theorem dX9_isOtherThanListed_18 : decode cX9_isOtherThanListed 18 = .ok (.aload_n 0, 1) := by decide +kernel
theorem dX9_isOtherThanListed_19 : decode cX9_isOtherThanListed 19 = .ok (.getfield 49, 3) := by decide +kernel
theorem dX9_isOtherThanListed_22 : decode cX9_isOtherThanListed 22 = .ok (.getfield 306, 3) := by decide +kernel
theorem dX9_isOtherThanListed_25 : decode cX9_isOtherThanListed 25 = .ok (.iload_n 2, 1) := by decide +kernel
theorem dX9_isOtherThanListed_26 : decode cX9_isOtherThanListed 26 = .ok (.if_icmp .eq 7, 3) := by decide +kernel
theorem dX9_isOtherThanListed_29 : decode cX9_isOtherThanListed 29 = .ok (.iconst 1, 1) := by decide +kernel
theorem dX9_isOtherThanListed_30 : decode cX9_isOtherThanListed 30 = .ok (.goto 4, 3) := by decide +kernel
theorem dX9_isOtherThanListed_33 : decode cX9_isOtherThanListed 33 = .ok (.iconst 0, 1) := by decide +kernel
theorem dX9_isOtherThanListed_34 : decode cX9_isOtherThanListed 34 = .ok (.ireturn, 1) := by decide +kernel
theorem dX9_isListed_0 : decode cX9_isListed 0 = .ok (.iconst 0, 1) := by decide +kernel
theorem dX9_isListed_1 : decode cX9_isListed 1 = .ok (.istore_n 3, 1) := by decide +kernel
theorem dX9_isListed_2 : decode cX9_isListed 2 = .ok (.iload_n 3, 1) := by decide +kernel
theorem dX9_isListed_3 : decode cX9_isListed 3 = .ok (.aload_n 0, 1) := by decide +kernel
theorem dX9_isListed_4 : decode cX9_isListed 4 = .ok (.getfield 46, 3) := by decide +kernel
theorem dX9_isListed_7 : decode cX9_isListed 7 = .ok (.if_icmp .ge 28, 3) := by decide +kernel
theorem dX9_isListed_10 : decode cX9_isListed 10 = .ok (.iload_n 3, 1) := by decide +kernel
theorem dX9_isListed_11 : decode cX9_isListed 11 = .ok (.bipush 12, 2) := by decide +kernel
theorem dX9_isListed_13 : decode cX9_isListed 13 = .ok (.if_icmp .ge 22, 3) := by decide +kernel
theorem dX9_isListed_16 : decode cX9_isListed 16 = .ok (.aload_n 0, 1) := by decide +kernel
theorem dX9_isListed_17 : decode cX9_isListed 17 = .ok (.getfield 42, 3) := by decide +kernel
theorem dX9_isListed_20 : decode cX9_isListed 20 = .ok (.iload_n 3, 1) := by decide +kernel
theorem dX9_isListed_21 : decode cX9_isListed 21 = .ok (.laload, 1) := by decide +kernel
theorem dX9_isListed_22 : decode cX9_isListed 22 = .ok (.lload_n 1, 1) := by decide +kernel
theorem dX9_isListed_23 : decode cX9_isListed 23 = .ok (.lcmp, 1) := by decide +kernel
theorem dX9_isListed_24 : decode cX9_isListed 24 = .ok (.ifCond .ne 5, 3) := by decide +kernel
theorem dX9_isListed_27 : decode cX9_isListed 27 = .ok (.iconst 1, 1) := by decide +kernel
theorem dX9_isListed_28 : decode cX9_isListed 28 = .ok (.ireturn, 1) := by decide +kernel
theorem dX9_isListed_29 : decode cX9_isListed 29 = .ok (.iinc 3 1, 3) := by decide +kernel
theorem dX9_isListed_32 : decode cX9_isListed 32 = .ok (.goto (-30), 3) := by decide +kernel
theorem dX9_isListed_35 : decode cX9_isListed 35 = .ok (.iconst 0, 1) := by decide +kernel
theorem dX9_isListed_36 : decode cX9_isListed 36 = .ok (.ireturn, 1) := by decide +kernel
def chX9_tellsListApart : List (List Cond) := [wsX9_tellsListApart_r1, wsX9_tellsListApart_r2, wsX90, wsX00]
set_option maxRecDepth 20000 in
theorem chX9_tellsListApart_in : ∀ c ∈ chX9_tellsListApart, ∀ w ∈ c, w ∈ wsX9_tellsListApart := (all_c (P := fun c => ∀ w ∈ c, w ∈ wsX9_tellsListApart) (fun w h => List.mem_cons_of_mem _ (List.mem_append_left _ (List.mem_append_left _ (List.mem_append_left _ (h))))) (all_c (P := fun c => ∀ w ∈ c, w ∈ wsX9_tellsListApart) (fun w h => List.mem_cons_of_mem _ (List.mem_append_left _ (List.mem_append_left _ (List.mem_append_right _ (h))))) (all_c (P := fun c => ∀ w ∈ c, w ∈ wsX9_tellsListApart) (fun w h => List.mem_cons_of_mem _ (List.mem_append_left _ (List.mem_append_right _ (h)))) (all_c (P := fun c => ∀ w ∈ c, w ∈ wsX9_tellsListApart) (fun w h => List.mem_cons_of_mem _ (List.mem_append_right _ (h))) (fun _ h => nomatch h)))))
set_option maxRecDepth 20000 in
theorem ggX9_tellsListApart_X0_firstUnlikeWay : GoodIn wsX9_tellsListApart wsX0_firstUnlikeWay := goodIn_ca (goodIn_c chX9_tellsListApart chX9_tellsListApart_in _ [(0, 7), (0, 8), (0, 9), (0, 10), (0, 6), (0, 11), (0, 12), (0, 13), (0, 14), (0, 15), (0, 16), (0, 17), (0, 18), (0, 19), (0, 20), (0, 21), (0, 22), (0, 23), (1, 0), (1, 1), (1, 2), (1, 3), (1, 4), (1, 5)] (by rfl) (by decide +kernel)) (goodIn_sub (fun _ h => List.mem_cons_of_mem _ (List.mem_append_right _ (h))) (by decide +kernel))
set_option maxRecDepth 20000 in
theorem gX9_tellsListApart_X0_firstUnlikeWay : GoodIn wsX9_tellsListApart (wsV RX9 183 RX0 yX0_firstUnlikeWay wsX0_firstUnlikeWay) := goodIn_app (goodIn_c chX9_tellsListApart chX9_tellsListApart_in _ [(0, 3), (0, 4), (0, 5), (0, 6)] (by rfl) (by decide +kernel)) ggX9_tellsListApart_X0_firstUnlikeWay
theorem dX9_tellsListApart_0 : decode cX9_tellsListApart 0 = .ok (.iconst 1, 1) := by decide +kernel
theorem dX9_tellsListApart_1 : decode cX9_tellsListApart 1 = .ok (.istore_n 2, 1) := by decide +kernel
theorem dX9_tellsListApart_2 : decode cX9_tellsListApart 2 = .ok (.iload_n 2, 1) := by decide +kernel
theorem dX9_tellsListApart_3 : decode cX9_tellsListApart 3 = .ok (.aload_n 0, 1) := by decide +kernel
theorem dX9_tellsListApart_4 : decode cX9_tellsListApart 4 = .ok (.getfield 46, 3) := by decide +kernel
theorem dX9_tellsListApart_7 : decode cX9_tellsListApart 7 = .ok (.if_icmp .ge 60, 3) := by decide +kernel
theorem dX9_tellsListApart_10 : decode cX9_tellsListApart 10 = .ok (.iload_n 2, 1) := by decide +kernel
theorem dX9_tellsListApart_11 : decode cX9_tellsListApart 11 = .ok (.bipush 12, 2) := by decide +kernel
theorem dX9_tellsListApart_13 : decode cX9_tellsListApart 13 = .ok (.if_icmp .ge 54, 3) := by decide +kernel
theorem dX9_tellsListApart_16 : decode cX9_tellsListApart 16 = .ok (.iconst 0, 1) := by decide +kernel
theorem dX9_tellsListApart_17 : decode cX9_tellsListApart 17 = .ok (.istore_n 3, 1) := by decide +kernel
theorem dX9_tellsListApart_18 : decode cX9_tellsListApart 18 = .ok (.iload_n 3, 1) := by decide +kernel
theorem dX9_tellsListApart_19 : decode cX9_tellsListApart 19 = .ok (.iload_n 2, 1) := by decide +kernel
theorem dX9_tellsListApart_20 : decode cX9_tellsListApart 20 = .ok (.if_icmp .ge 41, 3) := by decide +kernel
theorem dX9_tellsListApart_23 : decode cX9_tellsListApart 23 = .ok (.aload_n 0, 1) := by decide +kernel
theorem dX9_tellsListApart_24 : decode cX9_tellsListApart 24 = .ok (.getfield 49, 3) := by decide +kernel
theorem dX9_tellsListApart_27 : decode cX9_tellsListApart 27 = .ok (.ifnull 26, 3) := by decide +kernel
theorem dX9_tellsListApart_30 : decode cX9_tellsListApart 30 = .ok (.aload_n 0, 1) := by decide +kernel
theorem dX9_tellsListApart_31 : decode cX9_tellsListApart 31 = .ok (.getfield 49, 3) := by decide +kernel
theorem dX9_tellsListApart_34 : decode cX9_tellsListApart 34 = .ok (.aload_n 0, 1) := by decide +kernel
theorem dX9_tellsListApart_35 : decode cX9_tellsListApart 35 = .ok (.getfield 42, 3) := by decide +kernel
theorem dX9_tellsListApart_38 : decode cX9_tellsListApart 38 = .ok (.iload_n 2, 1) := by decide +kernel
theorem dX9_tellsListApart_39 : decode cX9_tellsListApart 39 = .ok (.laload, 1) := by decide +kernel
theorem dX9_tellsListApart_40 : decode cX9_tellsListApart 40 = .ok (.aload_n 0, 1) := by decide +kernel
theorem dX9_tellsListApart_41 : decode cX9_tellsListApart 41 = .ok (.getfield 42, 3) := by decide +kernel
theorem dX9_tellsListApart_44 : decode cX9_tellsListApart 44 = .ok (.iload_n 3, 1) := by decide +kernel
theorem dX9_tellsListApart_45 : decode cX9_tellsListApart 45 = .ok (.laload, 1) := by decide +kernel
theorem dX9_tellsListApart_46 : decode cX9_tellsListApart 46 = .ok (.iload_n 1, 1) := by decide +kernel
theorem dX9_tellsListApart_47 : decode cX9_tellsListApart 47 = .ok (.invokevirtual 183, 3) := by decide +kernel
theorem dX9_tellsListApart_50 : decode cX9_tellsListApart 50 = .ok (.ifCond .ge 5, 3) := by decide +kernel
theorem dX9_tellsListApart_53 : decode cX9_tellsListApart 53 = .ok (.iconst 0, 1) := by decide +kernel
theorem dX9_tellsListApart_54 : decode cX9_tellsListApart 54 = .ok (.ireturn, 1) := by decide +kernel
theorem dX9_tellsListApart_55 : decode cX9_tellsListApart 55 = .ok (.iinc 3 1, 3) := by decide +kernel
theorem dX9_tellsListApart_58 : decode cX9_tellsListApart 58 = .ok (.goto (-40), 3) := by decide +kernel
theorem dX9_tellsListApart_61 : decode cX9_tellsListApart 61 = .ok (.iinc 2 1, 3) := by decide +kernel
theorem dX9_tellsListApart_64 : decode cX9_tellsListApart 64 = .ok (.goto (-62), 3) := by decide +kernel
theorem dX9_tellsListApart_67 : decode cX9_tellsListApart 67 = .ok (.iconst 1, 1) := by decide +kernel
theorem dX9_tellsListApart_68 : decode cX9_tellsListApart 68 = .ok (.ireturn, 1) := by decide +kernel
def chX9_thingToKeep : List (List Cond) := [wsX9_thingToKeep_r1, wsX9_thingToKeep_r2, wsX9_thingToKeep_r3, wsX9_thingToKeep_r4, wsX9_thingToKeep_r5, wsX9_thingToKeep_r6, wsX10, wsX30, wsX40, wsX50, wsX00, wsX70]
set_option maxRecDepth 20000 in
theorem chX9_thingToKeep_in : ∀ c ∈ chX9_thingToKeep, ∀ w ∈ c, w ∈ wsX9_thingToKeep := (all_c (P := fun c => ∀ w ∈ c, w ∈ wsX9_thingToKeep) (fun w h => List.mem_cons_of_mem _ (List.mem_append_left _ (List.mem_append_left _ (List.mem_append_left _ (List.mem_append_left _ (List.mem_append_left _ (List.mem_append_left _ (List.mem_append_left _ (h))))))))) (all_c (P := fun c => ∀ w ∈ c, w ∈ wsX9_thingToKeep) (fun w h => List.mem_cons_of_mem _ (List.mem_append_left _ (List.mem_append_left _ (List.mem_append_left _ (List.mem_append_left _ (List.mem_append_left _ (List.mem_append_left _ (List.mem_append_right _ (List.mem_append_left _ (h)))))))))) (all_c (P := fun c => ∀ w ∈ c, w ∈ wsX9_thingToKeep) (fun w h => List.mem_cons_of_mem _ (List.mem_append_left _ (List.mem_append_left _ (List.mem_append_left _ (List.mem_append_left _ (List.mem_append_left _ (List.mem_append_left _ (List.mem_append_right _ (List.mem_append_right _ (List.mem_append_left _ (h))))))))))) (all_c (P := fun c => ∀ w ∈ c, w ∈ wsX9_thingToKeep) (fun w h => List.mem_cons_of_mem _ (List.mem_append_left _ (List.mem_append_left _ (List.mem_append_left _ (List.mem_append_left _ (List.mem_append_left _ (List.mem_append_left _ (List.mem_append_right _ (List.mem_append_right _ (List.mem_append_right _ (List.mem_append_left _ (h)))))))))))) (all_c (P := fun c => ∀ w ∈ c, w ∈ wsX9_thingToKeep) (fun w h => List.mem_cons_of_mem _ (List.mem_append_left _ (List.mem_append_left _ (List.mem_append_left _ (List.mem_append_left _ (List.mem_append_left _ (List.mem_append_left _ (List.mem_append_right _ (List.mem_append_right _ (List.mem_append_right _ (List.mem_append_right _ (List.mem_append_left _ (h))))))))))))) (all_c (P := fun c => ∀ w ∈ c, w ∈ wsX9_thingToKeep) (fun w h => List.mem_cons_of_mem _ (List.mem_append_left _ (List.mem_append_left _ (List.mem_append_left _ (List.mem_append_left _ (List.mem_append_left _ (List.mem_append_left _ (List.mem_append_right _ (List.mem_append_right _ (List.mem_append_right _ (List.mem_append_right _ (List.mem_append_right _ (h))))))))))))) (all_c (P := fun c => ∀ w ∈ c, w ∈ wsX9_thingToKeep) (fun w h => List.mem_cons_of_mem _ (List.mem_append_left _ (List.mem_append_left _ (List.mem_append_left _ (List.mem_append_left _ (List.mem_append_left _ (List.mem_append_right _ (h)))))))) (all_c (P := fun c => ∀ w ∈ c, w ∈ wsX9_thingToKeep) (fun w h => List.mem_cons_of_mem _ (List.mem_append_left _ (List.mem_append_left _ (List.mem_append_left _ (List.mem_append_left _ (List.mem_append_right _ (h))))))) (all_c (P := fun c => ∀ w ∈ c, w ∈ wsX9_thingToKeep) (fun w h => List.mem_cons_of_mem _ (List.mem_append_left _ (List.mem_append_left _ (List.mem_append_left _ (List.mem_append_right _ (h)))))) (all_c (P := fun c => ∀ w ∈ c, w ∈ wsX9_thingToKeep) (fun w h => List.mem_cons_of_mem _ (List.mem_append_left _ (List.mem_append_left _ (List.mem_append_right _ (h))))) (all_c (P := fun c => ∀ w ∈ c, w ∈ wsX9_thingToKeep) (fun w h => List.mem_cons_of_mem _ (List.mem_append_left _ (List.mem_append_right _ (h)))) (all_c (P := fun c => ∀ w ∈ c, w ∈ wsX9_thingToKeep) (fun w h => List.mem_cons_of_mem _ (List.mem_append_right _ (h))) (fun _ h => nomatch h)))))))))))))
set_option maxRecDepth 20000 in
theorem ggX9_thingToKeep_X1_asItIs : GoodIn wsX9_thingToKeep wsX1_asItIs := goodIn_ca (goodIn_ca (goodIn_ca (goodIn_ca (goodIn_c chX9_thingToKeep chX9_thingToKeep_in _ [(0, 7), (0, 8), (0, 9), (0, 6), (0, 10), (0, 11), (0, 12), (0, 13), (0, 14), (0, 15), (0, 16), (0, 17), (0, 18), (0, 19), (0, 20), (0, 21), (0, 22), (0, 23), (1, 0), (1, 1), (1, 2), (1, 3), (1, 4), (1, 5), (1, 6), (1, 7), (1, 8), (1, 9), (1, 10), (1, 11), (1, 12), (1, 13), (1, 14), (1, 15), (1, 16), (1, 17), (1, 18), (1, 19)] (by rfl) (by decide +kernel)) (goodIn_sub (fun _ h => List.mem_cons_of_mem _ (List.mem_append_left _ (List.mem_append_left _ (List.mem_append_left _ (List.mem_append_left _ (List.mem_append_left _ (List.mem_append_right _ (h)))))))) (by decide +kernel))) (goodIn_sub (fun _ h => List.mem_cons_of_mem _ (List.mem_append_left _ (List.mem_append_left _ (List.mem_append_left _ (List.mem_append_left _ (List.mem_append_right _ (h))))))) (by decide +kernel))) (goodIn_sub (fun _ h => List.mem_cons_of_mem _ (List.mem_append_left _ (List.mem_append_left _ (List.mem_append_left _ (List.mem_append_right _ (h)))))) (by decide +kernel))) (goodIn_sub (fun _ h => List.mem_cons_of_mem _ (List.mem_append_left _ (List.mem_append_left _ (List.mem_append_right _ (h))))) (by decide +kernel))
set_option maxRecDepth 20000 in
theorem gX9_thingToKeep_X1_asItIs_u321X1 : GoodIn wsX9_thingToKeep (va_wsO RX9 321 RX1 "ShadowBench$Job" ⟨"ShadowBench$Job", "asItIs", "()LShadowBench$Job;"⟩ yX1_asItIs wsX1_asItIs) := goodIn_app (goodIn_of _ (by decide +kernel)) ggX9_thingToKeep_X1_asItIs
set_option maxRecDepth 20000 in
theorem ggX9_thingToKeep_X3_asItIs : GoodIn wsX9_thingToKeep wsX3_asItIs := goodIn_ca (goodIn_ca (goodIn_ca (goodIn_ca (goodIn_c chX9_thingToKeep chX9_thingToKeep_in _ [(1, 20), (2, 0), (2, 1), (0, 21), (1, 4), (2, 2), (0, 20), (0, 22), (0, 23), (1, 0), (1, 1), (1, 2), (1, 3), (1, 5), (1, 6), (1, 7), (1, 8), (1, 9), (1, 10), (2, 3), (2, 4), (2, 5), (1, 14), (1, 15), (1, 16), (1, 17), (1, 18), (1, 19), (2, 6), (2, 7), (2, 8), (2, 9)] (by rfl) (by decide +kernel)) (goodIn_sub (fun _ h => List.mem_cons_of_mem _ (List.mem_append_left _ (List.mem_append_left _ (List.mem_append_left _ (List.mem_append_left _ (List.mem_append_right _ (h))))))) (by decide +kernel))) (goodIn_sub (fun _ h => List.mem_cons_of_mem _ (List.mem_append_left _ (List.mem_append_left _ (List.mem_append_left _ (List.mem_append_left _ (List.mem_append_left _ (List.mem_append_right _ (h)))))))) (by decide +kernel))) (goodIn_sub (fun _ h => List.mem_cons_of_mem _ (List.mem_append_left _ (List.mem_append_left _ (List.mem_append_left _ (List.mem_append_right _ (h)))))) (by decide +kernel))) (goodIn_sub (fun _ h => List.mem_cons_of_mem _ (List.mem_append_left _ (List.mem_append_left _ (List.mem_append_right _ (h))))) (by decide +kernel))
set_option maxRecDepth 20000 in
theorem gX9_thingToKeep_X3_asItIs : GoodIn wsX9_thingToKeep (wsV RX9 321 RX3 yX3_asItIs wsX3_asItIs) := goodIn_app (goodIn_c chX9_thingToKeep chX9_thingToKeep_in _ [(0, 1), (0, 3), (1, 23), (0, 21)] (by rfl) (by decide +kernel)) ggX9_thingToKeep_X3_asItIs
set_option maxRecDepth 20000 in
theorem ggX9_thingToKeep_X4_asItIs : GoodIn wsX9_thingToKeep wsX4_asItIs := goodIn_ca (goodIn_ca (goodIn_ca (goodIn_ca (goodIn_c chX9_thingToKeep chX9_thingToKeep_in _ [(2, 12), (2, 13), (2, 14), (0, 17), (2, 15), (2, 16), (2, 17), (0, 16), (0, 18), (0, 19), (0, 20), (0, 21), (0, 22), (0, 23), (1, 0), (1, 1), (1, 2), (1, 3), (1, 4), (1, 5), (1, 6), (1, 7), (1, 8), (1, 9), (1, 10), (2, 18), (2, 19), (2, 20), (1, 14), (1, 15), (1, 16), (1, 17), (1, 18), (1, 19), (2, 21)] (by rfl) (by decide +kernel)) (goodIn_sub (fun _ h => List.mem_cons_of_mem _ (List.mem_append_left _ (List.mem_append_left _ (List.mem_append_left _ (List.mem_append_right _ (h)))))) (by decide +kernel))) (goodIn_sub (fun _ h => List.mem_cons_of_mem _ (List.mem_append_left _ (List.mem_append_left _ (List.mem_append_left _ (List.mem_append_left _ (List.mem_append_left _ (List.mem_append_right _ (h)))))))) (by decide +kernel))) (goodIn_sub (fun _ h => List.mem_cons_of_mem _ (List.mem_append_left _ (List.mem_append_left _ (List.mem_append_left _ (List.mem_append_left _ (List.mem_append_right _ (h))))))) (by decide +kernel))) (goodIn_sub (fun _ h => List.mem_cons_of_mem _ (List.mem_append_left _ (List.mem_append_left _ (List.mem_append_right _ (h))))) (by decide +kernel))
set_option maxRecDepth 20000 in
theorem gX9_thingToKeep_X4_asItIs_u321X4 : GoodIn wsX9_thingToKeep (va_wsO RX9 321 RX4 "ShadowBench$Job" ⟨"ShadowBench$Job", "asItIs", "()LShadowBench$Job;"⟩ yX4_asItIs wsX4_asItIs) := goodIn_app (goodIn_of _ (by decide +kernel)) ggX9_thingToKeep_X4_asItIs
set_option maxRecDepth 20000 in
theorem ggX9_thingToKeep_X5_asItIs : GoodIn wsX9_thingToKeep wsX5_asItIs := goodIn_ca (goodIn_ca (goodIn_ca (goodIn_ca (goodIn_ca (goodIn_c chX9_thingToKeep chX9_thingToKeep_in _ [(3, 1), (3, 2), (3, 3), (3, 0), (3, 4), (3, 5), (3, 6), (3, 7), (1, 17), (1, 18), (1, 19), (3, 8), (3, 9), (3, 10), (3, 11), (0, 23), (3, 12), (0, 20), (0, 21), (0, 22), (1, 0), (1, 1), (1, 2), (1, 3), (1, 4), (1, 5), (1, 6), (1, 7), (1, 8), (1, 9), (1, 10), (3, 13), (3, 14), (3, 15), (1, 14), (1, 15), (1, 16)] (by rfl) (by decide +kernel)) (goodIn_sub (fun _ h => List.mem_cons_of_mem _ (List.mem_append_left _ (List.mem_append_left _ (List.mem_append_right _ (h))))) (by decide +kernel))) (goodIn_sub (fun _ h => List.mem_cons_of_mem _ (List.mem_append_left _ (List.mem_append_left _ (List.mem_append_left _ (List.mem_append_left _ (List.mem_append_left _ (List.mem_append_right _ (h)))))))) (by decide +kernel))) (goodIn_sub (fun _ h => List.mem_cons_of_mem _ (List.mem_append_left _ (List.mem_append_left _ (List.mem_append_left _ (List.mem_append_left _ (List.mem_append_right _ (h))))))) (by decide +kernel))) (goodIn_sub (fun _ h => List.mem_cons_of_mem _ (List.mem_append_left _ (List.mem_append_left _ (List.mem_append_left _ (List.mem_append_right _ (h)))))) (by decide +kernel))) (goodIn_sub (fun _ h => List.mem_cons_of_mem _ (List.mem_append_left _ (List.mem_append_right _ (h)))) (by decide +kernel))
set_option maxRecDepth 20000 in
theorem gX9_thingToKeep_X5_asItIs_u321X5 : GoodIn wsX9_thingToKeep (va_wsO RX9 321 RX5 "ShadowBench$Job" ⟨"ShadowBench$Job", "asItIs", "()LShadowBench$Job;"⟩ yX5_asItIs wsX5_asItIs) := goodIn_app (goodIn_of _ (by decide +kernel)) ggX9_thingToKeep_X5_asItIs
set_option maxRecDepth 20000 in
theorem ggX9_thingToKeep_X0_isPicture : GoodIn wsX9_thingToKeep wsX0_isPicture := goodIn_ca (goodIn_c chX9_thingToKeep chX9_thingToKeep_in _ [(3, 20), (3, 21)] (by rfl) (by decide +kernel)) (goodIn_sub (fun _ h => List.mem_cons_of_mem _ (List.mem_append_left _ (List.mem_append_right _ (h)))) (by decide +kernel))
set_option maxRecDepth 20000 in
theorem gX9_thingToKeep_X0_isPicture : GoodIn wsX9_thingToKeep (wsV RX9 80 RX0 yX0_isPicture wsX0_isPicture) := goodIn_app (goodIn_c chX9_thingToKeep chX9_thingToKeep_in _ [(3, 16), (3, 17), (3, 18), (3, 19)] (by rfl) (by decide +kernel)) ggX9_thingToKeep_X0_isPicture
set_option maxRecDepth 20000 in
theorem ggX9_thingToKeep_X9_squaresOf : GoodIn wsX9_thingToKeep wsX9_squaresOf := goodIn_ca (goodIn_ca (goodIn_c chX9_thingToKeep chX9_thingToKeep_in _ [(4, 1), (4, 2), (4, 3), (4, 4), (4, 5), (4, 6), (4, 7), (4, 8), (4, 9), (4, 10), (4, 11), (1, 5), (1, 6), (1, 7), (1, 8), (1, 9), (1, 10), (4, 12), (4, 13), (4, 14), (4, 15), (4, 16), (4, 17), (4, 18), (4, 19)] (by rfl) (by decide +kernel)) (goodIn_sub (fun _ h => List.mem_cons_of_mem _ (List.mem_append_right _ (h))) (by decide +kernel))) (goodIn_sub (fun _ h => List.mem_cons_of_mem _ (List.mem_append_left _ (List.mem_append_right _ (h)))) (by decide +kernel))
set_option maxRecDepth 20000 in
theorem gX9_thingToKeep_X9_squaresOf : GoodIn wsX9_thingToKeep (va_wsS RX9 325 yX9_squaresOf wsX9_squaresOf) := goodIn_app (goodIn_c chX9_thingToKeep chX9_thingToKeep_in _ [(3, 22), (3, 23), (4, 0)] (by rfl) (by decide +kernel)) ggX9_thingToKeep_X9_squaresOf
set_option maxRecDepth 20000 in
theorem ggX9_thingToKeep_X9_sumsOf : GoodIn wsX9_thingToKeep wsX9_sumsOf := goodIn_ca (goodIn_ca (goodIn_ca (goodIn_ca (goodIn_ca (goodIn_ca (goodIn_c chX9_thingToKeep chX9_thingToKeep_in _ [(4, 22), (0, 0), (4, 23), (4, 2), (4, 3), (4, 4), (5, 0), (4, 6), (4, 7), (4, 8), (4, 9), (4, 10), (4, 11), (1, 5), (1, 6), (1, 7), (1, 8), (1, 9), (1, 10), (5, 1), (5, 2), (5, 3), (5, 4), (0, 21), (5, 5), (1, 0), (5, 6), (5, 7), (5, 8), (5, 9), (4, 12), (4, 13), (4, 14), (4, 15), (4, 16), (4, 17), (4, 18), (4, 19)] (by rfl) (by decide +kernel)) (goodIn_sub (fun _ h => List.mem_cons_of_mem _ (List.mem_append_left _ (List.mem_append_left _ (List.mem_append_left _ (List.mem_append_left _ (List.mem_append_left _ (List.mem_append_right _ (h)))))))) (by decide +kernel))) (goodIn_sub (fun _ h => List.mem_cons_of_mem _ (List.mem_append_left _ (List.mem_append_left _ (List.mem_append_left _ (List.mem_append_left _ (List.mem_append_right _ (h))))))) (by decide +kernel))) (goodIn_sub (fun _ h => List.mem_cons_of_mem _ (List.mem_append_left _ (List.mem_append_left _ (List.mem_append_left _ (List.mem_append_right _ (h)))))) (by decide +kernel))) (goodIn_sub (fun _ h => List.mem_cons_of_mem _ (List.mem_append_left _ (List.mem_append_left _ (List.mem_append_right _ (h))))) (by decide +kernel))) (goodIn_sub (fun _ h => List.mem_cons_of_mem _ (List.mem_append_left _ (List.mem_append_right _ (h)))) (by decide +kernel))) (goodIn_sub (fun _ h => List.mem_cons_of_mem _ (List.mem_append_right _ (h))) (by decide +kernel))
set_option maxRecDepth 20000 in
theorem gX9_thingToKeep_X9_sumsOf : GoodIn wsX9_thingToKeep (va_wsS RX9 329 yX9_sumsOf wsX9_sumsOf) := goodIn_app (goodIn_c chX9_thingToKeep chX9_thingToKeep_in _ [(4, 20), (4, 21), (4, 0)] (by rfl) (by decide +kernel)) ggX9_thingToKeep_X9_sumsOf
theorem dX9_thingToKeep_0 : decode cX9_thingToKeep 0 = .ok (.aload_n 1, 1) := by decide +kernel
theorem dX9_thingToKeep_1 : decode cX9_thingToKeep 1 = .ok (.ifnonnull 5, 3) := by decide +kernel
theorem dX9_thingToKeep_4 : decode cX9_thingToKeep 4 = .ok (.aconst_null, 1) := by decide +kernel
theorem dX9_thingToKeep_5 : decode cX9_thingToKeep 5 = .ok (.areturn, 1) := by decide +kernel
theorem dX9_thingToKeep_6 : decode cX9_thingToKeep 6 = .ok (.iload_n 0, 1) := by decide +kernel
theorem dX9_thingToKeep_7 : decode cX9_thingToKeep 7 = .ok (.iconst 1, 1) := by decide +kernel
theorem dX9_thingToKeep_8 : decode cX9_thingToKeep 8 = .ok (.if_icmp .ne 8, 3) := by decide +kernel
theorem dX9_thingToKeep_11 : decode cX9_thingToKeep 11 = .ok (.aload_n 1, 1) := by decide +kernel
theorem dX9_thingToKeep_12 : decode cX9_thingToKeep 12 = .ok (.invokevirtual 321, 3) := by decide +kernel
theorem dX9_thingToKeep_15 : decode cX9_thingToKeep 15 = .ok (.areturn, 1) := by decide +kernel
theorem dX9_thingToKeep_16 : decode cX9_thingToKeep 16 = .ok (.iload_n 0, 1) := by decide +kernel
theorem dX9_thingToKeep_17 : decode cX9_thingToKeep 17 = .ok (.iconst 3, 1) := by decide +kernel
theorem dX9_thingToKeep_18 : decode cX9_thingToKeep 18 = .ok (.if_icmp .ne 23, 3) := by decide +kernel
theorem dX9_thingToKeep_21 : decode cX9_thingToKeep 21 = .ok (.aload_n 1, 1) := by decide +kernel
theorem dX9_thingToKeep_22 : decode cX9_thingToKeep 22 = .ok (.getfield 65, 3) := by decide +kernel
theorem dX9_thingToKeep_25 : decode cX9_thingToKeep 25 = .ok (.lload_n 2, 1) := by decide +kernel
theorem dX9_thingToKeep_26 : decode cX9_thingToKeep 26 = .ok (.invokevirtual 80, 3) := by decide +kernel
theorem dX9_thingToKeep_29 : decode cX9_thingToKeep 29 = .ok (.ifCond .eq 12, 3) := by decide +kernel
theorem dX9_thingToKeep_32 : decode cX9_thingToKeep 32 = .ok (.aload_n 1, 1) := by decide +kernel
theorem dX9_thingToKeep_33 : decode cX9_thingToKeep 33 = .ok (.getfield 65, 3) := by decide +kernel
theorem dX9_thingToKeep_36 : decode cX9_thingToKeep 36 = .ok (.lload_n 2, 1) := by decide +kernel
theorem dX9_thingToKeep_37 : decode cX9_thingToKeep 37 = .ok (.invokestatic 325, 3) := by decide +kernel
theorem dX9_thingToKeep_40 : decode cX9_thingToKeep 40 = .ok (.areturn, 1) := by decide +kernel
theorem dX9_thingToKeep_41 : decode cX9_thingToKeep 41 = .ok (.iload_n 0, 1) := by decide +kernel
theorem dX9_thingToKeep_42 : decode cX9_thingToKeep 42 = .ok (.iconst 4, 1) := by decide +kernel
theorem dX9_thingToKeep_43 : decode cX9_thingToKeep 43 = .ok (.if_icmp .ne 10, 3) := by decide +kernel
theorem dX9_thingToKeep_46 : decode cX9_thingToKeep 46 = .ok (.aload_n 1, 1) := by decide +kernel
theorem dX9_thingToKeep_47 : decode cX9_thingToKeep 47 = .ok (.invokestatic 329, 3) := by decide +kernel
theorem dX9_thingToKeep_50 : decode cX9_thingToKeep 50 = .ok (.goto 4, 3) := by decide +kernel
theorem dX9_thingToKeep_53 : decode cX9_thingToKeep 53 = .ok (.aconst_null, 1) := by decide +kernel
theorem dX9_thingToKeep_54 : decode cX9_thingToKeep 54 = .ok (.areturn, 1) := by decide +kernel
def chX9_squaresOf : List (List Cond) := [[.classLink RX9 245 RX7, .instantiable RX7 2, .initialized RX7, .fieldLink RX9 333 "ShadowBench$Board" "squares" "I", .methodLink RX9 247 yX7_init, .instanceMethod yX7_init, .code yX7_init cX7_init 3 none, .fieldLink RX7 7 "ShadowBench$Row" "ofBytes" "Z", .arrayClass .long, .fieldLink RX7 13 "ShadowBench$Row" "numbers" "[J", .instanceMethod yX2_init, .initialized RX2, .code yX2_init cX2_init 1 none, .methodLink RX2 1 objectInit, .instanceMethod objectInit, .code objectInit ⟨#[0xb1]⟩ 1 none, .methodLink RX9 336 yX7_put, .instanceMethod yX7_put, .selects RX7 yX7_put yX7_put, .code yX7_put cX7_put 4 none, .methodLink RX7 17 yX7_has, .instanceMethod yX7_has, .selects RX7 yX7_has yX7_has, .code yX7_has cX7_has 3 (some .boolean)], wsX70, wsX00]
set_option maxRecDepth 20000 in
theorem chX9_squaresOf_in : ∀ c ∈ chX9_squaresOf, ∀ w ∈ c, w ∈ wsX9_squaresOf := (all_c (P := fun c => ∀ w ∈ c, w ∈ wsX9_squaresOf) (fun w h => List.mem_cons_of_mem _ (List.mem_append_left _ (List.mem_append_left _ (h)))) (all_c (P := fun c => ∀ w ∈ c, w ∈ wsX9_squaresOf) (fun w h => List.mem_cons_of_mem _ (List.mem_append_left _ (List.mem_append_right _ (h)))) (all_c (P := fun c => ∀ w ∈ c, w ∈ wsX9_squaresOf) (fun w h => List.mem_cons_of_mem _ (List.mem_append_right _ (h))) (fun _ h => nomatch h))))
set_option maxRecDepth 20000 in
theorem ggX9_squaresOf_X7_init : GoodIn wsX9_squaresOf wsX7_init := goodIn_ca (goodIn_c chX9_squaresOf chX9_squaresOf_in _ [(0, 6), (0, 7), (0, 8), (0, 9), (0, 10), (0, 11), (0, 12), (0, 13), (0, 14), (0, 15)] (by rfl) (by decide +kernel)) (goodIn_sub (fun _ h => List.mem_cons_of_mem _ (List.mem_append_left _ (List.mem_append_right _ (h)))) (by decide +kernel))
set_option maxRecDepth 20000 in
theorem gX9_squaresOf_X7_init : GoodIn wsX9_squaresOf (wsX7_init) := ggX9_squaresOf_X7_init
set_option maxRecDepth 20000 in
theorem ggX9_squaresOf_X7_put : GoodIn wsX9_squaresOf wsX7_put := goodIn_ca (goodIn_c chX9_squaresOf chX9_squaresOf_in _ [(0, 19), (0, 9), (0, 20), (0, 21), (0, 22), (0, 2), (0, 23)] (by rfl) (by decide +kernel)) (goodIn_sub (fun _ h => List.mem_cons_of_mem _ (List.mem_append_left _ (List.mem_append_right _ (h)))) (by decide +kernel))
set_option maxRecDepth 20000 in
theorem gX9_squaresOf_X7_put : GoodIn wsX9_squaresOf (wsV RX9 336 RX7 yX7_put wsX7_put) := goodIn_app (goodIn_c chX9_squaresOf chX9_squaresOf_in _ [(0, 16), (0, 17), (0, 18), (0, 2)] (by rfl) (by decide +kernel)) ggX9_squaresOf_X7_put
theorem dX9_squaresOf_0 : decode cX9_squaresOf 0 = .ok (.new 245, 3) := by decide +kernel
theorem dX9_squaresOf_3 : decode cX9_squaresOf 3 = .ok (.dup, 1) := by decide +kernel
theorem dX9_squaresOf_4 : decode cX9_squaresOf 4 = .ok (.iconst 1, 1) := by decide +kernel
theorem dX9_squaresOf_5 : decode cX9_squaresOf 5 = .ok (.aload_n 0, 1) := by decide +kernel
theorem dX9_squaresOf_6 : decode cX9_squaresOf 6 = .ok (.getfield 333, 3) := by decide +kernel
theorem dX9_squaresOf_9 : decode cX9_squaresOf 9 = .ok (.invokespecial 247, 3) := by decide +kernel
theorem dX9_squaresOf_12 : decode cX9_squaresOf 12 = .ok (.astore_n 3, 1) := by decide +kernel
theorem dX9_squaresOf_13 : decode cX9_squaresOf 13 = .ok (.iconst 0, 1) := by decide +kernel
theorem dX9_squaresOf_14 : decode cX9_squaresOf 14 = .ok (.istore 4, 2) := by decide +kernel
theorem dX9_squaresOf_16 : decode cX9_squaresOf 16 = .ok (.iload 4, 2) := by decide +kernel
theorem dX9_squaresOf_18 : decode cX9_squaresOf 18 = .ok (.aload_n 0, 1) := by decide +kernel
theorem dX9_squaresOf_19 : decode cX9_squaresOf 19 = .ok (.getfield 333, 3) := by decide +kernel
theorem dX9_squaresOf_22 : decode cX9_squaresOf 22 = .ok (.if_icmp .ge 21, 3) := by decide +kernel
theorem dX9_squaresOf_25 : decode cX9_squaresOf 25 = .ok (.aload_n 3, 1) := by decide +kernel
theorem dX9_squaresOf_26 : decode cX9_squaresOf 26 = .ok (.iload 4, 2) := by decide +kernel
theorem dX9_squaresOf_28 : decode cX9_squaresOf 28 = .ok (.lload_n 1, 1) := by decide +kernel
theorem dX9_squaresOf_29 : decode cX9_squaresOf 29 = .ok (.iload 4, 2) := by decide +kernel
theorem dX9_squaresOf_31 : decode cX9_squaresOf 31 = .ok (.lushr, 1) := by decide +kernel
theorem dX9_squaresOf_32 : decode cX9_squaresOf 32 = .ok (.lconst 1, 1) := by decide +kernel
theorem dX9_squaresOf_33 : decode cX9_squaresOf 33 = .ok (.land, 1) := by decide +kernel
theorem dX9_squaresOf_34 : decode cX9_squaresOf 34 = .ok (.invokevirtual 336, 3) := by decide +kernel
theorem dX9_squaresOf_37 : decode cX9_squaresOf 37 = .ok (.iinc 4 1, 3) := by decide +kernel
theorem dX9_squaresOf_40 : decode cX9_squaresOf 40 = .ok (.goto (-24), 3) := by decide +kernel
theorem dX9_squaresOf_43 : decode cX9_squaresOf 43 = .ok (.aload_n 3, 1) := by decide +kernel
theorem dX9_squaresOf_44 : decode cX9_squaresOf 44 = .ok (.areturn, 1) := by decide +kernel
def chX9_sumsOf : List (List Cond) := [wsX9_sumsOf_r1, wsX9_sumsOf_r2, wsX10, wsX30, wsX40, wsX50, wsX00, wsX70]
set_option maxRecDepth 20000 in
theorem chX9_sumsOf_in : ∀ c ∈ chX9_sumsOf, ∀ w ∈ c, w ∈ wsX9_sumsOf := (all_c (P := fun c => ∀ w ∈ c, w ∈ wsX9_sumsOf) (fun w h => List.mem_cons_of_mem _ (List.mem_append_left _ (List.mem_append_left _ (List.mem_append_left _ (List.mem_append_left _ (List.mem_append_left _ (List.mem_append_left _ (List.mem_append_left _ (h))))))))) (all_c (P := fun c => ∀ w ∈ c, w ∈ wsX9_sumsOf) (fun w h => List.mem_cons_of_mem _ (List.mem_append_left _ (List.mem_append_left _ (List.mem_append_left _ (List.mem_append_left _ (List.mem_append_left _ (List.mem_append_left _ (List.mem_append_right _ (h))))))))) (all_c (P := fun c => ∀ w ∈ c, w ∈ wsX9_sumsOf) (fun w h => List.mem_cons_of_mem _ (List.mem_append_left _ (List.mem_append_left _ (List.mem_append_left _ (List.mem_append_left _ (List.mem_append_left _ (List.mem_append_right _ (h)))))))) (all_c (P := fun c => ∀ w ∈ c, w ∈ wsX9_sumsOf) (fun w h => List.mem_cons_of_mem _ (List.mem_append_left _ (List.mem_append_left _ (List.mem_append_left _ (List.mem_append_left _ (List.mem_append_right _ (h))))))) (all_c (P := fun c => ∀ w ∈ c, w ∈ wsX9_sumsOf) (fun w h => List.mem_cons_of_mem _ (List.mem_append_left _ (List.mem_append_left _ (List.mem_append_left _ (List.mem_append_right _ (h)))))) (all_c (P := fun c => ∀ w ∈ c, w ∈ wsX9_sumsOf) (fun w h => List.mem_cons_of_mem _ (List.mem_append_left _ (List.mem_append_left _ (List.mem_append_right _ (h))))) (all_c (P := fun c => ∀ w ∈ c, w ∈ wsX9_sumsOf) (fun w h => List.mem_cons_of_mem _ (List.mem_append_left _ (List.mem_append_right _ (h)))) (all_c (P := fun c => ∀ w ∈ c, w ∈ wsX9_sumsOf) (fun w h => List.mem_cons_of_mem _ (List.mem_append_right _ (h))) (fun _ h => nomatch h)))))))))
set_option maxRecDepth 20000 in
theorem ggX9_sumsOf_X7_init : GoodIn wsX9_sumsOf wsX7_init := goodIn_ca (goodIn_c chX9_sumsOf chX9_sumsOf_in _ [(0, 8), (0, 9), (0, 10), (0, 11), (0, 12), (0, 13), (0, 14), (0, 15), (0, 16), (0, 17)] (by rfl) (by decide +kernel)) (goodIn_sub (fun _ h => List.mem_cons_of_mem _ (List.mem_append_right _ (h))) (by decide +kernel))
set_option maxRecDepth 20000 in
theorem gX9_sumsOf_X7_init : GoodIn wsX9_sumsOf (wsX7_init) := ggX9_sumsOf_X7_init
set_option maxRecDepth 20000 in
theorem ggX9_sumsOf_X3_sumOf : GoodIn wsX9_sumsOf wsX3_sumOf := goodIn_ca (goodIn_ca (goodIn_ca (goodIn_ca (goodIn_c chX9_sumsOf chX9_sumsOf_in _ [(0, 23), (1, 0)] (by rfl) (by decide +kernel)) (goodIn_sub (fun _ h => List.mem_cons_of_mem _ (List.mem_append_left _ (List.mem_append_left _ (List.mem_append_left _ (List.mem_append_left _ (List.mem_append_left _ (List.mem_append_right _ (h)))))))) (by decide +kernel))) (goodIn_sub (fun _ h => List.mem_cons_of_mem _ (List.mem_append_left _ (List.mem_append_left _ (List.mem_append_left _ (List.mem_append_left _ (List.mem_append_right _ (h))))))) (by decide +kernel))) (goodIn_sub (fun _ h => List.mem_cons_of_mem _ (List.mem_append_left _ (List.mem_append_left _ (List.mem_append_left _ (List.mem_append_right _ (h)))))) (by decide +kernel))) (goodIn_sub (fun _ h => List.mem_cons_of_mem _ (List.mem_append_left _ (List.mem_append_left _ (List.mem_append_right _ (h))))) (by decide +kernel))
set_option maxRecDepth 20000 in
theorem gX9_sumsOf_X3_sumOf_u120X1 : GoodIn wsX9_sumsOf (va_wsU RX9 120 RX1 "ShadowBench$Job" ⟨"ShadowBench$Job", "sumOf", "(II)I"⟩ yX3_sumOf wsX3_sumOf) := goodIn_app (goodIn_c chX9_sumsOf chX9_sumsOf_in _ [(0, 18), (0, 19), (0, 20), (0, 21), (0, 22)] (by rfl) (by decide +kernel)) ggX9_sumsOf_X3_sumOf
set_option maxRecDepth 20000 in
theorem gX9_sumsOf_X3_sumOf : GoodIn wsX9_sumsOf (wsV RX9 120 RX3 yX3_sumOf wsX3_sumOf) := goodIn_app (goodIn_c chX9_sumsOf chX9_sumsOf_in _ [(0, 18), (0, 21), (1, 2), (0, 22)] (by rfl) (by decide +kernel)) ggX9_sumsOf_X3_sumOf
set_option maxRecDepth 20000 in
theorem gX9_sumsOf_X3_sumOf_u120X4 : GoodIn wsX9_sumsOf (va_wsU RX9 120 RX4 "ShadowBench$Job" ⟨"ShadowBench$Job", "sumOf", "(II)I"⟩ yX3_sumOf wsX3_sumOf) := goodIn_app (goodIn_c chX9_sumsOf chX9_sumsOf_in _ [(0, 18), (0, 19), (1, 3), (0, 21), (0, 22)] (by rfl) (by decide +kernel)) ggX9_sumsOf_X3_sumOf
set_option maxRecDepth 20000 in
theorem gX9_sumsOf_X3_sumOf_u120X5 : GoodIn wsX9_sumsOf (va_wsU RX9 120 RX5 "ShadowBench$Job" ⟨"ShadowBench$Job", "sumOf", "(II)I"⟩ yX3_sumOf wsX3_sumOf) := goodIn_app (goodIn_c chX9_sumsOf chX9_sumsOf_in _ [(0, 18), (0, 19), (1, 4), (0, 21), (0, 22)] (by rfl) (by decide +kernel)) ggX9_sumsOf_X3_sumOf
set_option maxRecDepth 20000 in
theorem ggX9_sumsOf_X7_put : GoodIn wsX9_sumsOf wsX7_put := goodIn_ca (goodIn_c chX9_sumsOf chX9_sumsOf_in _ [(1, 8), (0, 11), (1, 9), (1, 10), (1, 11), (0, 4), (1, 12)] (by rfl) (by decide +kernel)) (goodIn_sub (fun _ h => List.mem_cons_of_mem _ (List.mem_append_right _ (h))) (by decide +kernel))
set_option maxRecDepth 20000 in
theorem gX9_sumsOf_X7_put : GoodIn wsX9_sumsOf (wsV RX9 336 RX7 yX7_put wsX7_put) := goodIn_app (goodIn_c chX9_sumsOf chX9_sumsOf_in _ [(1, 5), (1, 6), (1, 7), (0, 4)] (by rfl) (by decide +kernel)) ggX9_sumsOf_X7_put
theorem dX9_sumsOf_0 : decode cX9_sumsOf 0 = .ok (.aload_n 0, 1) := by decide +kernel
theorem dX9_sumsOf_1 : decode cX9_sumsOf 1 = .ok (.getfield 65, 3) := by decide +kernel
theorem dX9_sumsOf_4 : decode cX9_sumsOf 4 = .ok (.getfield 306, 3) := by decide +kernel
theorem dX9_sumsOf_7 : decode cX9_sumsOf 7 = .ok (.istore_n 1, 1) := by decide +kernel
theorem dX9_sumsOf_8 : decode cX9_sumsOf 8 = .ok (.new 245, 3) := by decide +kernel
theorem dX9_sumsOf_11 : decode cX9_sumsOf 11 = .ok (.dup, 1) := by decide +kernel
theorem dX9_sumsOf_12 : decode cX9_sumsOf 12 = .ok (.iconst 0, 1) := by decide +kernel
theorem dX9_sumsOf_13 : decode cX9_sumsOf 13 = .ok (.iload_n 1, 1) := by decide +kernel
theorem dX9_sumsOf_14 : decode cX9_sumsOf 14 = .ok (.aload_n 0, 1) := by decide +kernel
theorem dX9_sumsOf_15 : decode cX9_sumsOf 15 = .ok (.getfield 65, 3) := by decide +kernel
theorem dX9_sumsOf_18 : decode cX9_sumsOf 18 = .ok (.getfield 156, 3) := by decide +kernel
theorem dX9_sumsOf_21 : decode cX9_sumsOf 21 = .ok (.iadd, 1) := by decide +kernel
theorem dX9_sumsOf_22 : decode cX9_sumsOf 22 = .ok (.invokespecial 247, 3) := by decide +kernel
theorem dX9_sumsOf_25 : decode cX9_sumsOf 25 = .ok (.astore_n 2, 1) := by decide +kernel

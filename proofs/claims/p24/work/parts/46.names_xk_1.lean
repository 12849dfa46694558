theorem dX9_caughtFailure_11 : decode cX9_caughtFailure 11 = .ok (.iconst 2, 1) := by decide +kernel
theorem dX9_caughtFailure_12 : decode cX9_caughtFailure 12 = .ok (.ireturn, 1) := by decide +kernel
theorem dX9_caughtFailure_13 : decode cX9_caughtFailure 13 = .ok (.astore_n 1, 1) := by decide +kernel
theorem dX9_caughtFailure_14 : decode cX9_caughtFailure 14 = .ok (.iconst 3, 1) := by decide +kernel
theorem dX9_caughtFailure_15 : decode cX9_caughtFailure 15 = .ok (.ireturn, 1) := by decide +kernel
theorem dX9_caughtFailure_16 : decode cX9_caughtFailure 16 = .ok (.bipush (-15), 2) := by decide +kernel
theorem dX9_caughtFailure_18 : decode cX9_caughtFailure 18 = .ok (.ireturn, 1) := by decide +kernel
set_option maxRecDepth 20000 in
theorem ggL_best_X9_best : GoodIn wsL_best wsX9_best := goodIn_ca (goodIn_ca (goodIn_r _ [7, 8, 9, 10, 6, 11, 12, 13, 14, 15, 16, 17, 18, 19, 20, 21, 22, 23, 24, 25, 26, 27, 28, 29, 30, 31, 32, 33, 34, 35, 36, 37, 38, 39, 40, 41, 42, 43, 44, 45, 46, 47, 48, 49, 50, 51, 52, 53, 54, 55, 56, 57, 58, 59, 60, 61, 62, 63, 64, 65, 66, 67, 68, 69, 70, 71, 72, 73, 74, 75, 76, 77, 78, 79, 80, 81, 82, 83, 84, 85, 86, 87, 88, 89, 90, 91, 92, 93, 94, 95, 96, 97, 98, 99, 100, 101, 102, 103, 104, 105, 106, 107, 108, 109, 110, 111, 112, 113, 114, 115, 116, 117, 118, 119, 120, 121, 122, 123, 124, 125, 126, 127, 128, 129, 130, 131, 132, 133, 134, 135, 136, 137, 138, 139, 140, 141, 142, 143, 144, 145, 146, 147, 148, 149, 150, 151, 152, 153, 154, 155, 156, 157, 158, 159, 160, 161, 162, 163, 164, 165, 166, 167, 168, 169, 170, 171, 172, 173, 174, 175, 176, 177, 178, 179, 180, 181, 182, 183, 184, 185, 186, 187, 188, 189, 190, 191, 192, 193, 194, 195, 196, 197, 198, 199, 200, 201, 202, 203, 204, 205, 206, 207, 208, 209, 210, 211, 212, 213, 214, 215, 216, 217, 218, 219, 220, 221, 222, 223, 224, 225, 226, 227, 228, 229, 230, 231, 232, 233, 234, 235, 236, 237, 238, 239, 240, 241, 242, 243, 244, 245, 246, 247, 248, 249, 250, 251, 252, 253, 254, 255, 256, 257, 258, 259, 260, 261, 262, 263, 264, 265, 266, 267, 268, 269, 270, 271, 272, 273] (by decide +kernel) (by decide +kernel)) (goodIn_sub (fun _ h => List.mem_cons_of_mem _ (List.mem_append_left _ (List.mem_append_right _ h))) (by decide +kernel))) (goodIn_sub (fun _ h => List.mem_cons_of_mem _ (List.mem_append_right _ h)) (by decide +kernel))
set_option maxRecDepth 20000 in
theorem gL_best_X9_best : GoodIn wsL_best (wsV RL 7 RX9 yX9_best wsX9_best) := goodIn_app (goodIn_of _ (by decide +kernel)) ggL_best_X9_best
theorem dL_best_0 : decode cL_best 0 = .ok (.aload_n 2, 1) := by decide +kernel
theorem dL_best_1 : decode cL_best 1 = .ok (.iconst 0, 1) := by decide +kernel
theorem dL_best_2 : decode cL_best 2 = .ok (.aload_n 0, 1) := by decide +kernel
theorem dL_best_3 : decode cL_best 3 = .ok (.iload_n 1, 1) := by decide +kernel
theorem dL_best_4 : decode cL_best 4 = .ok (.invokevirtual 7, 3) := by decide +kernel
theorem dL_best_7 : decode cL_best 7 = .ok (.i2l, 1) := by decide +kernel
theorem dL_best_8 : decode cL_best 8 = .ok (.lastore, 1) := by decide +kernel
theorem dL_best_9 : decode cL_best 9 = .ok (.goto 9, 3) := by decide +kernel
theorem dL_best_12 : decode cL_best 12 = .ok (.astore_n 3, 1) := by decide +kernel
theorem dL_best_13 : decode cL_best 13 = .ok (.iconst 1, 1) := by decide +kernel
theorem dL_best_14 : decode cL_best 14 = .ok (.ireturn, 1) := by decide +kernel
theorem dL_best_15 : decode cL_best 15 = .ok (.astore_n 3, 1) := by decide +kernel
theorem dL_best_16 : decode cL_best 16 = .ok (.iconst 2, 1) := by decide +kernel
theorem dL_best_17 : decode cL_best 17 = .ok (.ireturn, 1) := by decide +kernel
theorem dL_best_18 : decode cL_best 18 = .ok (.iconst 0, 1) := by decide +kernel
theorem dL_best_19 : decode cL_best 19 = .ok (.ireturn, 1) := by decide +kernel
set_option maxRecDepth 20000 in
theorem ggL_bestOne_X9_bestOne : GoodIn wsL_bestOne wsX9_bestOne := goodIn_ca (goodIn_ca (goodIn_r _ [7, 8, 9, 10, 6, 11, 12, 13, 14, 15, 16, 17, 18, 19, 20, 21, 22, 23, 24, 25, 26, 27, 28, 29, 30, 31, 32, 33, 34, 35, 36, 37, 38, 39, 40, 41, 42, 43, 44, 45, 46, 47, 48, 49, 50, 51, 52, 53, 54, 55, 56, 57, 58, 59, 60, 61, 62, 63, 64, 65, 66, 67, 68, 69, 70, 71, 72, 73, 74, 75, 76, 77, 78, 79, 80, 81, 82, 83, 84, 85, 86, 87, 88, 89, 90, 91, 92, 93, 94, 95, 96, 97, 98, 99, 100, 101, 102, 103, 104, 105, 106, 107, 108, 109, 110, 111, 112, 113, 114, 115, 116, 117, 118, 119, 120, 121, 122, 123, 124, 125, 126, 127, 128, 129, 130, 131, 132, 133, 134, 135, 136, 137, 138, 139, 140, 141, 142, 143, 144, 145, 146, 147, 148, 149, 150, 151, 152, 153, 154, 155, 156, 157, 158, 159, 160, 161, 162, 163, 164, 165, 166, 167, 168, 169, 170, 171, 172, 173, 174, 175, 176, 177, 178, 179, 180, 181, 182, 183, 184, 185, 186, 187, 188, 189, 190, 191, 192, 193, 194, 195, 196, 197, 198, 199, 200, 201, 202, 203, 204, 205, 206, 207, 208, 209, 210, 211, 212, 213, 214, 215, 216, 217, 218, 219, 220, 221, 222, 223, 224, 225, 226, 227, 228, 229, 230, 231, 232, 233, 234, 235, 236, 237, 238, 239, 240, 241, 242, 243, 244, 245, 246, 247, 248, 249, 250, 251, 252, 253, 254, 255, 256, 257, 258, 259, 260, 261, 262, 263, 264, 265, 266, 267, 268, 269, 270, 271, 272, 273] (by decide +kernel) (by decide +kernel)) (goodIn_sub (fun _ h => List.mem_cons_of_mem _ (List.mem_append_left _ (List.mem_append_right _ h))) (by decide +kernel))) (goodIn_sub (fun _ h => List.mem_cons_of_mem _ (List.mem_append_right _ h)) (by decide +kernel))
set_option maxRecDepth 20000 in
theorem gL_bestOne_X9_bestOne : GoodIn wsL_bestOne (wsV RL 17 RX9 yX9_bestOne wsX9_bestOne) := goodIn_app (goodIn_of _ (by decide +kernel)) ggL_bestOne_X9_bestOne
theorem dL_bestOne_0 : decode cL_bestOne 0 = .ok (.aload_n 2, 1) := by decide +kernel
theorem dL_bestOne_1 : decode cL_bestOne 1 = .ok (.iconst 0, 1) := by decide +kernel
theorem dL_bestOne_2 : decode cL_bestOne 2 = .ok (.aload_n 0, 1) := by decide +kernel
theorem dL_bestOne_3 : decode cL_bestOne 3 = .ok (.iload_n 1, 1) := by decide +kernel
theorem dL_bestOne_4 : decode cL_bestOne 4 = .ok (.invokevirtual 17, 3) := by decide +kernel
theorem dL_bestOne_7 : decode cL_bestOne 7 = .ok (.lastore, 1) := by decide +kernel
theorem dL_bestOne_8 : decode cL_bestOne 8 = .ok (.goto 9, 3) := by decide +kernel
theorem dL_bestOne_11 : decode cL_bestOne 11 = .ok (.astore_n 3, 1) := by decide +kernel
theorem dL_bestOne_12 : decode cL_bestOne 12 = .ok (.iconst 1, 1) := by decide +kernel
theorem dL_bestOne_13 : decode cL_bestOne 13 = .ok (.ireturn, 1) := by decide +kernel
theorem dL_bestOne_14 : decode cL_bestOne 14 = .ok (.astore_n 3, 1) := by decide +kernel
theorem dL_bestOne_15 : decode cL_bestOne 15 = .ok (.iconst 2, 1) := by decide +kernel
theorem dL_bestOne_16 : decode cL_bestOne 16 = .ok (.ireturn, 1) := by decide +kernel
theorem dL_bestOne_17 : decode cL_bestOne 17 = .ok (.iconst 0, 1) := by decide +kernel
theorem dL_bestOne_18 : decode cL_bestOne 18 = .ok (.ireturn, 1) := by decide +kernel
set_option maxRecDepth 20000 in
theorem ggL_ghost_X9_ghost : GoodIn wsL_ghost wsX9_ghost := goodIn_ca (goodIn_r _ [6, 7, 8, 9, 10, 5, 11, 12, 13, 14, 15, 16] (by decide +kernel) (by decide +kernel)) (goodIn_sub (fun _ h => List.mem_cons_of_mem _ (List.mem_append_right _ h)) (by decide +kernel))
set_option maxRecDepth 20000 in
theorem gL_ghost_X9_ghost : GoodIn wsL_ghost (wsV RL 21 RX9 yX9_ghost wsX9_ghost) := goodIn_app (goodIn_of _ (by decide +kernel)) ggL_ghost_X9_ghost
theorem dL_ghost_0 : decode cL_ghost 0 = .ok (.aload 4, 2) := by decide +kernel
theorem dL_ghost_2 : decode cL_ghost 2 = .ok (.iconst 0, 1) := by decide +kernel
theorem dL_ghost_3 : decode cL_ghost 3 = .ok (.aload_n 0, 1) := by decide +kernel
theorem dL_ghost_4 : decode cL_ghost 4 = .ok (.iload_n 1, 1) := by decide +kernel
theorem dL_ghost_5 : decode cL_ghost 5 = .ok (.iload_n 2, 1) := by decide +kernel
theorem dL_ghost_6 : decode cL_ghost 6 = .ok (.iload_n 3, 1) := by decide +kernel
theorem dL_ghost_7 : decode cL_ghost 7 = .ok (.invokevirtual 21, 3) := by decide +kernel
theorem dL_ghost_10 : decode cL_ghost 10 = .ok (.i2l, 1) := by decide +kernel
theorem dL_ghost_11 : decode cL_ghost 11 = .ok (.lastore, 1) := by decide +kernel
theorem dL_ghost_12 : decode cL_ghost 12 = .ok (.goto 7, 3) := by decide +kernel
theorem dL_ghost_15 : decode cL_ghost 15 = .ok (.astore 5, 2) := by decide +kernel
theorem dL_ghost_17 : decode cL_ghost 17 = .ok (.iconst 1, 1) := by decide +kernel
theorem dL_ghost_18 : decode cL_ghost 18 = .ok (.ireturn, 1) := by decide +kernel
theorem dL_ghost_19 : decode cL_ghost 19 = .ok (.iconst 0, 1) := by decide +kernel
theorem dL_ghost_20 : decode cL_ghost 20 = .ok (.ireturn, 1) := by decide +kernel
set_option maxRecDepth 20000 in
theorem ggL_element_X9_element : GoodIn wsL_element wsX9_element := goodIn_ca (goodIn_ca (goodIn_r _ [7, 8, 9, 10, 11, 12, 13, 14, 15, 6, 16, 17, 18, 19, 20, 21, 22, 23, 24, 25, 26, 27, 28, 29, 30, 31, 32, 33, 34, 35, 36, 37, 38] (by decide +kernel) (by decide +kernel)) (goodIn_sub (fun _ h => List.mem_cons_of_mem _ (List.mem_append_left _ (List.mem_append_right _ h))) (by decide +kernel))) (goodIn_sub (fun _ h => List.mem_cons_of_mem _ (List.mem_append_right _ h)) (by decide +kernel))
set_option maxRecDepth 20000 in
theorem gL_element_X9_element : GoodIn wsL_element (wsV RL 25 RX9 yX9_element wsX9_element) := goodIn_app (goodIn_of _ (by decide +kernel)) ggL_element_X9_element
theorem dL_element_0 : decode cL_element 0 = .ok (.aload_n 3, 1) := by decide +kernel
theorem dL_element_1 : decode cL_element 1 = .ok (.iconst 0, 1) := by decide +kernel
theorem dL_element_2 : decode cL_element 2 = .ok (.aload_n 0, 1) := by decide +kernel
theorem dL_element_3 : decode cL_element 3 = .ok (.iload_n 1, 1) := by decide +kernel
theorem dL_element_4 : decode cL_element 4 = .ok (.iload_n 2, 1) := by decide +kernel
theorem dL_element_5 : decode cL_element 5 = .ok (.invokevirtual 25, 3) := by decide +kernel
theorem dL_element_8 : decode cL_element 8 = .ok (.lastore, 1) := by decide +kernel
theorem dL_element_9 : decode cL_element 9 = .ok (.goto 11, 3) := by decide +kernel
theorem dL_element_12 : decode cL_element 12 = .ok (.astore 4, 2) := by decide +kernel
theorem dL_element_14 : decode cL_element 14 = .ok (.iconst 1, 1) := by decide +kernel
theorem dL_element_15 : decode cL_element 15 = .ok (.ireturn, 1) := by decide +kernel
theorem dL_element_16 : decode cL_element 16 = .ok (.astore 4, 2) := by decide +kernel
theorem dL_element_18 : decode cL_element 18 = .ok (.iconst 2, 1) := by decide +kernel
theorem dL_element_19 : decode cL_element 19 = .ok (.ireturn, 1) := by decide +kernel
theorem dL_element_20 : decode cL_element 20 = .ok (.iconst 0, 1) := by decide +kernel
theorem dL_element_21 : decode cL_element 21 = .ok (.ireturn, 1) := by decide +kernel
set_option maxRecDepth 20000 in
theorem ggL_weight_X9_weight : GoodIn wsL_weight wsX9_weight := goodIn_ca (goodIn_ca (goodIn_r _ [7, 8, 9, 10, 11, 12, 13, 14, 15, 6, 16, 17, 18, 19, 20, 21, 22, 23, 24, 25, 26, 27, 28, 29, 30, 31, 32, 33, 34, 35, 36, 37, 38, 39, 40, 41, 42, 43, 44, 45, 46, 47, 48, 49, 50, 51, 52, 53, 54, 55, 56, 57, 58, 59, 60, 61, 62, 63, 64, 65, 66, 67, 68, 69, 70, 71, 72, 73, 74, 75, 76, 77, 78, 79, 80, 81, 82, 83, 84, 85, 86, 87, 88, 89] (by decide +kernel) (by decide +kernel)) (goodIn_sub (fun _ h => List.mem_cons_of_mem _ (List.mem_append_left _ (List.mem_append_right _ h))) (by decide +kernel))) (goodIn_sub (fun _ h => List.mem_cons_of_mem _ (List.mem_append_right _ h)) (by decide +kernel))
set_option maxRecDepth 20000 in
theorem gL_weight_X9_weight : GoodIn wsL_weight (wsV RL 29 RX9 yX9_weight wsX9_weight) := goodIn_app (goodIn_of _ (by decide +kernel)) ggL_weight_X9_weight
theorem dL_weight_0 : decode cL_weight 0 = .ok (.aload_n 2, 1) := by decide +kernel
theorem dL_weight_1 : decode cL_weight 1 = .ok (.iconst 0, 1) := by decide +kernel
theorem dL_weight_2 : decode cL_weight 2 = .ok (.aload_n 0, 1) := by decide +kernel
theorem dL_weight_3 : decode cL_weight 3 = .ok (.iload_n 1, 1) := by decide +kernel
theorem dL_weight_4 : decode cL_weight 4 = .ok (.invokevirtual 29, 3) := by decide +kernel
theorem dL_weight_7 : decode cL_weight 7 = .ok (.i2l, 1) := by decide +kernel
theorem dL_weight_8 : decode cL_weight 8 = .ok (.lastore, 1) := by decide +kernel
theorem dL_weight_9 : decode cL_weight 9 = .ok (.goto 9, 3) := by decide +kernel
theorem dL_weight_12 : decode cL_weight 12 = .ok (.astore_n 3, 1) := by decide +kernel
theorem dL_weight_13 : decode cL_weight 13 = .ok (.iconst 1, 1) := by decide +kernel
theorem dL_weight_14 : decode cL_weight 14 = .ok (.ireturn, 1) := by decide +kernel
theorem dL_weight_15 : decode cL_weight 15 = .ok (.astore_n 3, 1) := by decide +kernel
theorem dL_weight_16 : decode cL_weight 16 = .ok (.iconst 2, 1) := by decide +kernel
theorem dL_weight_17 : decode cL_weight 17 = .ok (.ireturn, 1) := by decide +kernel
theorem dL_weight_18 : decode cL_weight 18 = .ok (.iconst 0, 1) := by decide +kernel
theorem dL_weight_19 : decode cL_weight 19 = .ok (.ireturn, 1) := by decide +kernel

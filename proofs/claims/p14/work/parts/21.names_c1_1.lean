theorem dX0_rowsAreWhole_34 : decode cX0_rowsAreWhole 34 = .ok (.ireturn, 1) := by decide +kernel
theorem dX0_rowsAreWhole_35 : decode cX0_rowsAreWhole 35 = .ok (.iinc 3 1, 3) := by decide +kernel
theorem dX0_rowsAreWhole_38 : decode cX0_rowsAreWhole 38 = .ok (.goto (-36), 3) := by decide +kernel
theorem dX0_rowsAreWhole_41 : decode cX0_rowsAreWhole 41 = .ok (.iconst 1, 1) := by decide +kernel
theorem dX0_rowsAreWhole_42 : decode cX0_rowsAreWhole 42 = .ok (.ireturn, 1) := by decide +kernel
def chX0_columnsAreWhole : List (List Cond) := [[.fieldLink RX0 17 "ShadowBench$Board" "high" "I", .methodLink RX0 75 yX0_rowOf, .instanceMethod yX0_rowOf, .selects RX0 yX0_rowOf yX0_rowOf, .initialized RX0, .code yX0_rowOf cX0_rowOf 4 (some .int), .fieldLink RX0 13 "ShadowBench$Board" "wide" "I", .fieldLink RX0 23 "ShadowBench$Board" "rowNumbers" "I"], wsX00]
set_option maxRecDepth 20000 in
theorem chX0_columnsAreWhole_in : ∀ c ∈ chX0_columnsAreWhole, ∀ w ∈ c, w ∈ wsX0_columnsAreWhole := (all_c (P := fun c => ∀ w ∈ c, w ∈ wsX0_columnsAreWhole) (fun w h => List.mem_cons_of_mem _ (List.mem_append_left _ (h))) (all_c (P := fun c => ∀ w ∈ c, w ∈ wsX0_columnsAreWhole) (fun w h => List.mem_cons_of_mem _ (List.mem_append_right _ (h))) (fun _ h => nomatch h)))
set_option maxRecDepth 20000 in
theorem ggX0_columnsAreWhole_X0_rowOf : GoodIn wsX0_columnsAreWhole wsX0_rowOf := goodIn_ca (goodIn_c chX0_columnsAreWhole chX0_columnsAreWhole_in _ [(0, 5), (0, 6), (0, 7)] (by rfl) (by decide +kernel)) (goodIn_sub (fun _ h => List.mem_cons_of_mem _ (List.mem_append_right _ (h))) (by decide +kernel))
set_option maxRecDepth 20000 in
theorem gX0_columnsAreWhole_X0_rowOf : GoodIn wsX0_columnsAreWhole (wsV RX0 75 RX0 yX0_rowOf wsX0_rowOf) := goodIn_app (goodIn_c chX0_columnsAreWhole chX0_columnsAreWhole_in _ [(0, 1), (0, 2), (0, 3), (0, 4)] (by rfl) (by decide +kernel)) ggX0_columnsAreWhole_X0_rowOf
theorem dX0_columnsAreWhole_0 : decode cX0_columnsAreWhole 0 = .ok (.iconst 0, 1) := by decide +kernel
theorem dX0_columnsAreWhole_1 : decode cX0_columnsAreWhole 1 = .ok (.istore_n 3, 1) := by decide +kernel
theorem dX0_columnsAreWhole_2 : decode cX0_columnsAreWhole 2 = .ok (.iconst 0, 1) := by decide +kernel
theorem dX0_columnsAreWhole_3 : decode cX0_columnsAreWhole 3 = .ok (.istore 4, 2) := by decide +kernel
theorem dX0_columnsAreWhole_5 : decode cX0_columnsAreWhole 5 = .ok (.iconst 0, 1) := by decide +kernel
theorem dX0_columnsAreWhole_6 : decode cX0_columnsAreWhole 6 = .ok (.istore 5, 2) := by decide +kernel
theorem dX0_columnsAreWhole_8 : decode cX0_columnsAreWhole 8 = .ok (.iload 5, 2) := by decide +kernel
theorem dX0_columnsAreWhole_10 : decode cX0_columnsAreWhole 10 = .ok (.aload_n 0, 1) := by decide +kernel
theorem dX0_columnsAreWhole_11 : decode cX0_columnsAreWhole 11 = .ok (.getfield 17, 3) := by decide +kernel
theorem dX0_columnsAreWhole_14 : decode cX0_columnsAreWhole 14 = .ok (.if_icmp .ge 41, 3) := by decide +kernel
theorem dX0_columnsAreWhole_17 : decode cX0_columnsAreWhole 17 = .ok (.aload_n 0, 1) := by decide +kernel
theorem dX0_columnsAreWhole_18 : decode cX0_columnsAreWhole 18 = .ok (.lload_n 1, 1) := by decide +kernel
theorem dX0_columnsAreWhole_19 : decode cX0_columnsAreWhole 19 = .ok (.iload 5, 2) := by decide +kernel
theorem dX0_columnsAreWhole_21 : decode cX0_columnsAreWhole 21 = .ok (.invokevirtual 75, 3) := by decide +kernel
theorem dX0_columnsAreWhole_24 : decode cX0_columnsAreWhole 24 = .ok (.istore 6, 2) := by decide +kernel
theorem dX0_columnsAreWhole_26 : decode cX0_columnsAreWhole 26 = .ok (.iload 6, 2) := by decide +kernel
theorem dX0_columnsAreWhole_28 : decode cX0_columnsAreWhole 28 = .ok (.iload 4, 2) := by decide +kernel
theorem dX0_columnsAreWhole_30 : decode cX0_columnsAreWhole 30 = .ok (.iand, 1) := by decide +kernel
theorem dX0_columnsAreWhole_31 : decode cX0_columnsAreWhole 31 = .ok (.ifCond .eq 5, 3) := by decide +kernel
theorem dX0_columnsAreWhole_34 : decode cX0_columnsAreWhole 34 = .ok (.iconst 0, 1) := by decide +kernel
theorem dX0_columnsAreWhole_35 : decode cX0_columnsAreWhole 35 = .ok (.ireturn, 1) := by decide +kernel
theorem dX0_columnsAreWhole_36 : decode cX0_columnsAreWhole 36 = .ok (.iload_n 3, 1) := by decide +kernel
theorem dX0_columnsAreWhole_37 : decode cX0_columnsAreWhole 37 = .ok (.iload 6, 2) := by decide +kernel
theorem dX0_columnsAreWhole_39 : decode cX0_columnsAreWhole 39 = .ok (.ior, 1) := by decide +kernel
theorem dX0_columnsAreWhole_40 : decode cX0_columnsAreWhole 40 = .ok (.istore_n 3, 1) := by decide +kernel
theorem dX0_columnsAreWhole_41 : decode cX0_columnsAreWhole 41 = .ok (.iload_n 3, 1) := by decide +kernel
theorem dX0_columnsAreWhole_42 : decode cX0_columnsAreWhole 42 = .ok (.iload 6, 2) := by decide +kernel
theorem dX0_columnsAreWhole_44 : decode cX0_columnsAreWhole 44 = .ok (.iconst (-1), 1) := by decide +kernel
theorem dX0_columnsAreWhole_45 : decode cX0_columnsAreWhole 45 = .ok (.ixor, 1) := by decide +kernel
theorem dX0_columnsAreWhole_46 : decode cX0_columnsAreWhole 46 = .ok (.iand, 1) := by decide +kernel
theorem dX0_columnsAreWhole_47 : decode cX0_columnsAreWhole 47 = .ok (.istore 4, 2) := by decide +kernel
theorem dX0_columnsAreWhole_49 : decode cX0_columnsAreWhole 49 = .ok (.iinc 5 1, 3) := by decide +kernel
theorem dX0_columnsAreWhole_52 : decode cX0_columnsAreWhole 52 = .ok (.goto (-44), 3) := by decide +kernel
theorem dX0_columnsAreWhole_55 : decode cX0_columnsAreWhole 55 = .ok (.iconst 1, 1) := by decide +kernel
theorem dX0_columnsAreWhole_56 : decode cX0_columnsAreWhole 56 = .ok (.ireturn, 1) := by decide +kernel
def chX0_turnedPicture : List (List Cond) := [[.constantLong RX0 73 (-1), .fieldLink RX0 20 "ShadowBench$Board" "squares" "I", .fieldLink RX0 17 "ShadowBench$Board" "high" "I", .fieldLink RX0 13 "ShadowBench$Board" "wide" "I", .methodLink RX0 49 yX0_bit, .instanceMethod yX0_bit, .selects RX0 yX0_bit yX0_bit, .initialized RX0, .code yX0_bit cX0_bit 3 (some .long), .methodLink RX0 79 yX0_placeTurned, .instanceMethod yX0_placeTurned, .selects RX0 yX0_placeTurned yX0_placeTurned, .code yX0_placeTurned cX0_placeTurned 4 (some .int)], wsX00]
set_option maxRecDepth 20000 in
theorem chX0_turnedPicture_in : ∀ c ∈ chX0_turnedPicture, ∀ w ∈ c, w ∈ wsX0_turnedPicture := (all_c (P := fun c => ∀ w ∈ c, w ∈ wsX0_turnedPicture) (fun w h => List.mem_cons_of_mem _ (List.mem_append_left _ (h))) (all_c (P := fun c => ∀ w ∈ c, w ∈ wsX0_turnedPicture) (fun w h => List.mem_cons_of_mem _ (List.mem_append_right _ (h))) (fun _ h => nomatch h)))
set_option maxRecDepth 20000 in
theorem ggX0_turnedPicture_X0_bit : GoodIn wsX0_turnedPicture wsX0_bit := goodIn_ca (goodIn_c chX0_turnedPicture chX0_turnedPicture_in _ [(0, 8), (0, 3)] (by rfl) (by decide +kernel)) (goodIn_sub (fun _ h => List.mem_cons_of_mem _ (List.mem_append_right _ (h))) (by decide +kernel))
set_option maxRecDepth 20000 in
theorem gX0_turnedPicture_X0_bit : GoodIn wsX0_turnedPicture (wsV RX0 49 RX0 yX0_bit wsX0_bit) := goodIn_app (goodIn_c chX0_turnedPicture chX0_turnedPicture_in _ [(0, 4), (0, 5), (0, 6), (0, 7)] (by rfl) (by decide +kernel)) ggX0_turnedPicture_X0_bit
set_option maxRecDepth 20000 in
theorem ggX0_turnedPicture_X0_placeTurned : GoodIn wsX0_turnedPicture wsX0_placeTurned := goodIn_ca (goodIn_c chX0_turnedPicture chX0_turnedPicture_in _ [(0, 12), (0, 2), (0, 3)] (by rfl) (by decide +kernel)) (goodIn_sub (fun _ h => List.mem_cons_of_mem _ (List.mem_append_right _ (h))) (by decide +kernel))
set_option maxRecDepth 20000 in
theorem gX0_turnedPicture_X0_placeTurned : GoodIn wsX0_turnedPicture (wsV RX0 79 RX0 yX0_placeTurned wsX0_placeTurned) := goodIn_app (goodIn_c chX0_turnedPicture chX0_turnedPicture_in _ [(0, 9), (0, 10), (0, 11), (0, 7)] (by rfl) (by decide +kernel)) ggX0_turnedPicture_X0_placeTurned
theorem dX0_turnedPicture_0 : decode cX0_turnedPicture 0 = .ok (.iload_n 3, 1) := by decide +kernel
theorem dX0_turnedPicture_1 : decode cX0_turnedPicture 1 = .ok (.iconst 3, 1) := by decide +kernel
theorem dX0_turnedPicture_2 : decode cX0_turnedPicture 2 = .ok (.if_icmp .ne 18, 3) := by decide +kernel
theorem dX0_turnedPicture_5 : decode cX0_turnedPicture 5 = .ok (.lload_n 1, 1) := by decide +kernel
theorem dX0_turnedPicture_6 : decode cX0_turnedPicture 6 = .ok (.ldc2_w 73, 3) := by decide +kernel
theorem dX0_turnedPicture_9 : decode cX0_turnedPicture 9 = .ok (.lxor, 1) := by decide +kernel
theorem dX0_turnedPicture_10 : decode cX0_turnedPicture 10 = .ok (.lconst 1, 1) := by decide +kernel
theorem dX0_turnedPicture_11 : decode cX0_turnedPicture 11 = .ok (.aload_n 0, 1) := by decide +kernel
theorem dX0_turnedPicture_12 : decode cX0_turnedPicture 12 = .ok (.getfield 20, 3) := by decide +kernel
theorem dX0_turnedPicture_15 : decode cX0_turnedPicture 15 = .ok (.lshl, 1) := by decide +kernel
theorem dX0_turnedPicture_16 : decode cX0_turnedPicture 16 = .ok (.lconst 1, 1) := by decide +kernel
theorem dX0_turnedPicture_17 : decode cX0_turnedPicture 17 = .ok (.lsub, 1) := by decide +kernel
theorem dX0_turnedPicture_18 : decode cX0_turnedPicture 18 = .ok (.land, 1) := by decide +kernel
theorem dX0_turnedPicture_19 : decode cX0_turnedPicture 19 = .ok (.lreturn, 1) := by decide +kernel
theorem dX0_turnedPicture_20 : decode cX0_turnedPicture 20 = .ok (.lconst 0, 1) := by decide +kernel
theorem dX0_turnedPicture_21 : decode cX0_turnedPicture 21 = .ok (.lstore 4, 2) := by decide +kernel
theorem dX0_turnedPicture_23 : decode cX0_turnedPicture 23 = .ok (.iconst 0, 1) := by decide +kernel
theorem dX0_turnedPicture_24 : decode cX0_turnedPicture 24 = .ok (.istore 6, 2) := by decide +kernel
theorem dX0_turnedPicture_26 : decode cX0_turnedPicture 26 = .ok (.iload 6, 2) := by decide +kernel
theorem dX0_turnedPicture_28 : decode cX0_turnedPicture 28 = .ok (.aload_n 0, 1) := by decide +kernel
theorem dX0_turnedPicture_29 : decode cX0_turnedPicture 29 = .ok (.getfield 17, 3) := by decide +kernel
theorem dX0_turnedPicture_32 : decode cX0_turnedPicture 32 = .ok (.if_icmp .ge 58, 3) := by decide +kernel
theorem dX0_turnedPicture_35 : decode cX0_turnedPicture 35 = .ok (.iconst 0, 1) := by decide +kernel
theorem dX0_turnedPicture_36 : decode cX0_turnedPicture 36 = .ok (.istore 7, 2) := by decide +kernel
theorem dX0_turnedPicture_38 : decode cX0_turnedPicture 38 = .ok (.iload 7, 2) := by decide +kernel
theorem dX0_turnedPicture_40 : decode cX0_turnedPicture 40 = .ok (.aload_n 0, 1) := by decide +kernel
theorem dX0_turnedPicture_41 : decode cX0_turnedPicture 41 = .ok (.getfield 13, 3) := by decide +kernel
theorem dX0_turnedPicture_44 : decode cX0_turnedPicture 44 = .ok (.if_icmp .ge 40, 3) := by decide +kernel
theorem dX0_turnedPicture_47 : decode cX0_turnedPicture 47 = .ok (.lload_n 1, 1) := by decide +kernel
theorem dX0_turnedPicture_48 : decode cX0_turnedPicture 48 = .ok (.aload_n 0, 1) := by decide +kernel
theorem dX0_turnedPicture_49 : decode cX0_turnedPicture 49 = .ok (.iload 7, 2) := by decide +kernel
theorem dX0_turnedPicture_51 : decode cX0_turnedPicture 51 = .ok (.iload 6, 2) := by decide +kernel
theorem dX0_turnedPicture_53 : decode cX0_turnedPicture 53 = .ok (.invokevirtual 49, 3) := by decide +kernel
theorem dX0_turnedPicture_56 : decode cX0_turnedPicture 56 = .ok (.land, 1) := by decide +kernel
theorem dX0_turnedPicture_57 : decode cX0_turnedPicture 57 = .ok (.lconst 0, 1) := by decide +kernel
theorem dX0_turnedPicture_58 : decode cX0_turnedPicture 58 = .ok (.lcmp, 1) := by decide +kernel
theorem dX0_turnedPicture_59 : decode cX0_turnedPicture 59 = .ok (.ifCond .eq 19, 3) := by decide +kernel
theorem dX0_turnedPicture_62 : decode cX0_turnedPicture 62 = .ok (.lload 4, 2) := by decide +kernel
theorem dX0_turnedPicture_64 : decode cX0_turnedPicture 64 = .ok (.lconst 1, 1) := by decide +kernel
theorem dX0_turnedPicture_65 : decode cX0_turnedPicture 65 = .ok (.aload_n 0, 1) := by decide +kernel
theorem dX0_turnedPicture_66 : decode cX0_turnedPicture 66 = .ok (.iload_n 3, 1) := by decide +kernel
theorem dX0_turnedPicture_67 : decode cX0_turnedPicture 67 = .ok (.iload 7, 2) := by decide +kernel
theorem dX0_turnedPicture_69 : decode cX0_turnedPicture 69 = .ok (.iload 6, 2) := by decide +kernel
theorem dX0_turnedPicture_71 : decode cX0_turnedPicture 71 = .ok (.invokevirtual 79, 3) := by decide +kernel
theorem dX0_turnedPicture_74 : decode cX0_turnedPicture 74 = .ok (.lshl, 1) := by decide +kernel
theorem dX0_turnedPicture_75 : decode cX0_turnedPicture 75 = .ok (.lor, 1) := by decide +kernel
theorem dX0_turnedPicture_76 : decode cX0_turnedPicture 76 = .ok (.lstore 4, 2) := by decide +kernel
theorem dX0_turnedPicture_78 : decode cX0_turnedPicture 78 = .ok (.iinc 7 1, 3) := by decide +kernel
theorem dX0_turnedPicture_81 : decode cX0_turnedPicture 81 = .ok (.goto (-43), 3) := by decide +kernel
theorem dX0_turnedPicture_84 : decode cX0_turnedPicture 84 = .ok (.iinc 6 1, 3) := by decide +kernel
theorem dX0_turnedPicture_87 : decode cX0_turnedPicture 87 = .ok (.goto (-61), 3) := by decide +kernel
theorem dX0_turnedPicture_90 : decode cX0_turnedPicture 90 = .ok (.lload 4, 2) := by decide +kernel
theorem dX0_turnedPicture_92 : decode cX0_turnedPicture 92 = .ok (.lreturn, 1) := by decide +kernel
theorem dX0_placeTurned_0 : decode cX0_placeTurned 0 = .ok (.iload_n 1, 1) := by decide +kernel
theorem dX0_placeTurned_1 : decode cX0_placeTurned 1 = .ok (.lookupswitch 59 #[(0, 27), (1, 43)], 27) := by decide +kernel
theorem dX0_placeTurned_28 : decode cX0_placeTurned 28 = .ok (.iload_n 2, 1) := by decide +kernel
theorem dX0_placeTurned_29 : decode cX0_placeTurned 29 = .ok (.aload_n 0, 1) := by decide +kernel
theorem dX0_placeTurned_30 : decode cX0_placeTurned 30 = .ok (.getfield 17, 3) := by decide +kernel
theorem dX0_placeTurned_33 : decode cX0_placeTurned 33 = .ok (.imul, 1) := by decide +kernel
theorem dX0_placeTurned_34 : decode cX0_placeTurned 34 = .ok (.aload_n 0, 1) := by decide +kernel
theorem dX0_placeTurned_35 : decode cX0_placeTurned 35 = .ok (.getfield 17, 3) := by decide +kernel
theorem dX0_placeTurned_38 : decode cX0_placeTurned 38 = .ok (.iadd, 1) := by decide +kernel
theorem dX0_placeTurned_39 : decode cX0_placeTurned 39 = .ok (.iconst 1, 1) := by decide +kernel
theorem dX0_placeTurned_40 : decode cX0_placeTurned 40 = .ok (.isub, 1) := by decide +kernel
theorem dX0_placeTurned_41 : decode cX0_placeTurned 41 = .ok (.iload_n 3, 1) := by decide +kernel
theorem dX0_placeTurned_42 : decode cX0_placeTurned 42 = .ok (.isub, 1) := by decide +kernel
theorem dX0_placeTurned_43 : decode cX0_placeTurned 43 = .ok (.ireturn, 1) := by decide +kernel
theorem dX0_placeTurned_44 : decode cX0_placeTurned 44 = .ok (.aload_n 0, 1) := by decide +kernel
theorem dX0_placeTurned_45 : decode cX0_placeTurned 45 = .ok (.getfield 17, 3) := by decide +kernel
theorem dX0_placeTurned_48 : decode cX0_placeTurned 48 = .ok (.iconst 1, 1) := by decide +kernel
theorem dX0_placeTurned_49 : decode cX0_placeTurned 49 = .ok (.isub, 1) := by decide +kernel
theorem dX0_placeTurned_50 : decode cX0_placeTurned 50 = .ok (.iload_n 3, 1) := by decide +kernel
theorem dX0_placeTurned_51 : decode cX0_placeTurned 51 = .ok (.isub, 1) := by decide +kernel
theorem dX0_placeTurned_52 : decode cX0_placeTurned 52 = .ok (.aload_n 0, 1) := by decide +kernel
theorem dX0_placeTurned_53 : decode cX0_placeTurned 53 = .ok (.getfield 13, 3) := by decide +kernel
theorem dX0_placeTurned_56 : decode cX0_placeTurned 56 = .ok (.imul, 1) := by decide +kernel
theorem dX0_placeTurned_57 : decode cX0_placeTurned 57 = .ok (.iload_n 2, 1) := by decide +kernel
theorem dX0_placeTurned_58 : decode cX0_placeTurned 58 = .ok (.iadd, 1) := by decide +kernel
theorem dX0_placeTurned_59 : decode cX0_placeTurned 59 = .ok (.ireturn, 1) := by decide +kernel
theorem dX0_placeTurned_60 : decode cX0_placeTurned 60 = .ok (.iload_n 2, 1) := by decide +kernel
theorem dX0_placeTurned_61 : decode cX0_placeTurned 61 = .ok (.aload_n 0, 1) := by decide +kernel
theorem dX0_placeTurned_62 : decode cX0_placeTurned 62 = .ok (.getfield 17, 3) := by decide +kernel
theorem dX0_placeTurned_65 : decode cX0_placeTurned 65 = .ok (.imul, 1) := by decide +kernel
theorem dX0_placeTurned_66 : decode cX0_placeTurned 66 = .ok (.iload_n 3, 1) := by decide +kernel
theorem dX0_placeTurned_67 : decode cX0_placeTurned 67 = .ok (.iadd, 1) := by decide +kernel
theorem dX0_placeTurned_68 : decode cX0_placeTurned 68 = .ok (.ireturn, 1) := by decide +kernel
theorem dJ6_bitCount_0f7a4_0 : decode cJ6_bitCount_0f7a4 0 = .ok (.iload_n 0, 1) := by decide +kernel
theorem dJ6_bitCount_0f7a4_1 : decode cJ6_bitCount_0f7a4 1 = .ok (.iload_n 0, 1) := by decide +kernel
theorem dJ6_bitCount_0f7a4_2 : decode cJ6_bitCount_0f7a4 2 = .ok (.iconst 1, 1) := by decide +kernel
theorem dJ6_bitCount_0f7a4_3 : decode cJ6_bitCount_0f7a4 3 = .ok (.iushr, 1) := by decide +kernel
theorem dJ6_bitCount_0f7a4_4 : decode cJ6_bitCount_0f7a4 4 = .ok (.ldc_w 265, 3) := by decide +kernel
theorem dJ6_bitCount_0f7a4_7 : decode cJ6_bitCount_0f7a4 7 = .ok (.iand, 1) := by decide +kernel
theorem dJ6_bitCount_0f7a4_8 : decode cJ6_bitCount_0f7a4 8 = .ok (.isub, 1) := by decide +kernel
theorem dJ6_bitCount_0f7a4_9 : decode cJ6_bitCount_0f7a4 9 = .ok (.istore_n 0, 1) := by decide +kernel
theorem dJ6_bitCount_0f7a4_10 : decode cJ6_bitCount_0f7a4 10 = .ok (.iload_n 0, 1) := by decide +kernel
theorem dJ6_bitCount_0f7a4_11 : decode cJ6_bitCount_0f7a4 11 = .ok (.ldc_w 266, 3) := by decide +kernel
theorem dJ6_bitCount_0f7a4_14 : decode cJ6_bitCount_0f7a4 14 = .ok (.iand, 1) := by decide +kernel
theorem dJ6_bitCount_0f7a4_15 : decode cJ6_bitCount_0f7a4 15 = .ok (.iload_n 0, 1) := by decide +kernel
theorem dJ6_bitCount_0f7a4_16 : decode cJ6_bitCount_0f7a4 16 = .ok (.iconst 2, 1) := by decide +kernel
theorem dJ6_bitCount_0f7a4_17 : decode cJ6_bitCount_0f7a4 17 = .ok (.iushr, 1) := by decide +kernel
theorem dJ6_bitCount_0f7a4_18 : decode cJ6_bitCount_0f7a4 18 = .ok (.ldc_w 266, 3) := by decide +kernel
theorem dJ6_bitCount_0f7a4_21 : decode cJ6_bitCount_0f7a4 21 = .ok (.iand, 1) := by decide +kernel
theorem dJ6_bitCount_0f7a4_22 : decode cJ6_bitCount_0f7a4 22 = .ok (.iadd, 1) := by decide +kernel
theorem dJ6_bitCount_0f7a4_23 : decode cJ6_bitCount_0f7a4 23 = .ok (.istore_n 0, 1) := by decide +kernel
theorem dJ6_bitCount_0f7a4_24 : decode cJ6_bitCount_0f7a4 24 = .ok (.iload_n 0, 1) := by decide +kernel
theorem dJ6_bitCount_0f7a4_25 : decode cJ6_bitCount_0f7a4 25 = .ok (.iload_n 0, 1) := by decide +kernel
theorem dJ6_bitCount_0f7a4_26 : decode cJ6_bitCount_0f7a4 26 = .ok (.iconst 4, 1) := by decide +kernel
theorem dJ6_bitCount_0f7a4_27 : decode cJ6_bitCount_0f7a4 27 = .ok (.iushr, 1) := by decide +kernel
theorem dJ6_bitCount_0f7a4_28 : decode cJ6_bitCount_0f7a4 28 = .ok (.iadd, 1) := by decide +kernel
theorem dJ6_bitCount_0f7a4_29 : decode cJ6_bitCount_0f7a4 29 = .ok (.ldc_w 267, 3) := by decide +kernel
theorem dJ6_bitCount_0f7a4_32 : decode cJ6_bitCount_0f7a4 32 = .ok (.iand, 1) := by decide +kernel
theorem dJ6_bitCount_0f7a4_33 : decode cJ6_bitCount_0f7a4 33 = .ok (.istore_n 0, 1) := by decide +kernel
theorem dJ6_bitCount_0f7a4_34 : decode cJ6_bitCount_0f7a4 34 = .ok (.iload_n 0, 1) := by decide +kernel
theorem dJ6_bitCount_0f7a4_35 : decode cJ6_bitCount_0f7a4 35 = .ok (.iload_n 0, 1) := by decide +kernel
theorem dJ6_bitCount_0f7a4_36 : decode cJ6_bitCount_0f7a4 36 = .ok (.bipush 8, 2) := by decide +kernel
theorem dJ6_bitCount_0f7a4_38 : decode cJ6_bitCount_0f7a4 38 = .ok (.iushr, 1) := by decide +kernel
theorem dJ6_bitCount_0f7a4_39 : decode cJ6_bitCount_0f7a4 39 = .ok (.iadd, 1) := by decide +kernel
theorem dJ6_bitCount_0f7a4_40 : decode cJ6_bitCount_0f7a4 40 = .ok (.istore_n 0, 1) := by decide +kernel
theorem dJ6_bitCount_0f7a4_41 : decode cJ6_bitCount_0f7a4 41 = .ok (.iload_n 0, 1) := by decide +kernel
theorem dJ6_bitCount_0f7a4_42 : decode cJ6_bitCount_0f7a4 42 = .ok (.iload_n 0, 1) := by decide +kernel
theorem dJ6_bitCount_0f7a4_43 : decode cJ6_bitCount_0f7a4 43 = .ok (.bipush 16, 2) := by decide +kernel
theorem dJ6_bitCount_0f7a4_45 : decode cJ6_bitCount_0f7a4 45 = .ok (.iushr, 1) := by decide +kernel
theorem dJ6_bitCount_0f7a4_46 : decode cJ6_bitCount_0f7a4 46 = .ok (.iadd, 1) := by decide +kernel
theorem dJ6_bitCount_0f7a4_47 : decode cJ6_bitCount_0f7a4 47 = .ok (.istore_n 0, 1) := by decide +kernel
theorem dJ6_bitCount_0f7a4_48 : decode cJ6_bitCount_0f7a4 48 = .ok (.iload_n 0, 1) := by decide +kernel
theorem dJ6_bitCount_0f7a4_49 : decode cJ6_bitCount_0f7a4 49 = .ok (.bipush 63, 2) := by decide +kernel
theorem dJ6_bitCount_0f7a4_51 : decode cJ6_bitCount_0f7a4 51 = .ok (.iand, 1) := by decide +kernel
theorem dJ6_bitCount_0f7a4_52 : decode cJ6_bitCount_0f7a4 52 = .ok (.ireturn, 1) := by decide +kernel
theorem dJ13_bitCount_95d88_0 : decode cJ13_bitCount_95d88 0 = .ok (.lload_n 0, 1) := by decide +kernel
theorem dJ13_bitCount_95d88_1 : decode cJ13_bitCount_95d88 1 = .ok (.lload_n 0, 1) := by decide +kernel
theorem dJ13_bitCount_95d88_2 : decode cJ13_bitCount_95d88 2 = .ok (.iconst 1, 1) := by decide +kernel
theorem dJ13_bitCount_95d88_3 : decode cJ13_bitCount_95d88 3 = .ok (.lushr, 1) := by decide +kernel
theorem dJ13_bitCount_95d88_4 : decode cJ13_bitCount_95d88 4 = .ok (.ldc2_w 314, 3) := by decide +kernel
theorem dJ13_bitCount_95d88_7 : decode cJ13_bitCount_95d88 7 = .ok (.land, 1) := by decide +kernel
theorem dJ13_bitCount_95d88_8 : decode cJ13_bitCount_95d88 8 = .ok (.lsub, 1) := by decide +kernel
theorem dJ13_bitCount_95d88_9 : decode cJ13_bitCount_95d88 9 = .ok (.lstore_n 0, 1) := by decide +kernel
theorem dJ13_bitCount_95d88_10 : decode cJ13_bitCount_95d88 10 = .ok (.lload_n 0, 1) := by decide +kernel
theorem dJ13_bitCount_95d88_11 : decode cJ13_bitCount_95d88 11 = .ok (.ldc2_w 316, 3) := by decide +kernel
theorem dJ13_bitCount_95d88_14 : decode cJ13_bitCount_95d88 14 = .ok (.land, 1) := by decide +kernel
theorem dJ13_bitCount_95d88_15 : decode cJ13_bitCount_95d88 15 = .ok (.lload_n 0, 1) := by decide +kernel
theorem dJ13_bitCount_95d88_16 : decode cJ13_bitCount_95d88 16 = .ok (.iconst 2, 1) := by decide +kernel
theorem dJ13_bitCount_95d88_17 : decode cJ13_bitCount_95d88 17 = .ok (.lushr, 1) := by decide +kernel
theorem dJ13_bitCount_95d88_18 : decode cJ13_bitCount_95d88 18 = .ok (.ldc2_w 316, 3) := by decide +kernel
theorem dJ13_bitCount_95d88_21 : decode cJ13_bitCount_95d88 21 = .ok (.land, 1) := by decide +kernel
theorem dJ13_bitCount_95d88_22 : decode cJ13_bitCount_95d88 22 = .ok (.ladd, 1) := by decide +kernel
theorem dJ13_bitCount_95d88_23 : decode cJ13_bitCount_95d88 23 = .ok (.lstore_n 0, 1) := by decide +kernel
theorem dJ13_bitCount_95d88_24 : decode cJ13_bitCount_95d88 24 = .ok (.lload_n 0, 1) := by decide +kernel
theorem dJ13_bitCount_95d88_25 : decode cJ13_bitCount_95d88 25 = .ok (.lload_n 0, 1) := by decide +kernel
theorem dJ13_bitCount_95d88_26 : decode cJ13_bitCount_95d88 26 = .ok (.iconst 4, 1) := by decide +kernel
theorem dJ13_bitCount_95d88_27 : decode cJ13_bitCount_95d88 27 = .ok (.lushr, 1) := by decide +kernel
theorem dJ13_bitCount_95d88_28 : decode cJ13_bitCount_95d88 28 = .ok (.ladd, 1) := by decide +kernel
theorem dJ13_bitCount_95d88_29 : decode cJ13_bitCount_95d88 29 = .ok (.ldc2_w 318, 3) := by decide +kernel
theorem dJ13_bitCount_95d88_32 : decode cJ13_bitCount_95d88 32 = .ok (.land, 1) := by decide +kernel
theorem dJ13_bitCount_95d88_33 : decode cJ13_bitCount_95d88 33 = .ok (.lstore_n 0, 1) := by decide +kernel
theorem dJ13_bitCount_95d88_34 : decode cJ13_bitCount_95d88 34 = .ok (.lload_n 0, 1) := by decide +kernel
theorem dJ13_bitCount_95d88_35 : decode cJ13_bitCount_95d88 35 = .ok (.lload_n 0, 1) := by decide +kernel
theorem dJ13_bitCount_95d88_36 : decode cJ13_bitCount_95d88 36 = .ok (.bipush 8, 2) := by decide +kernel
theorem dJ13_bitCount_95d88_38 : decode cJ13_bitCount_95d88 38 = .ok (.lushr, 1) := by decide +kernel
theorem dJ13_bitCount_95d88_39 : decode cJ13_bitCount_95d88 39 = .ok (.ladd, 1) := by decide +kernel
theorem dJ13_bitCount_95d88_40 : decode cJ13_bitCount_95d88 40 = .ok (.lstore_n 0, 1) := by decide +kernel
theorem dJ13_bitCount_95d88_41 : decode cJ13_bitCount_95d88 41 = .ok (.lload_n 0, 1) := by decide +kernel
theorem dJ13_bitCount_95d88_42 : decode cJ13_bitCount_95d88 42 = .ok (.lload_n 0, 1) := by decide +kernel
theorem dJ13_bitCount_95d88_43 : decode cJ13_bitCount_95d88 43 = .ok (.bipush 16, 2) := by decide +kernel
theorem dJ13_bitCount_95d88_45 : decode cJ13_bitCount_95d88 45 = .ok (.lushr, 1) := by decide +kernel
theorem dJ13_bitCount_95d88_46 : decode cJ13_bitCount_95d88 46 = .ok (.ladd, 1) := by decide +kernel
theorem dJ13_bitCount_95d88_47 : decode cJ13_bitCount_95d88 47 = .ok (.lstore_n 0, 1) := by decide +kernel
theorem dJ13_bitCount_95d88_48 : decode cJ13_bitCount_95d88 48 = .ok (.lload_n 0, 1) := by decide +kernel
theorem dJ13_bitCount_95d88_49 : decode cJ13_bitCount_95d88 49 = .ok (.lload_n 0, 1) := by decide +kernel
theorem dJ13_bitCount_95d88_50 : decode cJ13_bitCount_95d88 50 = .ok (.bipush 32, 2) := by decide +kernel
theorem dJ13_bitCount_95d88_52 : decode cJ13_bitCount_95d88 52 = .ok (.lushr, 1) := by decide +kernel
theorem dJ13_bitCount_95d88_53 : decode cJ13_bitCount_95d88 53 = .ok (.ladd, 1) := by decide +kernel
theorem dJ13_bitCount_95d88_54 : decode cJ13_bitCount_95d88 54 = .ok (.lstore_n 0, 1) := by decide +kernel
theorem dJ13_bitCount_95d88_55 : decode cJ13_bitCount_95d88 55 = .ok (.lload_n 0, 1) := by decide +kernel
theorem dJ13_bitCount_95d88_56 : decode cJ13_bitCount_95d88 56 = .ok (.l2i, 1) := by decide +kernel
theorem dJ13_bitCount_95d88_57 : decode cJ13_bitCount_95d88 57 = .ok (.bipush 127, 2) := by decide +kernel
theorem dJ13_bitCount_95d88_59 : decode cJ13_bitCount_95d88 59 = .ok (.iand, 1) := by decide +kernel
theorem dJ13_bitCount_95d88_60 : decode cJ13_bitCount_95d88 60 = .ok (.ireturn, 1) := by decide +kernel

abbrev wsX00 : List Cond := u_ws RX0 TX0 8
abbrev cX0_pairsOf : ByteArray := prog_2_method_2_code
def yX0_pairsOf : MethodName := ⟨RX0, "pairsOf", "(I)I"⟩
abbrev cX0_bit : ByteArray := prog_2_method_3_code
def yX0_bit : MethodName := ⟨RX0, "bit", "(II)J"⟩
abbrev cX0_lineThrough : ByteArray := prog_2_method_4_code
def yX0_lineThrough : MethodName := ⟨RX0, "lineThrough", "(III)I"⟩
abbrev cX0_isSquare : ByteArray := prog_2_method_8_code
def yX0_isSquare : MethodName := ⟨RX0, "isSquare", "(I)Z"⟩
abbrev cX0_isPicture : ByteArray := prog_2_method_9_code
def yX0_isPicture : MethodName := ⟨RX0, "isPicture", "(J)Z"⟩
abbrev cX0_lineCount : ByteArray := prog_2_method_10_code
def yX0_lineCount : MethodName := ⟨RX0, "lineCount", "(I)I"⟩
abbrev cX0_isLine : ByteArray := prog_2_method_11_code
def yX0_isLine : MethodName := ⟨RX0, "isLine", "(II)Z"⟩
abbrev cX0_onesOfLine : ByteArray := prog_2_method_12_code
def yX0_onesOfLine : MethodName := ⟨RX0, "onesOfLine", "(IIJ)I"⟩
abbrev cX0_rowOf : ByteArray := prog_2_method_13_code
def yX0_rowOf : MethodName := ⟨RX0, "rowOf", "(JI)I"⟩
abbrev cX0_firstUnlikeWay : ByteArray := prog_2_method_14_code
def yX0_firstUnlikeWay : MethodName := ⟨RX0, "firstUnlikeWay", "(JJI)I"⟩
abbrev cX0_hasUnlikeLine : ByteArray := prog_2_method_15_code
def yX0_hasUnlikeLine : MethodName := ⟨RX0, "hasUnlikeLine", "(JJI)Z"⟩
abbrev cX0_behindFour : ByteArray := prog_2_method_16_code
def yX0_behindFour : MethodName := ⟨RX0, "behindFour", "(IJ)J"⟩
abbrev cX0_hangsTogether : ByteArray := prog_2_method_17_code
def yX0_hangsTogether : MethodName := ⟨RX0, "hangsTogether", "(J)Z"⟩
abbrev cX0_rowsAreWhole : ByteArray := prog_2_method_18_code
def yX0_rowsAreWhole : MethodName := ⟨RX0, "rowsAreWhole", "(J)Z"⟩
abbrev cX0_columnsAreWhole : ByteArray := prog_2_method_19_code
def yX0_columnsAreWhole : MethodName := ⟨RX0, "columnsAreWhole", "(J)Z"⟩
abbrev cX0_turnedPicture : ByteArray := prog_2_method_20_code
def yX0_turnedPicture : MethodName := ⟨RX0, "turnedPicture", "(JI)J"⟩
abbrev cX0_placeTurned : ByteArray := prog_2_method_21_code
def yX0_placeTurned : MethodName := ⟨RX0, "placeTurned", "(III)I"⟩
def RJ6 : String := "java/lang/Integer"
abbrev cJ6_bitCount_0f7a4 : ByteArray := prog_16_method_49_code
def yJ6_bitCount_0f7a4 : MethodName := ⟨RJ6, "bitCount", "(I)I"⟩
def RJ13 : String := "java/lang/Long"
abbrev cJ13_bitCount_95d88 : ByteArray := prog_17_method_50_code
def yJ13_bitCount_95d88 : MethodName := ⟨RJ13, "bitCount", "(J)I"⟩
def wsX0_pairsOf : List Cond := .code yX0_pairsOf cX0_pairsOf 1 (some .int) :: ([])
def wsX0_lineThrough : List Cond := .code yX0_lineThrough cX0_lineThrough 4 (some .int) :: ([.fieldLink RX0 17 "ShadowBench$Board" "high" "I"] ++ wsX00)
def wsX0_bit : List Cond := .code yX0_bit cX0_bit 3 (some .long) :: ([.fieldLink RX0 13 "ShadowBench$Board" "wide" "I"] ++ wsX00)
def wsX0_isSquare : List Cond := .code yX0_isSquare cX0_isSquare 2 (some .boolean) :: ([.fieldLink RX0 20 "ShadowBench$Board" "squares" "I"] ++ wsX00)
def wsX0_isPicture : List Cond := .code yX0_isPicture cX0_isPicture 3 (some .boolean) :: ([.fieldLink RX0 20 "ShadowBench$Board" "squares" "I"] ++ wsX00)
def wsX0_lineCount : List Cond := .code yX0_lineCount cX0_lineCount 2 (some .int) :: ([.fieldLink RX0 17 "ShadowBench$Board" "high" "I", .fieldLink RX0 13 "ShadowBench$Board" "wide" "I"] ++ wsX00)
def wsX0_isLine : List Cond := .code yX0_isLine cX0_isLine 3 (some .boolean) :: ([.methodLink RX0 56 yX0_lineCount, .instanceMethod yX0_lineCount, .selects RX0 yX0_lineCount yX0_lineCount, .initialized RX0, .code yX0_lineCount cX0_lineCount 2 (some .int), .fieldLink RX0 17 "ShadowBench$Board" "high" "I", .fieldLink RX0 13 "ShadowBench$Board" "wide" "I"] ++ wsX00)
def wsJ13_bitCount_95d88 : List Cond := .code yJ13_bitCount_95d88 cJ13_bitCount_95d88 2 (some .int) :: ([.constantLong RJ13 314 (6148914691236517205), .constantLong RJ13 316 (3689348814741910323), .constantLong RJ13 318 (1085102592571150095)])
def wsX0_onesOfLine : List Cond := .code yX0_onesOfLine cX0_onesOfLine 6 (some .int) :: ([.fieldLink RX0 9 "ShadowBench$Board" "lines" "[J", .methodLink RX0 59 yJ13_bitCount_95d88, .static yJ13_bitCount_95d88, .initialized RJ13, .code yJ13_bitCount_95d88 cJ13_bitCount_95d88 2 (some .int), .constantLong RJ13 314 (6148914691236517205), .constantLong RJ13 316 (3689348814741910323), .constantLong RJ13 318 (1085102592571150095)] ++ wsX00)
def wsX0_rowOf : List Cond := .code yX0_rowOf cX0_rowOf 4 (some .int) :: ([.fieldLink RX0 13 "ShadowBench$Board" "wide" "I", .fieldLink RX0 23 "ShadowBench$Board" "rowNumbers" "I"] ++ wsX00)
def wsX0_hasUnlikeLine : List Cond := .code yX0_hasUnlikeLine cX0_hasUnlikeLine 7 (some .boolean) :: ([.methodLink RX0 56 yX0_lineCount, .instanceMethod yX0_lineCount, .selects RX0 yX0_lineCount yX0_lineCount, .initialized RX0, .code yX0_lineCount cX0_lineCount 2 (some .int), .fieldLink RX0 17 "ShadowBench$Board" "high" "I", .fieldLink RX0 13 "ShadowBench$Board" "wide" "I", .methodLink RX0 69 yX0_onesOfLine, .instanceMethod yX0_onesOfLine, .selects RX0 yX0_onesOfLine yX0_onesOfLine, .code yX0_onesOfLine cX0_onesOfLine 6 (some .int), .fieldLink RX0 9 "ShadowBench$Board" "lines" "[J", .methodLink RX0 59 yJ13_bitCount_95d88, .static yJ13_bitCount_95d88, .initialized RJ13, .code yJ13_bitCount_95d88 cJ13_bitCount_95d88 2 (some .int), .constantLong RJ13 314 (6148914691236517205), .constantLong RJ13 316 (3689348814741910323), .constantLong RJ13 318 (1085102592571150095)] ++ wsX00)
def wsX0_firstUnlikeWay : List Cond := .code yX0_firstUnlikeWay cX0_firstUnlikeWay 7 (some .int) :: ([.methodLink RX0 65 yX0_hasUnlikeLine, .instanceMethod yX0_hasUnlikeLine, .selects RX0 yX0_hasUnlikeLine yX0_hasUnlikeLine, .initialized RX0, .code yX0_hasUnlikeLine cX0_hasUnlikeLine 7 (some .boolean), .methodLink RX0 56 yX0_lineCount, .instanceMethod yX0_lineCount, .selects RX0 yX0_lineCount yX0_lineCount, .code yX0_lineCount cX0_lineCount 2 (some .int), .fieldLink RX0 17 "ShadowBench$Board" "high" "I", .fieldLink RX0 13 "ShadowBench$Board" "wide" "I", .methodLink RX0 69 yX0_onesOfLine, .instanceMethod yX0_onesOfLine, .selects RX0 yX0_onesOfLine yX0_onesOfLine, .code yX0_onesOfLine cX0_onesOfLine 6 (some .int), .fieldLink RX0 9 "ShadowBench$Board" "lines" "[J", .methodLink RX0 59 yJ13_bitCount_95d88, .static yJ13_bitCount_95d88, .initialized RJ13, .code yJ13_bitCount_95d88 cJ13_bitCount_95d88 2 (some .int), .constantLong RJ13 314 (6148914691236517205), .constantLong RJ13 316 (3689348814741910323), .constantLong RJ13 318 (1085102592571150095)] ++ wsX00)
def wsX0_behindFour : List Cond := .code yX0_behindFour cX0_behindFour 9 (some .long) :: ([.fieldLink RX0 30 "ShadowBench$Board" "fours" "I", .fieldLink RX0 33 "ShadowBench$Board" "falling" "[J", .fieldLink RX0 36 "ShadowBench$Board" "rising" "[J"] ++ wsX00)
def wsX0_hangsTogether : List Cond := .code yX0_hangsTogether cX0_hangsTogether 14 (some .boolean) :: ([.fieldLink RX0 9 "ShadowBench$Board" "lines" "[J", .fieldLink RX0 13 "ShadowBench$Board" "wide" "I", .fieldLink RX0 20 "ShadowBench$Board" "squares" "I", .constantLong RX0 73 (-1)] ++ wsX00)
def wsX0_rowsAreWhole : List Cond := .code yX0_rowsAreWhole cX0_rowsAreWhole 5 (some .boolean) :: ([.fieldLink RX0 17 "ShadowBench$Board" "high" "I", .methodLink RX0 75 yX0_rowOf, .instanceMethod yX0_rowOf, .selects RX0 yX0_rowOf yX0_rowOf, .initialized RX0, .code yX0_rowOf cX0_rowOf 4 (some .int), .fieldLink RX0 13 "ShadowBench$Board" "wide" "I", .fieldLink RX0 23 "ShadowBench$Board" "rowNumbers" "I"] ++ wsX00)
def wsX0_columnsAreWhole : List Cond := .code yX0_columnsAreWhole cX0_columnsAreWhole 7 (some .boolean) :: ([.fieldLink RX0 17 "ShadowBench$Board" "high" "I", .methodLink RX0 75 yX0_rowOf, .instanceMethod yX0_rowOf, .selects RX0 yX0_rowOf yX0_rowOf, .initialized RX0, .code yX0_rowOf cX0_rowOf 4 (some .int), .fieldLink RX0 13 "ShadowBench$Board" "wide" "I", .fieldLink RX0 23 "ShadowBench$Board" "rowNumbers" "I"] ++ wsX00)
def wsX0_placeTurned : List Cond := .code yX0_placeTurned cX0_placeTurned 4 (some .int) :: ([.fieldLink RX0 17 "ShadowBench$Board" "high" "I", .fieldLink RX0 13 "ShadowBench$Board" "wide" "I"] ++ wsX00)
def wsX0_turnedPicture : List Cond := .code yX0_turnedPicture cX0_turnedPicture 8 (some .long) :: ([.constantLong RX0 73 (-1), .fieldLink RX0 20 "ShadowBench$Board" "squares" "I", .fieldLink RX0 17 "ShadowBench$Board" "high" "I", .fieldLink RX0 13 "ShadowBench$Board" "wide" "I", .methodLink RX0 49 yX0_bit, .instanceMethod yX0_bit, .selects RX0 yX0_bit yX0_bit, .initialized RX0, .code yX0_bit cX0_bit 3 (some .long), .methodLink RX0 79 yX0_placeTurned, .instanceMethod yX0_placeTurned, .selects RX0 yX0_placeTurned yX0_placeTurned, .code yX0_placeTurned cX0_placeTurned 4 (some .int)] ++ wsX00)
def wsJ6_bitCount_0f7a4 : List Cond := .code yJ6_bitCount_0f7a4 cJ6_bitCount_0f7a4 1 (some .int) :: ([.constant RJ6 265 (1431655765), .constant RJ6 266 (858993459), .constant RJ6 267 (252645135)])
theorem dX0_pairsOf_0 : decode cX0_pairsOf 0 = .ok (.iload_n 0, 1) := by decide +kernel
theorem dX0_pairsOf_1 : decode cX0_pairsOf 1 = .ok (.iconst 1, 1) := by decide +kernel
theorem dX0_pairsOf_2 : decode cX0_pairsOf 2 = .ok (.if_icmp .le 13, 3) := by decide +kernel
theorem dX0_pairsOf_5 : decode cX0_pairsOf 5 = .ok (.iload_n 0, 1) := by decide +kernel
theorem dX0_pairsOf_6 : decode cX0_pairsOf 6 = .ok (.iload_n 0, 1) := by decide +kernel
theorem dX0_pairsOf_7 : decode cX0_pairsOf 7 = .ok (.iconst 1, 1) := by decide +kernel
theorem dX0_pairsOf_8 : decode cX0_pairsOf 8 = .ok (.isub, 1) := by decide +kernel
theorem dX0_pairsOf_9 : decode cX0_pairsOf 9 = .ok (.imul, 1) := by decide +kernel
theorem dX0_pairsOf_10 : decode cX0_pairsOf 10 = .ok (.iconst 2, 1) := by decide +kernel
theorem dX0_pairsOf_11 : decode cX0_pairsOf 11 = .ok (.idiv, 1) := by decide +kernel
theorem dX0_pairsOf_12 : decode cX0_pairsOf 12 = .ok (.goto 4, 3) := by decide +kernel
theorem dX0_pairsOf_15 : decode cX0_pairsOf 15 = .ok (.iconst 0, 1) := by decide +kernel
theorem dX0_pairsOf_16 : decode cX0_pairsOf 16 = .ok (.ireturn, 1) := by decide +kernel
theorem dX0_bit_0 : decode cX0_bit 0 = .ok (.lconst 1, 1) := by decide +kernel
theorem dX0_bit_1 : decode cX0_bit 1 = .ok (.iload_n 2, 1) := by decide +kernel
theorem dX0_bit_2 : decode cX0_bit 2 = .ok (.aload_n 0, 1) := by decide +kernel
theorem dX0_bit_3 : decode cX0_bit 3 = .ok (.getfield 13, 3) := by decide +kernel
theorem dX0_bit_6 : decode cX0_bit 6 = .ok (.imul, 1) := by decide +kernel
theorem dX0_bit_7 : decode cX0_bit 7 = .ok (.iload_n 1, 1) := by decide +kernel
theorem dX0_bit_8 : decode cX0_bit 8 = .ok (.iadd, 1) := by decide +kernel
theorem dX0_bit_9 : decode cX0_bit 9 = .ok (.lshl, 1) := by decide +kernel
theorem dX0_bit_10 : decode cX0_bit 10 = .ok (.lreturn, 1) := by decide +kernel
theorem dX0_lineThrough_0 : decode cX0_lineThrough 0 = .ok (.iload_n 1, 1) := by decide +kernel
theorem dX0_lineThrough_1 : decode cX0_lineThrough 1 = .ok (.tableswitch 42 0 2 #[27, 29, 31], 27) := by decide +kernel
theorem dX0_lineThrough_28 : decode cX0_lineThrough 28 = .ok (.iload_n 3, 1) := by decide +kernel
theorem dX0_lineThrough_29 : decode cX0_lineThrough 29 = .ok (.ireturn, 1) := by decide +kernel
theorem dX0_lineThrough_30 : decode cX0_lineThrough 30 = .ok (.iload_n 2, 1) := by decide +kernel
theorem dX0_lineThrough_31 : decode cX0_lineThrough 31 = .ok (.ireturn, 1) := by decide +kernel
theorem dX0_lineThrough_32 : decode cX0_lineThrough 32 = .ok (.iload_n 2, 1) := by decide +kernel
theorem dX0_lineThrough_33 : decode cX0_lineThrough 33 = .ok (.iload_n 3, 1) := by decide +kernel
theorem dX0_lineThrough_34 : decode cX0_lineThrough 34 = .ok (.isub, 1) := by decide +kernel
theorem dX0_lineThrough_35 : decode cX0_lineThrough 35 = .ok (.aload_n 0, 1) := by decide +kernel
theorem dX0_lineThrough_36 : decode cX0_lineThrough 36 = .ok (.getfield 17, 3) := by decide +kernel
theorem dX0_lineThrough_39 : decode cX0_lineThrough 39 = .ok (.iadd, 1) := by decide +kernel
theorem dX0_lineThrough_40 : decode cX0_lineThrough 40 = .ok (.iconst 1, 1) := by decide +kernel
theorem dX0_lineThrough_41 : decode cX0_lineThrough 41 = .ok (.isub, 1) := by decide +kernel
theorem dX0_lineThrough_42 : decode cX0_lineThrough 42 = .ok (.ireturn, 1) := by decide +kernel
theorem dX0_lineThrough_43 : decode cX0_lineThrough 43 = .ok (.iload_n 2, 1) := by decide +kernel
theorem dX0_lineThrough_44 : decode cX0_lineThrough 44 = .ok (.iload_n 3, 1) := by decide +kernel
theorem dX0_lineThrough_45 : decode cX0_lineThrough 45 = .ok (.iadd, 1) := by decide +kernel
theorem dX0_lineThrough_46 : decode cX0_lineThrough 46 = .ok (.ireturn, 1) := by decide +kernel
theorem dX0_isSquare_0 : decode cX0_isSquare 0 = .ok (.iload_n 1, 1) := by decide +kernel
theorem dX0_isSquare_1 : decode cX0_isSquare 1 = .ok (.ifCond .lt 15, 3) := by decide +kernel
theorem dX0_isSquare_4 : decode cX0_isSquare 4 = .ok (.iload_n 1, 1) := by decide +kernel
theorem dX0_isSquare_5 : decode cX0_isSquare 5 = .ok (.aload_n 0, 1) := by decide +kernel
theorem dX0_isSquare_6 : decode cX0_isSquare 6 = .ok (.getfield 20, 3) := by decide +kernel
theorem dX0_isSquare_9 : decode cX0_isSquare 9 = .ok (.if_icmp .ge 7, 3) := by decide +kernel
theorem dX0_isSquare_12 : decode cX0_isSquare 12 = .ok (.iconst 1, 1) := by decide +kernel
theorem dX0_isSquare_13 : decode cX0_isSquare 13 = .ok (.goto 4, 3) := by decide +kernel
theorem dX0_isSquare_16 : decode cX0_isSquare 16 = .ok (.iconst 0, 1) := by decide +kernel
theorem dX0_isSquare_17 : decode cX0_isSquare 17 = .ok (.ireturn, 1) := by decide +kernel
theorem dX0_isPicture_0 : decode cX0_isPicture 0 = .ok (.lload_n 1, 1) := by decide +kernel
theorem dX0_isPicture_1 : decode cX0_isPicture 1 = .ok (.aload_n 0, 1) := by decide +kernel
theorem dX0_isPicture_2 : decode cX0_isPicture 2 = .ok (.getfield 20, 3) := by decide +kernel
theorem dX0_isPicture_5 : decode cX0_isPicture 5 = .ok (.lushr, 1) := by decide +kernel
theorem dX0_isPicture_6 : decode cX0_isPicture 6 = .ok (.lconst 0, 1) := by decide +kernel
theorem dX0_isPicture_7 : decode cX0_isPicture 7 = .ok (.lcmp, 1) := by decide +kernel
theorem dX0_isPicture_8 : decode cX0_isPicture 8 = .ok (.ifCond .ne 7, 3) := by decide +kernel
theorem dX0_isPicture_11 : decode cX0_isPicture 11 = .ok (.iconst 1, 1) := by decide +kernel
theorem dX0_isPicture_12 : decode cX0_isPicture 12 = .ok (.goto 4, 3) := by decide +kernel
theorem dX0_isPicture_15 : decode cX0_isPicture 15 = .ok (.iconst 0, 1) := by decide +kernel
theorem dX0_isPicture_16 : decode cX0_isPicture 16 = .ok (.ireturn, 1) := by decide +kernel
theorem dX0_lineCount_0 : decode cX0_lineCount 0 = .ok (.iload_n 1, 1) := by decide +kernel
theorem dX0_lineCount_1 : decode cX0_lineCount 1 = .ok (.lookupswitch 37 #[(0, 27), (1, 32)], 27) := by decide +kernel
theorem dX0_lineCount_28 : decode cX0_lineCount 28 = .ok (.aload_n 0, 1) := by decide +kernel
theorem dX0_lineCount_29 : decode cX0_lineCount 29 = .ok (.getfield 17, 3) := by decide +kernel
theorem dX0_lineCount_32 : decode cX0_lineCount 32 = .ok (.ireturn, 1) := by decide +kernel
theorem dX0_lineCount_33 : decode cX0_lineCount 33 = .ok (.aload_n 0, 1) := by decide +kernel
theorem dX0_lineCount_34 : decode cX0_lineCount 34 = .ok (.getfield 13, 3) := by decide +kernel
theorem dX0_lineCount_37 : decode cX0_lineCount 37 = .ok (.ireturn, 1) := by decide +kernel
theorem dX0_lineCount_38 : decode cX0_lineCount 38 = .ok (.aload_n 0, 1) := by decide +kernel
theorem dX0_lineCount_39 : decode cX0_lineCount 39 = .ok (.getfield 13, 3) := by decide +kernel
theorem dX0_lineCount_42 : decode cX0_lineCount 42 = .ok (.aload_n 0, 1) := by decide +kernel
theorem dX0_lineCount_43 : decode cX0_lineCount 43 = .ok (.getfield 17, 3) := by decide +kernel
theorem dX0_lineCount_46 : decode cX0_lineCount 46 = .ok (.iadd, 1) := by decide +kernel
theorem dX0_lineCount_47 : decode cX0_lineCount 47 = .ok (.iconst 1, 1) := by decide +kernel
theorem dX0_lineCount_48 : decode cX0_lineCount 48 = .ok (.isub, 1) := by decide +kernel
theorem dX0_lineCount_49 : decode cX0_lineCount 49 = .ok (.ireturn, 1) := by decide +kernel
def chX0_isLine : List (List Cond) := [[.methodLink RX0 56 yX0_lineCount, .instanceMethod yX0_lineCount, .selects RX0 yX0_lineCount yX0_lineCount, .initialized RX0, .code yX0_lineCount cX0_lineCount 2 (some .int), .fieldLink RX0 17 "ShadowBench$Board" "high" "I", .fieldLink RX0 13 "ShadowBench$Board" "wide" "I"], wsX00]
set_option maxRecDepth 20000 in
theorem chX0_isLine_in : ∀ c ∈ chX0_isLine, ∀ w ∈ c, w ∈ wsX0_isLine := (all_c (P := fun c => ∀ w ∈ c, w ∈ wsX0_isLine) (fun w h => List.mem_cons_of_mem _ (List.mem_append_left _ (h))) (all_c (P := fun c => ∀ w ∈ c, w ∈ wsX0_isLine) (fun w h => List.mem_cons_of_mem _ (List.mem_append_right _ (h))) (fun _ h => nomatch h)))
set_option maxRecDepth 20000 in
theorem ggX0_isLine_X0_lineCount : GoodIn wsX0_isLine wsX0_lineCount := goodIn_ca (goodIn_c chX0_isLine chX0_isLine_in _ [(0, 4), (0, 5), (0, 6)] (by rfl) (by decide +kernel)) (goodIn_sub (fun _ h => List.mem_cons_of_mem _ (List.mem_append_right _ (h))) (by decide +kernel))
set_option maxRecDepth 20000 in
theorem gX0_isLine_X0_lineCount : GoodIn wsX0_isLine (wsV RX0 56 RX0 yX0_lineCount wsX0_lineCount) := goodIn_app (goodIn_c chX0_isLine chX0_isLine_in _ [(0, 0), (0, 1), (0, 2), (0, 3)] (by rfl) (by decide +kernel)) ggX0_isLine_X0_lineCount
theorem dX0_isLine_0 : decode cX0_isLine 0 = .ok (.iload_n 1, 1) := by decide +kernel
theorem dX0_isLine_1 : decode cX0_isLine 1 = .ok (.ifCond .lt 25, 3) := by decide +kernel
theorem dX0_isLine_4 : decode cX0_isLine 4 = .ok (.iload_n 1, 1) := by decide +kernel
theorem dX0_isLine_5 : decode cX0_isLine 5 = .ok (.iconst 4, 1) := by decide +kernel
theorem dX0_isLine_6 : decode cX0_isLine 6 = .ok (.if_icmp .ge 20, 3) := by decide +kernel
theorem dX0_isLine_9 : decode cX0_isLine 9 = .ok (.iload_n 2, 1) := by decide +kernel
theorem dX0_isLine_10 : decode cX0_isLine 10 = .ok (.ifCond .lt 16, 3) := by decide +kernel
theorem dX0_isLine_13 : decode cX0_isLine 13 = .ok (.iload_n 2, 1) := by decide +kernel
theorem dX0_isLine_14 : decode cX0_isLine 14 = .ok (.aload_n 0, 1) := by decide +kernel
theorem dX0_isLine_15 : decode cX0_isLine 15 = .ok (.iload_n 1, 1) := by decide +kernel
theorem dX0_isLine_16 : decode cX0_isLine 16 = .ok (.invokevirtual 56, 3) := by decide +kernel
theorem dX0_isLine_19 : decode cX0_isLine 19 = .ok (.if_icmp .ge 7, 3) := by decide +kernel
theorem dX0_isLine_22 : decode cX0_isLine 22 = .ok (.iconst 1, 1) := by decide +kernel
theorem dX0_isLine_23 : decode cX0_isLine 23 = .ok (.goto 4, 3) := by decide +kernel
theorem dX0_isLine_26 : decode cX0_isLine 26 = .ok (.iconst 0, 1) := by decide +kernel
theorem dX0_isLine_27 : decode cX0_isLine 27 = .ok (.ireturn, 1) := by decide +kernel
set_option maxRecDepth 20000 in
theorem ggX0_onesOfLine_J13_bitCount_95d88 : GoodIn wsX0_onesOfLine wsJ13_bitCount_95d88 := goodIn_r _ [5, 6, 7, 8] (by decide +kernel) (by decide +kernel)
def chX0_onesOfLine : List (List Cond) := [[.fieldLink RX0 9 "ShadowBench$Board" "lines" "[J", .methodLink RX0 59 yJ13_bitCount_95d88, .static yJ13_bitCount_95d88, .initialized RJ13, .code yJ13_bitCount_95d88 cJ13_bitCount_95d88 2 (some .int), .constantLong RJ13 314 (6148914691236517205), .constantLong RJ13 316 (3689348814741910323), .constantLong RJ13 318 (1085102592571150095)], wsX00]
set_option maxRecDepth 20000 in
theorem chX0_onesOfLine_in : ∀ c ∈ chX0_onesOfLine, ∀ w ∈ c, w ∈ wsX0_onesOfLine := (all_c (P := fun c => ∀ w ∈ c, w ∈ wsX0_onesOfLine) (fun w h => List.mem_cons_of_mem _ (List.mem_append_left _ (h))) (all_c (P := fun c => ∀ w ∈ c, w ∈ wsX0_onesOfLine) (fun w h => List.mem_cons_of_mem _ (List.mem_append_right _ (h))) (fun _ h => nomatch h)))
set_option maxRecDepth 20000 in
theorem gX0_onesOfLine_J13_bitCount_95d88 : GoodIn wsX0_onesOfLine (va_wsS RX0 59 yJ13_bitCount_95d88 wsJ13_bitCount_95d88) := goodIn_app (goodIn_c chX0_onesOfLine chX0_onesOfLine_in _ [(0, 1), (0, 2), (0, 3)] (by rfl) (by decide +kernel)) ggX0_onesOfLine_J13_bitCount_95d88
theorem dX0_onesOfLine_0 : decode cX0_onesOfLine 0 = .ok (.iload_n 1, 1) := by decide +kernel
theorem dX0_onesOfLine_1 : decode cX0_onesOfLine 1 = .ok (.bipush 11, 2) := by decide +kernel
theorem dX0_onesOfLine_3 : decode cX0_onesOfLine 3 = .ok (.imul, 1) := by decide +kernel
theorem dX0_onesOfLine_4 : decode cX0_onesOfLine 4 = .ok (.iload_n 2, 1) := by decide +kernel
theorem dX0_onesOfLine_5 : decode cX0_onesOfLine 5 = .ok (.iadd, 1) := by decide +kernel
theorem dX0_onesOfLine_6 : decode cX0_onesOfLine 6 = .ok (.istore 5, 2) := by decide +kernel
theorem dX0_onesOfLine_8 : decode cX0_onesOfLine 8 = .ok (.iload 5, 2) := by decide +kernel
theorem dX0_onesOfLine_10 : decode cX0_onesOfLine 10 = .ok (.ifCond .lt 28, 3) := by decide +kernel
theorem dX0_onesOfLine_13 : decode cX0_onesOfLine 13 = .ok (.iload 5, 2) := by decide +kernel
theorem dX0_onesOfLine_15 : decode cX0_onesOfLine 15 = .ok (.aload_n 0, 1) := by decide +kernel
theorem dX0_onesOfLine_16 : decode cX0_onesOfLine 16 = .ok (.getfield 9, 3) := by decide +kernel
theorem dX0_onesOfLine_19 : decode cX0_onesOfLine 19 = .ok (.arraylength, 1) := by decide +kernel
theorem dX0_onesOfLine_20 : decode cX0_onesOfLine 20 = .ok (.if_icmp .ge 18, 3) := by decide +kernel
theorem dX0_onesOfLine_23 : decode cX0_onesOfLine 23 = .ok (.lload_n 3, 1) := by decide +kernel
theorem dX0_onesOfLine_24 : decode cX0_onesOfLine 24 = .ok (.aload_n 0, 1) := by decide +kernel
theorem dX0_onesOfLine_25 : decode cX0_onesOfLine 25 = .ok (.getfield 9, 3) := by decide +kernel
theorem dX0_onesOfLine_28 : decode cX0_onesOfLine 28 = .ok (.iload 5, 2) := by decide +kernel
theorem dX0_onesOfLine_30 : decode cX0_onesOfLine 30 = .ok (.laload, 1) := by decide +kernel
theorem dX0_onesOfLine_31 : decode cX0_onesOfLine 31 = .ok (.land, 1) := by decide +kernel
theorem dX0_onesOfLine_32 : decode cX0_onesOfLine 32 = .ok (.invokestatic 59, 3) := by decide +kernel
theorem dX0_onesOfLine_35 : decode cX0_onesOfLine 35 = .ok (.goto 4, 3) := by decide +kernel
theorem dX0_onesOfLine_38 : decode cX0_onesOfLine 38 = .ok (.iconst 0, 1) := by decide +kernel
theorem dX0_onesOfLine_39 : decode cX0_onesOfLine 39 = .ok (.ireturn, 1) := by decide +kernel
theorem dX0_rowOf_0 : decode cX0_rowOf 0 = .ok (.lload_n 1, 1) := by decide +kernel
theorem dX0_rowOf_1 : decode cX0_rowOf 1 = .ok (.iload_n 3, 1) := by decide +kernel
theorem dX0_rowOf_2 : decode cX0_rowOf 2 = .ok (.aload_n 0, 1) := by decide +kernel
theorem dX0_rowOf_3 : decode cX0_rowOf 3 = .ok (.getfield 13, 3) := by decide +kernel
theorem dX0_rowOf_6 : decode cX0_rowOf 6 = .ok (.imul, 1) := by decide +kernel
theorem dX0_rowOf_7 : decode cX0_rowOf 7 = .ok (.lushr, 1) := by decide +kernel
theorem dX0_rowOf_8 : decode cX0_rowOf 8 = .ok (.l2i, 1) := by decide +kernel
theorem dX0_rowOf_9 : decode cX0_rowOf 9 = .ok (.aload_n 0, 1) := by decide +kernel
theorem dX0_rowOf_10 : decode cX0_rowOf 10 = .ok (.getfield 23, 3) := by decide +kernel
theorem dX0_rowOf_13 : decode cX0_rowOf 13 = .ok (.iconst 1, 1) := by decide +kernel
theorem dX0_rowOf_14 : decode cX0_rowOf 14 = .ok (.isub, 1) := by decide +kernel
theorem dX0_rowOf_15 : decode cX0_rowOf 15 = .ok (.iand, 1) := by decide +kernel
theorem dX0_rowOf_16 : decode cX0_rowOf 16 = .ok (.ireturn, 1) := by decide +kernel
def chX0_firstUnlikeWay : List (List Cond) := [[.methodLink RX0 65 yX0_hasUnlikeLine, .instanceMethod yX0_hasUnlikeLine, .selects RX0 yX0_hasUnlikeLine yX0_hasUnlikeLine, .initialized RX0, .code yX0_hasUnlikeLine cX0_hasUnlikeLine 7 (some .boolean), .methodLink RX0 56 yX0_lineCount, .instanceMethod yX0_lineCount, .selects RX0 yX0_lineCount yX0_lineCount, .code yX0_lineCount cX0_lineCount 2 (some .int), .fieldLink RX0 17 "ShadowBench$Board" "high" "I", .fieldLink RX0 13 "ShadowBench$Board" "wide" "I", .methodLink RX0 69 yX0_onesOfLine, .instanceMethod yX0_onesOfLine, .selects RX0 yX0_onesOfLine yX0_onesOfLine, .code yX0_onesOfLine cX0_onesOfLine 6 (some .int), .fieldLink RX0 9 "ShadowBench$Board" "lines" "[J", .methodLink RX0 59 yJ13_bitCount_95d88, .static yJ13_bitCount_95d88, .initialized RJ13, .code yJ13_bitCount_95d88 cJ13_bitCount_95d88 2 (some .int), .constantLong RJ13 314 (6148914691236517205), .constantLong RJ13 316 (3689348814741910323), .constantLong RJ13 318 (1085102592571150095)], wsX00]
set_option maxRecDepth 20000 in
theorem chX0_firstUnlikeWay_in : ∀ c ∈ chX0_firstUnlikeWay, ∀ w ∈ c, w ∈ wsX0_firstUnlikeWay := (all_c (P := fun c => ∀ w ∈ c, w ∈ wsX0_firstUnlikeWay) (fun w h => List.mem_cons_of_mem _ (List.mem_append_left _ (h))) (all_c (P := fun c => ∀ w ∈ c, w ∈ wsX0_firstUnlikeWay) (fun w h => List.mem_cons_of_mem _ (List.mem_append_right _ (h))) (fun _ h => nomatch h)))
set_option maxRecDepth 20000 in
theorem ggX0_firstUnlikeWay_X0_hasUnlikeLine : GoodIn wsX0_firstUnlikeWay wsX0_hasUnlikeLine := goodIn_ca (goodIn_c chX0_firstUnlikeWay chX0_firstUnlikeWay_in _ [(0, 4), (0, 5), (0, 6), (0, 7), (0, 3), (0, 8), (0, 9), (0, 10), (0, 11), (0, 12), (0, 13), (0, 14), (0, 15), (0, 16), (0, 17), (0, 18), (0, 19), (0, 20), (0, 21), (0, 22)] (by rfl) (by decide +kernel)) (goodIn_sub (fun _ h => List.mem_cons_of_mem _ (List.mem_append_right _ (h))) (by decide +kernel))
set_option maxRecDepth 20000 in
theorem gX0_firstUnlikeWay_X0_hasUnlikeLine : GoodIn wsX0_firstUnlikeWay (wsV RX0 65 RX0 yX0_hasUnlikeLine wsX0_hasUnlikeLine) := goodIn_app (goodIn_c chX0_firstUnlikeWay chX0_firstUnlikeWay_in _ [(0, 0), (0, 1), (0, 2), (0, 3)] (by rfl) (by decide +kernel)) ggX0_firstUnlikeWay_X0_hasUnlikeLine
theorem dX0_firstUnlikeWay_0 : decode cX0_firstUnlikeWay 0 = .ok (.iconst 0, 1) := by decide +kernel
theorem dX0_firstUnlikeWay_1 : decode cX0_firstUnlikeWay 1 = .ok (.istore 6, 2) := by decide +kernel
theorem dX0_firstUnlikeWay_3 : decode cX0_firstUnlikeWay 3 = .ok (.iload 6, 2) := by decide +kernel
theorem dX0_firstUnlikeWay_5 : decode cX0_firstUnlikeWay 5 = .ok (.iconst 4, 1) := by decide +kernel
theorem dX0_firstUnlikeWay_6 : decode cX0_firstUnlikeWay 6 = .ok (.if_icmp .ge 34, 3) := by decide +kernel
theorem dX0_firstUnlikeWay_9 : decode cX0_firstUnlikeWay 9 = .ok (.iload 5, 2) := by decide +kernel
theorem dX0_firstUnlikeWay_11 : decode cX0_firstUnlikeWay 11 = .ok (.iload 6, 2) := by decide +kernel
theorem dX0_firstUnlikeWay_13 : decode cX0_firstUnlikeWay 13 = .ok (.ishr, 1) := by decide +kernel
theorem dX0_firstUnlikeWay_14 : decode cX0_firstUnlikeWay 14 = .ok (.iconst 1, 1) := by decide +kernel
theorem dX0_firstUnlikeWay_15 : decode cX0_firstUnlikeWay 15 = .ok (.iand, 1) := by decide +kernel
theorem dX0_firstUnlikeWay_16 : decode cX0_firstUnlikeWay 16 = .ok (.iconst 1, 1) := by decide +kernel
theorem dX0_firstUnlikeWay_17 : decode cX0_firstUnlikeWay 17 = .ok (.if_icmp .ne 17, 3) := by decide +kernel
theorem dX0_firstUnlikeWay_20 : decode cX0_firstUnlikeWay 20 = .ok (.aload_n 0, 1) := by decide +kernel
theorem dX0_firstUnlikeWay_21 : decode cX0_firstUnlikeWay 21 = .ok (.lload_n 1, 1) := by decide +kernel
theorem dX0_firstUnlikeWay_22 : decode cX0_firstUnlikeWay 22 = .ok (.lload_n 3, 1) := by decide +kernel
theorem dX0_firstUnlikeWay_23 : decode cX0_firstUnlikeWay 23 = .ok (.iload 6, 2) := by decide +kernel
theorem dX0_firstUnlikeWay_25 : decode cX0_firstUnlikeWay 25 = .ok (.invokevirtual 65, 3) := by decide +kernel
theorem dX0_firstUnlikeWay_28 : decode cX0_firstUnlikeWay 28 = .ok (.ifCond .eq 6, 3) := by decide +kernel
theorem dX0_firstUnlikeWay_31 : decode cX0_firstUnlikeWay 31 = .ok (.iload 6, 2) := by decide +kernel
theorem dX0_firstUnlikeWay_33 : decode cX0_firstUnlikeWay 33 = .ok (.ireturn, 1) := by decide +kernel
theorem dX0_firstUnlikeWay_34 : decode cX0_firstUnlikeWay 34 = .ok (.iinc 6 1, 3) := by decide +kernel
theorem dX0_firstUnlikeWay_37 : decode cX0_firstUnlikeWay 37 = .ok (.goto (-34), 3) := by decide +kernel
theorem dX0_firstUnlikeWay_40 : decode cX0_firstUnlikeWay 40 = .ok (.iconst (-1), 1) := by decide +kernel
theorem dX0_firstUnlikeWay_41 : decode cX0_firstUnlikeWay 41 = .ok (.ireturn, 1) := by decide +kernel
def chX0_hasUnlikeLine : List (List Cond) := [[.methodLink RX0 56 yX0_lineCount, .instanceMethod yX0_lineCount, .selects RX0 yX0_lineCount yX0_lineCount, .initialized RX0, .code yX0_lineCount cX0_lineCount 2 (some .int), .fieldLink RX0 17 "ShadowBench$Board" "high" "I", .fieldLink RX0 13 "ShadowBench$Board" "wide" "I", .methodLink RX0 69 yX0_onesOfLine, .instanceMethod yX0_onesOfLine, .selects RX0 yX0_onesOfLine yX0_onesOfLine, .code yX0_onesOfLine cX0_onesOfLine 6 (some .int), .fieldLink RX0 9 "ShadowBench$Board" "lines" "[J", .methodLink RX0 59 yJ13_bitCount_95d88, .static yJ13_bitCount_95d88, .initialized RJ13, .code yJ13_bitCount_95d88 cJ13_bitCount_95d88 2 (some .int), .constantLong RJ13 314 (6148914691236517205), .constantLong RJ13 316 (3689348814741910323), .constantLong RJ13 318 (1085102592571150095)], wsX00]
set_option maxRecDepth 20000 in
theorem chX0_hasUnlikeLine_in : ∀ c ∈ chX0_hasUnlikeLine, ∀ w ∈ c, w ∈ wsX0_hasUnlikeLine := (all_c (P := fun c => ∀ w ∈ c, w ∈ wsX0_hasUnlikeLine) (fun w h => List.mem_cons_of_mem _ (List.mem_append_left _ (h))) (all_c (P := fun c => ∀ w ∈ c, w ∈ wsX0_hasUnlikeLine) (fun w h => List.mem_cons_of_mem _ (List.mem_append_right _ (h))) (fun _ h => nomatch h)))
set_option maxRecDepth 20000 in
theorem ggX0_hasUnlikeLine_X0_lineCount : GoodIn wsX0_hasUnlikeLine wsX0_lineCount := goodIn_ca (goodIn_c chX0_hasUnlikeLine chX0_hasUnlikeLine_in _ [(0, 4), (0, 5), (0, 6)] (by rfl) (by decide +kernel)) (goodIn_sub (fun _ h => List.mem_cons_of_mem _ (List.mem_append_right _ (h))) (by decide +kernel))
set_option maxRecDepth 20000 in
theorem gX0_hasUnlikeLine_X0_lineCount : GoodIn wsX0_hasUnlikeLine (wsV RX0 56 RX0 yX0_lineCount wsX0_lineCount) := goodIn_app (goodIn_c chX0_hasUnlikeLine chX0_hasUnlikeLine_in _ [(0, 0), (0, 1), (0, 2), (0, 3)] (by rfl) (by decide +kernel)) ggX0_hasUnlikeLine_X0_lineCount
set_option maxRecDepth 20000 in
theorem ggX0_hasUnlikeLine_X0_onesOfLine : GoodIn wsX0_hasUnlikeLine wsX0_onesOfLine := goodIn_ca (goodIn_c chX0_hasUnlikeLine chX0_hasUnlikeLine_in _ [(0, 10), (0, 11), (0, 12), (0, 13), (0, 14), (0, 15), (0, 16), (0, 17), (0, 18)] (by rfl) (by decide +kernel)) (goodIn_sub (fun _ h => List.mem_cons_of_mem _ (List.mem_append_right _ (h))) (by decide +kernel))
set_option maxRecDepth 20000 in
theorem gX0_hasUnlikeLine_X0_onesOfLine : GoodIn wsX0_hasUnlikeLine (wsV RX0 69 RX0 yX0_onesOfLine wsX0_onesOfLine) := goodIn_app (goodIn_c chX0_hasUnlikeLine chX0_hasUnlikeLine_in _ [(0, 7), (0, 8), (0, 9), (0, 3)] (by rfl) (by decide +kernel)) ggX0_hasUnlikeLine_X0_onesOfLine
theorem dX0_hasUnlikeLine_0 : decode cX0_hasUnlikeLine 0 = .ok (.iconst 0, 1) := by decide +kernel
theorem dX0_hasUnlikeLine_1 : decode cX0_hasUnlikeLine 1 = .ok (.istore 6, 2) := by decide +kernel
theorem dX0_hasUnlikeLine_3 : decode cX0_hasUnlikeLine 3 = .ok (.iload 6, 2) := by decide +kernel
theorem dX0_hasUnlikeLine_5 : decode cX0_hasUnlikeLine 5 = .ok (.aload_n 0, 1) := by decide +kernel
theorem dX0_hasUnlikeLine_6 : decode cX0_hasUnlikeLine 6 = .ok (.iload 5, 2) := by decide +kernel
theorem dX0_hasUnlikeLine_8 : decode cX0_hasUnlikeLine 8 = .ok (.invokevirtual 56, 3) := by decide +kernel
theorem dX0_hasUnlikeLine_11 : decode cX0_hasUnlikeLine 11 = .ok (.if_icmp .ge 32, 3) := by decide +kernel
theorem dX0_hasUnlikeLine_14 : decode cX0_hasUnlikeLine 14 = .ok (.aload_n 0, 1) := by decide +kernel
theorem dX0_hasUnlikeLine_15 : decode cX0_hasUnlikeLine 15 = .ok (.iload 5, 2) := by decide +kernel
theorem dX0_hasUnlikeLine_17 : decode cX0_hasUnlikeLine 17 = .ok (.iload 6, 2) := by decide +kernel
theorem dX0_hasUnlikeLine_19 : decode cX0_hasUnlikeLine 19 = .ok (.lload_n 1, 1) := by decide +kernel
theorem dX0_hasUnlikeLine_20 : decode cX0_hasUnlikeLine 20 = .ok (.invokevirtual 69, 3) := by decide +kernel
theorem dX0_hasUnlikeLine_23 : decode cX0_hasUnlikeLine 23 = .ok (.aload_n 0, 1) := by decide +kernel
theorem dX0_hasUnlikeLine_24 : decode cX0_hasUnlikeLine 24 = .ok (.iload 5, 2) := by decide +kernel
theorem dX0_hasUnlikeLine_26 : decode cX0_hasUnlikeLine 26 = .ok (.iload 6, 2) := by decide +kernel
theorem dX0_hasUnlikeLine_28 : decode cX0_hasUnlikeLine 28 = .ok (.lload_n 3, 1) := by decide +kernel
theorem dX0_hasUnlikeLine_29 : decode cX0_hasUnlikeLine 29 = .ok (.invokevirtual 69, 3) := by decide +kernel
theorem dX0_hasUnlikeLine_32 : decode cX0_hasUnlikeLine 32 = .ok (.if_icmp .eq 5, 3) := by decide +kernel
theorem dX0_hasUnlikeLine_35 : decode cX0_hasUnlikeLine 35 = .ok (.iconst 1, 1) := by decide +kernel
theorem dX0_hasUnlikeLine_36 : decode cX0_hasUnlikeLine 36 = .ok (.ireturn, 1) := by decide +kernel
theorem dX0_hasUnlikeLine_37 : decode cX0_hasUnlikeLine 37 = .ok (.iinc 6 1, 3) := by decide +kernel
theorem dX0_hasUnlikeLine_40 : decode cX0_hasUnlikeLine 40 = .ok (.goto (-37), 3) := by decide +kernel
theorem dX0_hasUnlikeLine_43 : decode cX0_hasUnlikeLine 43 = .ok (.iconst 0, 1) := by decide +kernel
theorem dX0_hasUnlikeLine_44 : decode cX0_hasUnlikeLine 44 = .ok (.ireturn, 1) := by decide +kernel
theorem dX0_behindFour_0 : decode cX0_behindFour 0 = .ok (.iload_n 1, 1) := by decide +kernel
theorem dX0_behindFour_1 : decode cX0_behindFour 1 = .ok (.ifCond .lt 11, 3) := by decide +kernel
theorem dX0_behindFour_4 : decode cX0_behindFour 4 = .ok (.iload_n 1, 1) := by decide +kernel
theorem dX0_behindFour_5 : decode cX0_behindFour 5 = .ok (.aload_n 0, 1) := by decide +kernel
theorem dX0_behindFour_6 : decode cX0_behindFour 6 = .ok (.getfield 30, 3) := by decide +kernel
theorem dX0_behindFour_9 : decode cX0_behindFour 9 = .ok (.if_icmp .lt 5, 3) := by decide +kernel
theorem dX0_behindFour_12 : decode cX0_behindFour 12 = .ok (.lload_n 2, 1) := by decide +kernel
theorem dX0_behindFour_13 : decode cX0_behindFour 13 = .ok (.lreturn, 1) := by decide +kernel
theorem dX0_behindFour_14 : decode cX0_behindFour 14 = .ok (.aload_n 0, 1) := by decide +kernel
theorem dX0_behindFour_15 : decode cX0_behindFour 15 = .ok (.getfield 33, 3) := by decide +kernel
theorem dX0_behindFour_18 : decode cX0_behindFour 18 = .ok (.iload_n 1, 1) := by decide +kernel
theorem dX0_behindFour_19 : decode cX0_behindFour 19 = .ok (.laload, 1) := by decide +kernel
theorem dX0_behindFour_20 : decode cX0_behindFour 20 = .ok (.aload_n 0, 1) := by decide +kernel
theorem dX0_behindFour_21 : decode cX0_behindFour 21 = .ok (.getfield 36, 3) := by decide +kernel
theorem dX0_behindFour_24 : decode cX0_behindFour 24 = .ok (.iload_n 1, 1) := by decide +kernel
theorem dX0_behindFour_25 : decode cX0_behindFour 25 = .ok (.laload, 1) := by decide +kernel
theorem dX0_behindFour_26 : decode cX0_behindFour 26 = .ok (.lor, 1) := by decide +kernel
theorem dX0_behindFour_27 : decode cX0_behindFour 27 = .ok (.lstore 4, 2) := by decide +kernel
theorem dX0_behindFour_29 : decode cX0_behindFour 29 = .ok (.lload_n 2, 1) := by decide +kernel
theorem dX0_behindFour_30 : decode cX0_behindFour 30 = .ok (.lload 4, 2) := by decide +kernel
theorem dX0_behindFour_32 : decode cX0_behindFour 32 = .ok (.land, 1) := by decide +kernel
theorem dX0_behindFour_33 : decode cX0_behindFour 33 = .ok (.lstore 6, 2) := by decide +kernel
theorem dX0_behindFour_35 : decode cX0_behindFour 35 = .ok (.lload 6, 2) := by decide +kernel
theorem dX0_behindFour_37 : decode cX0_behindFour 37 = .ok (.aload_n 0, 1) := by decide +kernel
theorem dX0_behindFour_38 : decode cX0_behindFour 38 = .ok (.getfield 33, 3) := by decide +kernel
theorem dX0_behindFour_41 : decode cX0_behindFour 41 = .ok (.iload_n 1, 1) := by decide +kernel
theorem dX0_behindFour_42 : decode cX0_behindFour 42 = .ok (.laload, 1) := by decide +kernel
theorem dX0_behindFour_43 : decode cX0_behindFour 43 = .ok (.lcmp, 1) := by decide +kernel
theorem dX0_behindFour_44 : decode cX0_behindFour 44 = .ok (.ifCond .eq 15, 3) := by decide +kernel
theorem dX0_behindFour_47 : decode cX0_behindFour 47 = .ok (.lload 6, 2) := by decide +kernel
theorem dX0_behindFour_49 : decode cX0_behindFour 49 = .ok (.aload_n 0, 1) := by decide +kernel
theorem dX0_behindFour_50 : decode cX0_behindFour 50 = .ok (.getfield 36, 3) := by decide +kernel
theorem dX0_behindFour_53 : decode cX0_behindFour 53 = .ok (.iload_n 1, 1) := by decide +kernel
theorem dX0_behindFour_54 : decode cX0_behindFour 54 = .ok (.laload, 1) := by decide +kernel
theorem dX0_behindFour_55 : decode cX0_behindFour 55 = .ok (.lcmp, 1) := by decide +kernel
theorem dX0_behindFour_56 : decode cX0_behindFour 56 = .ok (.ifCond .ne 7, 3) := by decide +kernel
theorem dX0_behindFour_59 : decode cX0_behindFour 59 = .ok (.iconst 1, 1) := by decide +kernel
theorem dX0_behindFour_60 : decode cX0_behindFour 60 = .ok (.goto 4, 3) := by decide +kernel
theorem dX0_behindFour_63 : decode cX0_behindFour 63 = .ok (.iconst 0, 1) := by decide +kernel
theorem dX0_behindFour_64 : decode cX0_behindFour 64 = .ok (.istore 8, 2) := by decide +kernel
theorem dX0_behindFour_66 : decode cX0_behindFour 66 = .ok (.iload 8, 2) := by decide +kernel
theorem dX0_behindFour_68 : decode cX0_behindFour 68 = .ok (.ifCond .eq 10, 3) := by decide +kernel
theorem dX0_behindFour_71 : decode cX0_behindFour 71 = .ok (.lload_n 2, 1) := by decide +kernel
theorem dX0_behindFour_72 : decode cX0_behindFour 72 = .ok (.lload 4, 2) := by decide +kernel
theorem dX0_behindFour_74 : decode cX0_behindFour 74 = .ok (.lxor, 1) := by decide +kernel
theorem dX0_behindFour_75 : decode cX0_behindFour 75 = .ok (.goto 4, 3) := by decide +kernel
theorem dX0_behindFour_78 : decode cX0_behindFour 78 = .ok (.lload_n 2, 1) := by decide +kernel
theorem dX0_behindFour_79 : decode cX0_behindFour 79 = .ok (.lreturn, 1) := by decide +kernel
theorem dX0_hangsTogether_0 : decode cX0_hangsTogether 0 = .ok (.aload_n 0, 1) := by decide +kernel
theorem dX0_hangsTogether_1 : decode cX0_hangsTogether 1 = .ok (.getfield 9, 3) := by decide +kernel
theorem dX0_hangsTogether_4 : decode cX0_hangsTogether 4 = .ok (.bipush 11, 2) := by decide +kernel
theorem dX0_hangsTogether_6 : decode cX0_hangsTogether 6 = .ok (.laload, 1) := by decide +kernel
theorem dX0_hangsTogether_7 : decode cX0_hangsTogether 7 = .ok (.lstore_n 3, 1) := by decide +kernel
theorem dX0_hangsTogether_8 : decode cX0_hangsTogether 8 = .ok (.lload_n 3, 1) := by decide +kernel
theorem dX0_hangsTogether_9 : decode cX0_hangsTogether 9 = .ok (.aload_n 0, 1) := by decide +kernel
theorem dX0_hangsTogether_10 : decode cX0_hangsTogether 10 = .ok (.getfield 13, 3) := by decide +kernel
theorem dX0_hangsTogether_13 : decode cX0_hangsTogether 13 = .ok (.iconst 1, 1) := by decide +kernel
theorem dX0_hangsTogether_14 : decode cX0_hangsTogether 14 = .ok (.isub, 1) := by decide +kernel
theorem dX0_hangsTogether_15 : decode cX0_hangsTogether 15 = .ok (.lshl, 1) := by decide +kernel
theorem dX0_hangsTogether_16 : decode cX0_hangsTogether 16 = .ok (.lstore 5, 2) := by decide +kernel
theorem dX0_hangsTogether_18 : decode cX0_hangsTogether 18 = .ok (.lload_n 1, 1) := by decide +kernel
theorem dX0_hangsTogether_19 : decode cX0_hangsTogether 19 = .ok (.lload_n 1, 1) := by decide +kernel
theorem dX0_hangsTogether_20 : decode cX0_hangsTogether 20 = .ok (.lneg, 1) := by decide +kernel
theorem dX0_hangsTogether_21 : decode cX0_hangsTogether 21 = .ok (.land, 1) := by decide +kernel
theorem dX0_hangsTogether_22 : decode cX0_hangsTogether 22 = .ok (.lstore 7, 2) := by decide +kernel
theorem dX0_hangsTogether_24 : decode cX0_hangsTogether 24 = .ok (.iconst 1, 1) := by decide +kernel
theorem dX0_hangsTogether_25 : decode cX0_hangsTogether 25 = .ok (.istore 9, 2) := by decide +kernel
theorem dX0_hangsTogether_27 : decode cX0_hangsTogether 27 = .ok (.iload 9, 2) := by decide +kernel
theorem dX0_hangsTogether_29 : decode cX0_hangsTogether 29 = .ok (.aload_n 0, 1) := by decide +kernel
theorem dX0_hangsTogether_30 : decode cX0_hangsTogether 30 = .ok (.getfield 20, 3) := by decide +kernel
theorem dX0_hangsTogether_33 : decode cX0_hangsTogether 33 = .ok (.if_icmp .ge 69, 3) := by decide +kernel
theorem dX0_hangsTogether_36 : decode cX0_hangsTogether 36 = .ok (.lload 7, 2) := by decide +kernel
theorem dX0_hangsTogether_38 : decode cX0_hangsTogether 38 = .ok (.lload_n 1, 1) := by decide +kernel
theorem dX0_hangsTogether_39 : decode cX0_hangsTogether 39 = .ok (.lcmp, 1) := by decide +kernel
theorem dX0_hangsTogether_40 : decode cX0_hangsTogether 40 = .ok (.ifCond .eq 62, 3) := by decide +kernel
theorem dX0_hangsTogether_43 : decode cX0_hangsTogether 43 = .ok (.lload 7, 2) := by decide +kernel
theorem dX0_hangsTogether_45 : decode cX0_hangsTogether 45 = .ok (.lload 5, 2) := by decide +kernel
theorem dX0_hangsTogether_47 : decode cX0_hangsTogether 47 = .ok (.ldc2_w 73, 3) := by decide +kernel
theorem dX0_hangsTogether_50 : decode cX0_hangsTogether 50 = .ok (.lxor, 1) := by decide +kernel
theorem dX0_hangsTogether_51 : decode cX0_hangsTogether 51 = .ok (.land, 1) := by decide +kernel
theorem dX0_hangsTogether_52 : decode cX0_hangsTogether 52 = .ok (.iconst 1, 1) := by decide +kernel
theorem dX0_hangsTogether_53 : decode cX0_hangsTogether 53 = .ok (.lshl, 1) := by decide +kernel
theorem dX0_hangsTogether_54 : decode cX0_hangsTogether 54 = .ok (.lload 7, 2) := by decide +kernel
theorem dX0_hangsTogether_56 : decode cX0_hangsTogether 56 = .ok (.lload_n 3, 1) := by decide +kernel
theorem dX0_hangsTogether_57 : decode cX0_hangsTogether 57 = .ok (.ldc2_w 73, 3) := by decide +kernel
theorem dX0_hangsTogether_60 : decode cX0_hangsTogether 60 = .ok (.lxor, 1) := by decide +kernel
theorem dX0_hangsTogether_61 : decode cX0_hangsTogether 61 = .ok (.land, 1) := by decide +kernel
theorem dX0_hangsTogether_62 : decode cX0_hangsTogether 62 = .ok (.iconst 1, 1) := by decide +kernel
theorem dX0_hangsTogether_63 : decode cX0_hangsTogether 63 = .ok (.lushr, 1) := by decide +kernel
theorem dX0_hangsTogether_64 : decode cX0_hangsTogether 64 = .ok (.lor, 1) := by decide +kernel
theorem dX0_hangsTogether_65 : decode cX0_hangsTogether 65 = .ok (.lstore 10, 2) := by decide +kernel
theorem dX0_hangsTogether_67 : decode cX0_hangsTogether 67 = .ok (.lload 7, 2) := by decide +kernel
theorem dX0_hangsTogether_69 : decode cX0_hangsTogether 69 = .ok (.aload_n 0, 1) := by decide +kernel
theorem dX0_hangsTogether_70 : decode cX0_hangsTogether 70 = .ok (.getfield 13, 3) := by decide +kernel
theorem dX0_hangsTogether_73 : decode cX0_hangsTogether 73 = .ok (.lshl, 1) := by decide +kernel
theorem dX0_hangsTogether_74 : decode cX0_hangsTogether 74 = .ok (.lload 7, 2) := by decide +kernel
theorem dX0_hangsTogether_76 : decode cX0_hangsTogether 76 = .ok (.aload_n 0, 1) := by decide +kernel
theorem dX0_hangsTogether_77 : decode cX0_hangsTogether 77 = .ok (.getfield 13, 3) := by decide +kernel
theorem dX0_hangsTogether_80 : decode cX0_hangsTogether 80 = .ok (.lushr, 1) := by decide +kernel
theorem dX0_hangsTogether_81 : decode cX0_hangsTogether 81 = .ok (.lor, 1) := by decide +kernel
theorem dX0_hangsTogether_82 : decode cX0_hangsTogether 82 = .ok (.lstore 12, 2) := by decide +kernel
theorem dX0_hangsTogether_84 : decode cX0_hangsTogether 84 = .ok (.lload 7, 2) := by decide +kernel
theorem dX0_hangsTogether_86 : decode cX0_hangsTogether 86 = .ok (.lload 10, 2) := by decide +kernel
theorem dX0_hangsTogether_88 : decode cX0_hangsTogether 88 = .ok (.lload 12, 2) := by decide +kernel
theorem dX0_hangsTogether_90 : decode cX0_hangsTogether 90 = .ok (.lor, 1) := by decide +kernel
theorem dX0_hangsTogether_91 : decode cX0_hangsTogether 91 = .ok (.lload_n 1, 1) := by decide +kernel
theorem dX0_hangsTogether_92 : decode cX0_hangsTogether 92 = .ok (.land, 1) := by decide +kernel
theorem dX0_hangsTogether_93 : decode cX0_hangsTogether 93 = .ok (.lor, 1) := by decide +kernel
theorem dX0_hangsTogether_94 : decode cX0_hangsTogether 94 = .ok (.lstore 7, 2) := by decide +kernel
theorem dX0_hangsTogether_96 : decode cX0_hangsTogether 96 = .ok (.iinc 9 1, 3) := by decide +kernel
theorem dX0_hangsTogether_99 : decode cX0_hangsTogether 99 = .ok (.goto (-72), 3) := by decide +kernel
theorem dX0_hangsTogether_102 : decode cX0_hangsTogether 102 = .ok (.lload 7, 2) := by decide +kernel
theorem dX0_hangsTogether_104 : decode cX0_hangsTogether 104 = .ok (.lload_n 1, 1) := by decide +kernel
theorem dX0_hangsTogether_105 : decode cX0_hangsTogether 105 = .ok (.lcmp, 1) := by decide +kernel
theorem dX0_hangsTogether_106 : decode cX0_hangsTogether 106 = .ok (.ifCond .ne 7, 3) := by decide +kernel
theorem dX0_hangsTogether_109 : decode cX0_hangsTogether 109 = .ok (.iconst 1, 1) := by decide +kernel
theorem dX0_hangsTogether_110 : decode cX0_hangsTogether 110 = .ok (.goto 4, 3) := by decide +kernel
theorem dX0_hangsTogether_113 : decode cX0_hangsTogether 113 = .ok (.iconst 0, 1) := by decide +kernel
theorem dX0_hangsTogether_114 : decode cX0_hangsTogether 114 = .ok (.ireturn, 1) := by decide +kernel
def chX0_rowsAreWhole : List (List Cond) := [[.fieldLink RX0 17 "ShadowBench$Board" "high" "I", .methodLink RX0 75 yX0_rowOf, .instanceMethod yX0_rowOf, .selects RX0 yX0_rowOf yX0_rowOf, .initialized RX0, .code yX0_rowOf cX0_rowOf 4 (some .int), .fieldLink RX0 13 "ShadowBench$Board" "wide" "I", .fieldLink RX0 23 "ShadowBench$Board" "rowNumbers" "I"], wsX00]
set_option maxRecDepth 20000 in
theorem chX0_rowsAreWhole_in : ∀ c ∈ chX0_rowsAreWhole, ∀ w ∈ c, w ∈ wsX0_rowsAreWhole := (all_c (P := fun c => ∀ w ∈ c, w ∈ wsX0_rowsAreWhole) (fun w h => List.mem_cons_of_mem _ (List.mem_append_left _ (h))) (all_c (P := fun c => ∀ w ∈ c, w ∈ wsX0_rowsAreWhole) (fun w h => List.mem_cons_of_mem _ (List.mem_append_right _ (h))) (fun _ h => nomatch h)))
set_option maxRecDepth 20000 in
theorem ggX0_rowsAreWhole_X0_rowOf : GoodIn wsX0_rowsAreWhole wsX0_rowOf := goodIn_ca (goodIn_c chX0_rowsAreWhole chX0_rowsAreWhole_in _ [(0, 5), (0, 6), (0, 7)] (by rfl) (by decide +kernel)) (goodIn_sub (fun _ h => List.mem_cons_of_mem _ (List.mem_append_right _ (h))) (by decide +kernel))
set_option maxRecDepth 20000 in
theorem gX0_rowsAreWhole_X0_rowOf : GoodIn wsX0_rowsAreWhole (wsV RX0 75 RX0 yX0_rowOf wsX0_rowOf) := goodIn_app (goodIn_c chX0_rowsAreWhole chX0_rowsAreWhole_in _ [(0, 1), (0, 2), (0, 3), (0, 4)] (by rfl) (by decide +kernel)) ggX0_rowsAreWhole_X0_rowOf
theorem dX0_rowsAreWhole_0 : decode cX0_rowsAreWhole 0 = .ok (.iconst 0, 1) := by decide +kernel
theorem dX0_rowsAreWhole_1 : decode cX0_rowsAreWhole 1 = .ok (.istore_n 3, 1) := by decide +kernel
theorem dX0_rowsAreWhole_2 : decode cX0_rowsAreWhole 2 = .ok (.iload_n 3, 1) := by decide +kernel
theorem dX0_rowsAreWhole_3 : decode cX0_rowsAreWhole 3 = .ok (.aload_n 0, 1) := by decide +kernel
theorem dX0_rowsAreWhole_4 : decode cX0_rowsAreWhole 4 = .ok (.getfield 17, 3) := by decide +kernel
theorem dX0_rowsAreWhole_7 : decode cX0_rowsAreWhole 7 = .ok (.if_icmp .ge 34, 3) := by decide +kernel
theorem dX0_rowsAreWhole_10 : decode cX0_rowsAreWhole 10 = .ok (.aload_n 0, 1) := by decide +kernel
theorem dX0_rowsAreWhole_11 : decode cX0_rowsAreWhole 11 = .ok (.lload_n 1, 1) := by decide +kernel
theorem dX0_rowsAreWhole_12 : decode cX0_rowsAreWhole 12 = .ok (.iload_n 3, 1) := by decide +kernel
theorem dX0_rowsAreWhole_13 : decode cX0_rowsAreWhole 13 = .ok (.invokevirtual 75, 3) := by decide +kernel
theorem dX0_rowsAreWhole_16 : decode cX0_rowsAreWhole 16 = .ok (.istore 4, 2) := by decide +kernel
theorem dX0_rowsAreWhole_18 : decode cX0_rowsAreWhole 18 = .ok (.iload 4, 2) := by decide +kernel
theorem dX0_rowsAreWhole_20 : decode cX0_rowsAreWhole 20 = .ok (.iload 4, 2) := by decide +kernel
theorem dX0_rowsAreWhole_22 : decode cX0_rowsAreWhole 22 = .ok (.iload 4, 2) := by decide +kernel
theorem dX0_rowsAreWhole_24 : decode cX0_rowsAreWhole 24 = .ok (.iload 4, 2) := by decide +kernel
theorem dX0_rowsAreWhole_26 : decode cX0_rowsAreWhole 26 = .ok (.ineg, 1) := by decide +kernel
theorem dX0_rowsAreWhole_27 : decode cX0_rowsAreWhole 27 = .ok (.iand, 1) := by decide +kernel
theorem dX0_rowsAreWhole_28 : decode cX0_rowsAreWhole 28 = .ok (.iadd, 1) := by decide +kernel
theorem dX0_rowsAreWhole_29 : decode cX0_rowsAreWhole 29 = .ok (.iand, 1) := by decide +kernel
theorem dX0_rowsAreWhole_30 : decode cX0_rowsAreWhole 30 = .ok (.ifCond .eq 5, 3) := by decide +kernel
theorem dX0_rowsAreWhole_33 : decode cX0_rowsAreWhole 33 = .ok (.iconst 0, 1) := by decide +kernel

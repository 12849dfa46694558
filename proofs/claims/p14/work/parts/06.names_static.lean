def RX10 : String := "ShadowBenchModel"
abbrev cX10_isIn : ByteArray := prog_12_method_3_code
def yX10_isIn : MethodName := ⟨RX10, "isIn", "(JJJ)Z"⟩
abbrev cX10_isBoard : ByteArray := prog_12_method_4_code
def yX10_isBoard : MethodName := ⟨RX10, "isBoard", "(II)Z"⟩
abbrev cX10_isPicture : ByteArray := prog_12_method_5_code
def yX10_isPicture : MethodName := ⟨RX10, "isPicture", "(IIJ)Z"⟩
abbrev cX10_one : ByteArray := prog_12_method_8_code
def yX10_one : MethodName := ⟨RX10, "one", "(JI)I"⟩
abbrev cX10_linesOf : ByteArray := prog_12_method_9_code
def yX10_linesOf : MethodName := ⟨RX10, "linesOf", "(III)I"⟩
abbrev cX10_lineOf : ByteArray := prog_12_method_10_code
def yX10_lineOf : MethodName := ⟨RX10, "lineOf", "(IIII)I"⟩
abbrev cX10_shadowOf : ByteArray := prog_12_method_11_code
def yX10_shadowOf : MethodName := ⟨RX10, "shadowOf", "(IIJII)I"⟩
abbrev cX10_countOnes : ByteArray := prog_12_method_17_code
def yX10_countOnes : MethodName := ⟨RX10, "countOnes", "(J)I"⟩
abbrev cX10_isShelf : ByteArray := prog_12_method_63_code
def yX10_isShelf : MethodName := ⟨RX10, "isShelf", "(I)Z"⟩
def wsX10_isIn : List Cond := .code yX10_isIn cX10_isIn 6 (some .boolean) :: ([])
def wsX10_isBoard : List Cond := .code yX10_isBoard cX10_isBoard 2 (some .boolean) :: ([.constantLong RX10 83 (6), .methodLink RX10 85 yX10_isIn, .static yX10_isIn, .initialized RX10, .code yX10_isIn cX10_isIn 6 (some .boolean)])
def wsX10_isPicture : List Cond := .code yX10_isPicture cX10_isPicture 4 (some .boolean) :: ([.methodLink RX10 89 yX10_isBoard, .static yX10_isBoard, .initialized RX10, .code yX10_isBoard cX10_isBoard 2 (some .boolean), .constantLong RX10 83 (6), .methodLink RX10 85 yX10_isIn, .static yX10_isIn, .code yX10_isIn cX10_isIn 6 (some .boolean)])
def wsX10_one : List Cond := .code yX10_one cX10_one 3 (some .int) :: ([])
def wsX10_linesOf : List Cond := .code yX10_linesOf cX10_linesOf 3 (some .int) :: ([])
def wsX10_lineOf : List Cond := .code yX10_lineOf cX10_lineOf 4 (some .int) :: ([])
def wsX10_shadowOf : List Cond := .code yX10_shadowOf cX10_shadowOf 8 (some .int) :: ([.methodLink RX10 100 yX10_lineOf, .static yX10_lineOf, .initialized RX10, .code yX10_lineOf cX10_lineOf 4 (some .int), .methodLink RX10 104 yX10_one, .static yX10_one, .code yX10_one cX10_one 3 (some .int)])
def wsX10_countOnes : List Cond := .code yX10_countOnes cX10_countOnes 4 (some .int) :: ([.methodLink RX10 104 yX10_one, .static yX10_one, .initialized RX10, .code yX10_one cX10_one 3 (some .int)])
def wsX10_isShelf : List Cond := .code yX10_isShelf cX10_isShelf 1 (some .boolean) :: ([])
theorem dX10_isIn_0 : decode cX10_isIn 0 = .ok (.lload_n 0, 1) := by decide +kernel
theorem dX10_isIn_1 : decode cX10_isIn 1 = .ok (.lload_n 2, 1) := by decide +kernel
theorem dX10_isIn_2 : decode cX10_isIn 2 = .ok (.lcmp, 1) := by decide +kernel
theorem dX10_isIn_3 : decode cX10_isIn 3 = .ok (.ifCond .lt 14, 3) := by decide +kernel
theorem dX10_isIn_6 : decode cX10_isIn 6 = .ok (.lload_n 0, 1) := by decide +kernel
theorem dX10_isIn_7 : decode cX10_isIn 7 = .ok (.lload 4, 2) := by decide +kernel
theorem dX10_isIn_9 : decode cX10_isIn 9 = .ok (.lcmp, 1) := by decide +kernel
theorem dX10_isIn_10 : decode cX10_isIn 10 = .ok (.ifCond .gt 7, 3) := by decide +kernel
theorem dX10_isIn_13 : decode cX10_isIn 13 = .ok (.iconst 1, 1) := by decide +kernel
theorem dX10_isIn_14 : decode cX10_isIn 14 = .ok (.goto 4, 3) := by decide +kernel
theorem dX10_isIn_17 : decode cX10_isIn 17 = .ok (.iconst 0, 1) := by decide +kernel
theorem dX10_isIn_18 : decode cX10_isIn 18 = .ok (.ireturn, 1) := by decide +kernel
set_option maxRecDepth 20000 in
theorem ggX10_isBoard_X10_isIn : GoodIn wsX10_isBoard wsX10_isIn := goodIn_r _ [5] (by decide +kernel) (by decide +kernel)
def chX10_isBoard : List (List Cond) := [[.constantLong RX10 83 (6), .methodLink RX10 85 yX10_isIn, .static yX10_isIn, .initialized RX10, .code yX10_isIn cX10_isIn 6 (some .boolean)]]
set_option maxRecDepth 20000 in
theorem chX10_isBoard_in : ∀ c ∈ chX10_isBoard, ∀ w ∈ c, w ∈ wsX10_isBoard := (all_c (P := fun c => ∀ w ∈ c, w ∈ wsX10_isBoard) (fun w h => List.mem_cons_of_mem _ (h)) (fun _ h => nomatch h))
set_option maxRecDepth 20000 in
theorem gX10_isBoard_X10_isIn : GoodIn wsX10_isBoard (va_wsS RX10 85 yX10_isIn wsX10_isIn) := goodIn_app (goodIn_c chX10_isBoard chX10_isBoard_in _ [(0, 1), (0, 2), (0, 3)] (by rfl) (by decide +kernel)) ggX10_isBoard_X10_isIn
theorem dX10_isBoard_0 : decode cX10_isBoard 0 = .ok (.iload_n 0, 1) := by decide +kernel
theorem dX10_isBoard_1 : decode cX10_isBoard 1 = .ok (.i2l, 1) := by decide +kernel
theorem dX10_isBoard_2 : decode cX10_isBoard 2 = .ok (.lconst 1, 1) := by decide +kernel
theorem dX10_isBoard_3 : decode cX10_isBoard 3 = .ok (.ldc2_w 83, 3) := by decide +kernel
theorem dX10_isBoard_6 : decode cX10_isBoard 6 = .ok (.invokestatic 85, 3) := by decide +kernel
theorem dX10_isBoard_9 : decode cX10_isBoard 9 = .ok (.ifCond .eq 19, 3) := by decide +kernel
theorem dX10_isBoard_12 : decode cX10_isBoard 12 = .ok (.iload_n 1, 1) := by decide +kernel
theorem dX10_isBoard_13 : decode cX10_isBoard 13 = .ok (.i2l, 1) := by decide +kernel
theorem dX10_isBoard_14 : decode cX10_isBoard 14 = .ok (.lconst 1, 1) := by decide +kernel
theorem dX10_isBoard_15 : decode cX10_isBoard 15 = .ok (.ldc2_w 83, 3) := by decide +kernel
theorem dX10_isBoard_18 : decode cX10_isBoard 18 = .ok (.invokestatic 85, 3) := by decide +kernel
theorem dX10_isBoard_21 : decode cX10_isBoard 21 = .ok (.ifCond .eq 7, 3) := by decide +kernel
theorem dX10_isBoard_24 : decode cX10_isBoard 24 = .ok (.iconst 1, 1) := by decide +kernel
theorem dX10_isBoard_25 : decode cX10_isBoard 25 = .ok (.goto 4, 3) := by decide +kernel
theorem dX10_isBoard_28 : decode cX10_isBoard 28 = .ok (.iconst 0, 1) := by decide +kernel
theorem dX10_isBoard_29 : decode cX10_isBoard 29 = .ok (.ireturn, 1) := by decide +kernel
def chX10_isPicture : List (List Cond) := [[.methodLink RX10 89 yX10_isBoard, .static yX10_isBoard, .initialized RX10, .code yX10_isBoard cX10_isBoard 2 (some .boolean), .constantLong RX10 83 (6), .methodLink RX10 85 yX10_isIn, .static yX10_isIn, .code yX10_isIn cX10_isIn 6 (some .boolean)]]
set_option maxRecDepth 20000 in
theorem chX10_isPicture_in : ∀ c ∈ chX10_isPicture, ∀ w ∈ c, w ∈ wsX10_isPicture := (all_c (P := fun c => ∀ w ∈ c, w ∈ wsX10_isPicture) (fun w h => List.mem_cons_of_mem _ (h)) (fun _ h => nomatch h))
set_option maxRecDepth 20000 in
theorem ggX10_isPicture_X10_isBoard : GoodIn wsX10_isPicture wsX10_isBoard := goodIn_c chX10_isPicture chX10_isPicture_in _ [(0, 3), (0, 4), (0, 5), (0, 6), (0, 2), (0, 7)] (by rfl) (by decide +kernel)
set_option maxRecDepth 20000 in
theorem gX10_isPicture_X10_isBoard : GoodIn wsX10_isPicture (va_wsS RX10 89 yX10_isBoard wsX10_isBoard) := goodIn_app (goodIn_c chX10_isPicture chX10_isPicture_in _ [(0, 0), (0, 1), (0, 2)] (by rfl) (by decide +kernel)) ggX10_isPicture_X10_isBoard
theorem dX10_isPicture_0 : decode cX10_isPicture 0 = .ok (.iload_n 0, 1) := by decide +kernel
theorem dX10_isPicture_1 : decode cX10_isPicture 1 = .ok (.iload_n 1, 1) := by decide +kernel
theorem dX10_isPicture_2 : decode cX10_isPicture 2 = .ok (.invokestatic 89, 3) := by decide +kernel
theorem dX10_isPicture_5 : decode cX10_isPicture 5 = .ok (.ifCond .eq 23, 3) := by decide +kernel
theorem dX10_isPicture_8 : decode cX10_isPicture 8 = .ok (.lload_n 2, 1) := by decide +kernel
theorem dX10_isPicture_9 : decode cX10_isPicture 9 = .ok (.lconst 0, 1) := by decide +kernel
theorem dX10_isPicture_10 : decode cX10_isPicture 10 = .ok (.lcmp, 1) := by decide +kernel
theorem dX10_isPicture_11 : decode cX10_isPicture 11 = .ok (.ifCond .lt 17, 3) := by decide +kernel
theorem dX10_isPicture_14 : decode cX10_isPicture 14 = .ok (.lload_n 2, 1) := by decide +kernel
theorem dX10_isPicture_15 : decode cX10_isPicture 15 = .ok (.lconst 1, 1) := by decide +kernel
theorem dX10_isPicture_16 : decode cX10_isPicture 16 = .ok (.iload_n 0, 1) := by decide +kernel
theorem dX10_isPicture_17 : decode cX10_isPicture 17 = .ok (.iload_n 1, 1) := by decide +kernel
theorem dX10_isPicture_18 : decode cX10_isPicture 18 = .ok (.imul, 1) := by decide +kernel
theorem dX10_isPicture_19 : decode cX10_isPicture 19 = .ok (.lshl, 1) := by decide +kernel
theorem dX10_isPicture_20 : decode cX10_isPicture 20 = .ok (.lcmp, 1) := by decide +kernel
theorem dX10_isPicture_21 : decode cX10_isPicture 21 = .ok (.ifCond .ge 7, 3) := by decide +kernel
theorem dX10_isPicture_24 : decode cX10_isPicture 24 = .ok (.iconst 1, 1) := by decide +kernel
theorem dX10_isPicture_25 : decode cX10_isPicture 25 = .ok (.goto 4, 3) := by decide +kernel
theorem dX10_isPicture_28 : decode cX10_isPicture 28 = .ok (.iconst 0, 1) := by decide +kernel
theorem dX10_isPicture_29 : decode cX10_isPicture 29 = .ok (.ireturn, 1) := by decide +kernel
theorem dX10_one_0 : decode cX10_one 0 = .ok (.lload_n 0, 1) := by decide +kernel
theorem dX10_one_1 : decode cX10_one 1 = .ok (.iload_n 2, 1) := by decide +kernel
theorem dX10_one_2 : decode cX10_one 2 = .ok (.lshr, 1) := by decide +kernel
theorem dX10_one_3 : decode cX10_one 3 = .ok (.lconst 1, 1) := by decide +kernel
theorem dX10_one_4 : decode cX10_one 4 = .ok (.land, 1) := by decide +kernel
theorem dX10_one_5 : decode cX10_one 5 = .ok (.l2i, 1) := by decide +kernel
theorem dX10_one_6 : decode cX10_one 6 = .ok (.ireturn, 1) := by decide +kernel
theorem dX10_linesOf_0 : decode cX10_linesOf 0 = .ok (.iload_n 2, 1) := by decide +kernel
theorem dX10_linesOf_1 : decode cX10_linesOf 1 = .ok (.ifCond .ne 7, 3) := by decide +kernel
theorem dX10_linesOf_4 : decode cX10_linesOf 4 = .ok (.iload_n 1, 1) := by decide +kernel
theorem dX10_linesOf_5 : decode cX10_linesOf 5 = .ok (.goto 17, 3) := by decide +kernel
theorem dX10_linesOf_8 : decode cX10_linesOf 8 = .ok (.iload_n 2, 1) := by decide +kernel
theorem dX10_linesOf_9 : decode cX10_linesOf 9 = .ok (.iconst 1, 1) := by decide +kernel
theorem dX10_linesOf_10 : decode cX10_linesOf 10 = .ok (.if_icmp .ne 7, 3) := by decide +kernel
theorem dX10_linesOf_13 : decode cX10_linesOf 13 = .ok (.iload_n 0, 1) := by decide +kernel
theorem dX10_linesOf_14 : decode cX10_linesOf 14 = .ok (.goto 8, 3) := by decide +kernel
theorem dX10_linesOf_17 : decode cX10_linesOf 17 = .ok (.iload_n 0, 1) := by decide +kernel
theorem dX10_linesOf_18 : decode cX10_linesOf 18 = .ok (.iload_n 1, 1) := by decide +kernel
theorem dX10_linesOf_19 : decode cX10_linesOf 19 = .ok (.iadd, 1) := by decide +kernel
theorem dX10_linesOf_20 : decode cX10_linesOf 20 = .ok (.iconst 1, 1) := by decide +kernel
theorem dX10_linesOf_21 : decode cX10_linesOf 21 = .ok (.isub, 1) := by decide +kernel
theorem dX10_linesOf_22 : decode cX10_linesOf 22 = .ok (.ireturn, 1) := by decide +kernel
theorem dX10_lineOf_0 : decode cX10_lineOf 0 = .ok (.iload_n 1, 1) := by decide +kernel
theorem dX10_lineOf_1 : decode cX10_lineOf 1 = .ok (.ifCond .ne 7, 3) := by decide +kernel
theorem dX10_lineOf_4 : decode cX10_lineOf 4 = .ok (.iload_n 3, 1) := by decide +kernel
theorem dX10_lineOf_5 : decode cX10_lineOf 5 = .ok (.goto 30, 3) := by decide +kernel
theorem dX10_lineOf_8 : decode cX10_lineOf 8 = .ok (.iload_n 1, 1) := by decide +kernel
theorem dX10_lineOf_9 : decode cX10_lineOf 9 = .ok (.iconst 1, 1) := by decide +kernel
theorem dX10_lineOf_10 : decode cX10_lineOf 10 = .ok (.if_icmp .ne 7, 3) := by decide +kernel
theorem dX10_lineOf_13 : decode cX10_lineOf 13 = .ok (.iload_n 2, 1) := by decide +kernel
theorem dX10_lineOf_14 : decode cX10_lineOf 14 = .ok (.goto 21, 3) := by decide +kernel
theorem dX10_lineOf_17 : decode cX10_lineOf 17 = .ok (.iload_n 1, 1) := by decide +kernel
theorem dX10_lineOf_18 : decode cX10_lineOf 18 = .ok (.iconst 2, 1) := by decide +kernel
theorem dX10_lineOf_19 : decode cX10_lineOf 19 = .ok (.if_icmp .ne 13, 3) := by decide +kernel
theorem dX10_lineOf_22 : decode cX10_lineOf 22 = .ok (.iload_n 2, 1) := by decide +kernel
theorem dX10_lineOf_23 : decode cX10_lineOf 23 = .ok (.iload_n 3, 1) := by decide +kernel
theorem dX10_lineOf_24 : decode cX10_lineOf 24 = .ok (.isub, 1) := by decide +kernel
theorem dX10_lineOf_25 : decode cX10_lineOf 25 = .ok (.iload_n 0, 1) := by decide +kernel
theorem dX10_lineOf_26 : decode cX10_lineOf 26 = .ok (.iadd, 1) := by decide +kernel
theorem dX10_lineOf_27 : decode cX10_lineOf 27 = .ok (.iconst 1, 1) := by decide +kernel
theorem dX10_lineOf_28 : decode cX10_lineOf 28 = .ok (.isub, 1) := by decide +kernel
theorem dX10_lineOf_29 : decode cX10_lineOf 29 = .ok (.goto 6, 3) := by decide +kernel
theorem dX10_lineOf_32 : decode cX10_lineOf 32 = .ok (.iload_n 2, 1) := by decide +kernel
theorem dX10_lineOf_33 : decode cX10_lineOf 33 = .ok (.iload_n 3, 1) := by decide +kernel
theorem dX10_lineOf_34 : decode cX10_lineOf 34 = .ok (.iadd, 1) := by decide +kernel
theorem dX10_lineOf_35 : decode cX10_lineOf 35 = .ok (.ireturn, 1) := by decide +kernel
set_option maxRecDepth 20000 in
theorem ggX10_shadowOf_X10_lineOf : GoodIn wsX10_shadowOf wsX10_lineOf := goodIn_r _ [4] (by decide +kernel) (by decide +kernel)
def chX10_shadowOf : List (List Cond) := [[.methodLink RX10 100 yX10_lineOf, .static yX10_lineOf, .initialized RX10, .code yX10_lineOf cX10_lineOf 4 (some .int), .methodLink RX10 104 yX10_one, .static yX10_one, .code yX10_one cX10_one 3 (some .int)]]
set_option maxRecDepth 20000 in
theorem chX10_shadowOf_in : ∀ c ∈ chX10_shadowOf, ∀ w ∈ c, w ∈ wsX10_shadowOf := (all_c (P := fun c => ∀ w ∈ c, w ∈ wsX10_shadowOf) (fun w h => List.mem_cons_of_mem _ (h)) (fun _ h => nomatch h))
set_option maxRecDepth 20000 in
theorem gX10_shadowOf_X10_lineOf : GoodIn wsX10_shadowOf (va_wsS RX10 100 yX10_lineOf wsX10_lineOf) := goodIn_app (goodIn_c chX10_shadowOf chX10_shadowOf_in _ [(0, 0), (0, 1), (0, 2)] (by rfl) (by decide +kernel)) ggX10_shadowOf_X10_lineOf
set_option maxRecDepth 20000 in
theorem ggX10_shadowOf_X10_one : GoodIn wsX10_shadowOf wsX10_one := goodIn_r _ [7] (by decide +kernel) (by decide +kernel)
set_option maxRecDepth 20000 in
theorem gX10_shadowOf_X10_one : GoodIn wsX10_shadowOf (va_wsS RX10 104 yX10_one wsX10_one) := goodIn_app (goodIn_c chX10_shadowOf chX10_shadowOf_in _ [(0, 4), (0, 5), (0, 2)] (by rfl) (by decide +kernel)) ggX10_shadowOf_X10_one
theorem dX10_shadowOf_0 : decode cX10_shadowOf 0 = .ok (.iconst 0, 1) := by decide +kernel
theorem dX10_shadowOf_1 : decode cX10_shadowOf 1 = .ok (.istore 6, 2) := by decide +kernel
theorem dX10_shadowOf_3 : decode cX10_shadowOf 3 = .ok (.iconst 0, 1) := by decide +kernel
theorem dX10_shadowOf_4 : decode cX10_shadowOf 4 = .ok (.istore 7, 2) := by decide +kernel
theorem dX10_shadowOf_6 : decode cX10_shadowOf 6 = .ok (.iload 7, 2) := by decide +kernel
theorem dX10_shadowOf_8 : decode cX10_shadowOf 8 = .ok (.iload_n 0, 1) := by decide +kernel
theorem dX10_shadowOf_9 : decode cX10_shadowOf 9 = .ok (.iload_n 1, 1) := by decide +kernel
theorem dX10_shadowOf_10 : decode cX10_shadowOf 10 = .ok (.imul, 1) := by decide +kernel
theorem dX10_shadowOf_11 : decode cX10_shadowOf 11 = .ok (.if_icmp .ge 43, 3) := by decide +kernel
theorem dX10_shadowOf_14 : decode cX10_shadowOf 14 = .ok (.iload 6, 2) := by decide +kernel
theorem dX10_shadowOf_16 : decode cX10_shadowOf 16 = .ok (.iload_n 1, 1) := by decide +kernel
theorem dX10_shadowOf_17 : decode cX10_shadowOf 17 = .ok (.iload 4, 2) := by decide +kernel
theorem dX10_shadowOf_19 : decode cX10_shadowOf 19 = .ok (.iload 7, 2) := by decide +kernel
theorem dX10_shadowOf_21 : decode cX10_shadowOf 21 = .ok (.iload_n 0, 1) := by decide +kernel
theorem dX10_shadowOf_22 : decode cX10_shadowOf 22 = .ok (.irem, 1) := by decide +kernel
theorem dX10_shadowOf_23 : decode cX10_shadowOf 23 = .ok (.iload 7, 2) := by decide +kernel
theorem dX10_shadowOf_25 : decode cX10_shadowOf 25 = .ok (.iload_n 0, 1) := by decide +kernel
theorem dX10_shadowOf_26 : decode cX10_shadowOf 26 = .ok (.idiv, 1) := by decide +kernel
theorem dX10_shadowOf_27 : decode cX10_shadowOf 27 = .ok (.invokestatic 100, 3) := by decide +kernel
theorem dX10_shadowOf_30 : decode cX10_shadowOf 30 = .ok (.iload 5, 2) := by decide +kernel
theorem dX10_shadowOf_32 : decode cX10_shadowOf 32 = .ok (.if_icmp .ne 12, 3) := by decide +kernel
theorem dX10_shadowOf_35 : decode cX10_shadowOf 35 = .ok (.lload_n 2, 1) := by decide +kernel
theorem dX10_shadowOf_36 : decode cX10_shadowOf 36 = .ok (.iload 7, 2) := by decide +kernel
theorem dX10_shadowOf_38 : decode cX10_shadowOf 38 = .ok (.invokestatic 104, 3) := by decide +kernel
theorem dX10_shadowOf_41 : decode cX10_shadowOf 41 = .ok (.goto 4, 3) := by decide +kernel
theorem dX10_shadowOf_44 : decode cX10_shadowOf 44 = .ok (.iconst 0, 1) := by decide +kernel
theorem dX10_shadowOf_45 : decode cX10_shadowOf 45 = .ok (.iadd, 1) := by decide +kernel
theorem dX10_shadowOf_46 : decode cX10_shadowOf 46 = .ok (.istore 6, 2) := by decide +kernel
theorem dX10_shadowOf_48 : decode cX10_shadowOf 48 = .ok (.iinc 7 1, 3) := by decide +kernel
theorem dX10_shadowOf_51 : decode cX10_shadowOf 51 = .ok (.goto (-45), 3) := by decide +kernel
theorem dX10_shadowOf_54 : decode cX10_shadowOf 54 = .ok (.iload 6, 2) := by decide +kernel
theorem dX10_shadowOf_56 : decode cX10_shadowOf 56 = .ok (.ireturn, 1) := by decide +kernel
set_option maxRecDepth 20000 in
theorem ggX10_countOnes_X10_one : GoodIn wsX10_countOnes wsX10_one := goodIn_r _ [4] (by decide +kernel) (by decide +kernel)
def chX10_countOnes : List (List Cond) := [[.methodLink RX10 104 yX10_one, .static yX10_one, .initialized RX10, .code yX10_one cX10_one 3 (some .int)]]
set_option maxRecDepth 20000 in
theorem chX10_countOnes_in : ∀ c ∈ chX10_countOnes, ∀ w ∈ c, w ∈ wsX10_countOnes := (all_c (P := fun c => ∀ w ∈ c, w ∈ wsX10_countOnes) (fun w h => List.mem_cons_of_mem _ (h)) (fun _ h => nomatch h))
set_option maxRecDepth 20000 in
theorem gX10_countOnes_X10_one : GoodIn wsX10_countOnes (va_wsS RX10 104 yX10_one wsX10_one) := goodIn_app (goodIn_c chX10_countOnes chX10_countOnes_in _ [(0, 0), (0, 1), (0, 2)] (by rfl) (by decide +kernel)) ggX10_countOnes_X10_one
theorem dX10_countOnes_0 : decode cX10_countOnes 0 = .ok (.iconst 0, 1) := by decide +kernel
theorem dX10_countOnes_1 : decode cX10_countOnes 1 = .ok (.istore_n 2, 1) := by decide +kernel
theorem dX10_countOnes_2 : decode cX10_countOnes 2 = .ok (.iconst 0, 1) := by decide +kernel
theorem dX10_countOnes_3 : decode cX10_countOnes 3 = .ok (.istore_n 3, 1) := by decide +kernel
theorem dX10_countOnes_4 : decode cX10_countOnes 4 = .ok (.iload_n 3, 1) := by decide +kernel
theorem dX10_countOnes_5 : decode cX10_countOnes 5 = .ok (.bipush 36, 2) := by decide +kernel
theorem dX10_countOnes_7 : decode cX10_countOnes 7 = .ok (.if_icmp .ge 17, 3) := by decide +kernel
theorem dX10_countOnes_10 : decode cX10_countOnes 10 = .ok (.iload_n 2, 1) := by decide +kernel
theorem dX10_countOnes_11 : decode cX10_countOnes 11 = .ok (.lload_n 0, 1) := by decide +kernel
theorem dX10_countOnes_12 : decode cX10_countOnes 12 = .ok (.iload_n 3, 1) := by decide +kernel
theorem dX10_countOnes_13 : decode cX10_countOnes 13 = .ok (.invokestatic 104, 3) := by decide +kernel
theorem dX10_countOnes_16 : decode cX10_countOnes 16 = .ok (.iadd, 1) := by decide +kernel
theorem dX10_countOnes_17 : decode cX10_countOnes 17 = .ok (.istore_n 2, 1) := by decide +kernel
theorem dX10_countOnes_18 : decode cX10_countOnes 18 = .ok (.iinc 3 1, 3) := by decide +kernel
theorem dX10_countOnes_21 : decode cX10_countOnes 21 = .ok (.goto (-17), 3) := by decide +kernel
theorem dX10_countOnes_24 : decode cX10_countOnes 24 = .ok (.iload_n 2, 1) := by decide +kernel
theorem dX10_countOnes_25 : decode cX10_countOnes 25 = .ok (.ireturn, 1) := by decide +kernel
theorem dX10_isShelf_0 : decode cX10_isShelf 0 = .ok (.iload_n 0, 1) := by decide +kernel
theorem dX10_isShelf_1 : decode cX10_isShelf 1 = .ok (.ifCond .lt 13, 3) := by decide +kernel
theorem dX10_isShelf_4 : decode cX10_isShelf 4 = .ok (.iload_n 0, 1) := by decide +kernel
theorem dX10_isShelf_5 : decode cX10_isShelf 5 = .ok (.bipush 8, 2) := by decide +kernel
theorem dX10_isShelf_7 : decode cX10_isShelf 7 = .ok (.if_icmp .ge 7, 3) := by decide +kernel
theorem dX10_isShelf_10 : decode cX10_isShelf 10 = .ok (.iconst 1, 1) := by decide +kernel
theorem dX10_isShelf_11 : decode cX10_isShelf 11 = .ok (.goto 4, 3) := by decide +kernel
theorem dX10_isShelf_14 : decode cX10_isShelf 14 = .ok (.iconst 0, 1) := by decide +kernel
theorem dX10_isShelf_15 : decode cX10_isShelf 15 = .ok (.ireturn, 1) := by decide +kernel

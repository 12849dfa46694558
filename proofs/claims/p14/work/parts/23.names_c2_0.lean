def tyX0 : Nat → FieldType := fun k => match k with
  | 0 => .int
  | 1 => .int
  | 2 => .int
  | 3 => .int
  | 4 => .int
  | 5 => .array .long
  | 6 => .array .long
  | _ => .array .long
theorem nmX0 : ∀ a, a < 8 → ∀ b, b < 8 → a ≠ b → (TX0 a).2.1 ≠ (TX0 b).2.1 := by decide +kernel
theorem tyX0_ok : ∀ k, k < 8 → parseFieldDescriptor (TX0 k).2.2.1 = some (tyX0 k) := by decide +kernel
abbrev cX0_init : ByteArray := prog_2_method_1_code
def yX0_init : MethodName := ⟨RX0, "<init>", "(II)V"⟩
abbrev cX0_drawLines : ByteArray := prog_2_method_5_code
def yX0_drawLines : MethodName := ⟨RX0, "drawLines", "()V"⟩
abbrev cX0_drawFours : ByteArray := prog_2_method_6_code
def yX0_drawFours : MethodName := ⟨RX0, "drawFours", "()V"⟩
abbrev cX0_drawFoursOfRows : ByteArray := prog_2_method_7_code
def yX0_drawFoursOfRows : MethodName := ⟨RX0, "drawFoursOfRows", "(III)I"⟩
abbrev cX1_init : ByteArray := prog_3_method_1_code
def yX1_init : MethodName := ⟨RX1, "<init>", "(LShadowBench$Board;)V"⟩
abbrev cX1_isAsKindAsks : ByteArray := prog_3_method_2_code
def yX1_isAsKindAsks : MethodName := ⟨RX1, "isAsKindAsks", "(J)Z"⟩
abbrev cX1_heft : ByteArray := prog_3_method_3_code
def yX1_heft : MethodName := ⟨RX1, "heft", "()I"⟩
abbrev cX1_asItIs : ByteArray := prog_3_method_5_code
def yX1_asItIs : MethodName := ⟨RX1, "asItIs", "()LShadowBench$Job;"⟩
abbrev cX2_init : ByteArray := prog_4_method_1_code
abbrev cX3_init : ByteArray := prog_5_method_1_code
def yX3_init : MethodName := ⟨RX3, "<init>", "(LShadowBench$Board;)V"⟩
abbrev cX3_isTold : ByteArray := prog_5_method_2_code
def yX3_isTold : MethodName := ⟨RX3, "isTold", "(I)Z"⟩
abbrev cX3_sumOf : ByteArray := prog_5_method_3_code
def yX3_sumOf : MethodName := ⟨RX3, "sumOf", "(II)I"⟩
abbrev cX3_tellLine : ByteArray := prog_5_method_4_code
def yX3_tellLine : MethodName := ⟨RX3, "tellLine", "(III)V"⟩
abbrev cX3_tellShadow : ByteArray := prog_5_method_5_code
def yX3_tellShadow : MethodName := ⟨RX3, "tellShadow", "(IJ)V"⟩
abbrev cX3_forgetWay : ByteArray := prog_5_method_6_code
def yX3_forgetWay : MethodName := ⟨RX3, "forgetWay", "(I)V"⟩
abbrev cX3_howHeld : ByteArray := prog_5_method_7_code
def yX3_howHeld : MethodName := ⟨RX3, "howHeld", "(I)I"⟩
abbrev cX3_holdSquare : ByteArray := prog_5_method_8_code
def yX3_holdSquare : MethodName := ⟨RX3, "holdSquare", "(II)V"⟩
abbrev cX3_onesHeldInRow : ByteArray := prog_5_method_9_code
def yX3_onesHeldInRow : MethodName := ⟨RX3, "onesHeldInRow", "(I)I"⟩
abbrev cX3_noughtsHeldInRow : ByteArray := prog_5_method_10_code
def yX3_noughtsHeldInRow : MethodName := ⟨RX3, "noughtsHeldInRow", "(I)I"⟩
abbrev cX3_fullColumns : ByteArray := prog_5_method_11_code
def yX3_fullColumns : MethodName := ⟨RX3, "fullColumns", "(J)I"⟩
abbrev cX3_admits : ByteArray := prog_5_method_12_code
def yX3_admits : MethodName := ⟨RX3, "admits", "(J)Z"⟩
abbrev cX3_hasShadowsAsTold : ByteArray := prog_5_method_13_code
def yX3_hasShadowsAsTold : MethodName := ⟨RX3, "hasShadowsAsTold", "(J)Z"⟩
abbrev cX3_isAsKindAsks : ByteArray := prog_5_method_14_code
def yX3_isAsKindAsks : MethodName := ⟨RX3, "isAsKindAsks", "(J)Z"⟩
abbrev cX3_sumOfWay : ByteArray := prog_5_method_15_code
def yX3_sumOfWay : MethodName := ⟨RX3, "sumOfWay", "(I)I"⟩
abbrev cX3_greatestColumns : ByteArray := prog_5_method_16_code
def yX3_greatestColumns : MethodName := ⟨RX3, "greatestColumns", "(I)I"⟩
abbrev cX3_roomInRows : ByteArray := prog_5_method_17_code
def yX3_roomInRows : MethodName := ⟨RX3, "roomInRows", "(I)I"⟩
abbrev cX3_heft : ByteArray := prog_5_method_18_code
def yX3_heft : MethodName := ⟨RX3, "heft", "()I"⟩
abbrev cX3_asItIs : ByteArray := prog_5_method_20_code
def yX3_asItIs : MethodName := ⟨RX3, "asItIs", "()LShadowBench$Job;"⟩
abbrev cX3_alike : ByteArray := prog_5_method_21_code
def yX3_alike : MethodName := ⟨RX3, "alike", "(LShadowBench$Job;)LShadowBench$Job;"⟩
abbrev cX4_init : ByteArray := prog_6_method_1_code
def yX4_init : MethodName := ⟨RX4, "<init>", "(LShadowBench$Board;)V"⟩
abbrev cX4_isAsKindAsks : ByteArray := prog_6_method_2_code
def yX4_isAsKindAsks : MethodName := ⟨RX4, "isAsKindAsks", "(J)Z"⟩
abbrev cX4_heft : ByteArray := prog_6_method_3_code
def yX4_heft : MethodName := ⟨RX4, "heft", "()I"⟩
abbrev cX4_asItIs : ByteArray := prog_6_method_5_code
def yX4_asItIs : MethodName := ⟨RX4, "asItIs", "()LShadowBench$Job;"⟩
abbrev cX5_init : ByteArray := prog_7_method_1_code
def yX5_init : MethodName := ⟨RX5, "<init>", "(LShadowBench$Board;)V"⟩
abbrev cX5_setMark : ByteArray := prog_7_method_2_code
def yX5_setMark : MethodName := ⟨RX5, "setMark", "(II)Z"⟩
abbrev cX5_worthOf : ByteArray := prog_7_method_3_code
def yX5_worthOf : MethodName := ⟨RX5, "worthOf", "(J)I"⟩
abbrev cX5_heft : ByteArray := prog_7_method_4_code
def yX5_heft : MethodName := ⟨RX5, "heft", "()I"⟩
abbrev cX5_asItIs : ByteArray := prog_7_method_6_code
def yX5_asItIs : MethodName := ⟨RX5, "asItIs", "()LShadowBench$Job;"⟩
def tyX7 : Nat → FieldType := fun k => match k with
  | 0 => .boolean
  | _ => .array .long
abbrev wsX70 : List Cond := u_ws RX7 TX7 2
theorem nmX7 : ∀ a, a < 2 → ∀ b, b < 2 → a ≠ b → (TX7 a).2.1 ≠ (TX7 b).2.1 := by decide +kernel
theorem tyX7_ok : ∀ k, k < 2 → parseFieldDescriptor (TX7 k).2.2.1 = some (tyX7 k) := by decide +kernel
abbrev cX7_init : ByteArray := prog_9_method_1_code
def yX7_init : MethodName := ⟨RX7, "<init>", "(ZI)V"⟩
abbrev cX7_size : ByteArray := prog_9_method_2_code
def yX7_size : MethodName := ⟨RX7, "size", "()I"⟩
abbrev cX7_has : ByteArray := prog_9_method_3_code
def yX7_has : MethodName := ⟨RX7, "has", "(II)Z"⟩
abbrev cX7_numberAt : ByteArray := prog_9_method_4_code
def yX7_numberAt : MethodName := ⟨RX7, "numberAt", "(I)J"⟩
abbrev cX7_put : ByteArray := prog_9_method_5_code
def yX7_put : MethodName := ⟨RX7, "put", "(IJ)V"⟩
abbrev cX7_takeFrom : ByteArray := prog_9_method_6_code
def yX7_takeFrom : MethodName := ⟨RX7, "takeFrom", "(LShadowBench$Row;III)V"⟩
def wsX0_drawLines : List Cond := .code yX0_drawLines cX0_drawLines 4 none :: ([.fieldLink RX0 17 "ShadowBench$Board" "high" "I", .fieldLink RX0 13 "ShadowBench$Board" "wide" "I", .fieldLink RX0 9 "ShadowBench$Board" "lines" "[J", .methodLink RX0 45 yX0_lineThrough, .instanceMethod yX0_lineThrough, .selects RX0 yX0_lineThrough yX0_lineThrough, .initialized RX0, .code yX0_lineThrough cX0_lineThrough 4 (some .int), .methodLink RX0 49 yX0_bit, .instanceMethod yX0_bit, .selects RX0 yX0_bit yX0_bit, .code yX0_bit cX0_bit 3 (some .long)] ++ wsX00)
def wsX0_drawFoursOfRows : List Cond := .code yX0_drawFoursOfRows cX0_drawFoursOfRows 7 (some .int) :: ([.fieldLink RX0 13 "ShadowBench$Board" "wide" "I", .fieldLink RX0 30 "ShadowBench$Board" "fours" "I", .fieldLink RX0 33 "ShadowBench$Board" "falling" "[J", .fieldLink RX0 36 "ShadowBench$Board" "rising" "[J", .methodLink RX0 49 yX0_bit, .instanceMethod yX0_bit, .selects RX0 yX0_bit yX0_bit, .initialized RX0, .code yX0_bit cX0_bit 3 (some .long)] ++ wsX00)
def wsX0_drawFours : List Cond := .code yX0_drawFours cX0_drawFours 4 none :: ([.fieldLink RX0 17 "ShadowBench$Board" "high" "I", .methodLink RX0 53 yX0_drawFoursOfRows, .instanceMethod yX0_drawFoursOfRows, .selects RX0 yX0_drawFoursOfRows yX0_drawFoursOfRows, .initialized RX0, .code yX0_drawFoursOfRows cX0_drawFoursOfRows 7 (some .int), .fieldLink RX0 13 "ShadowBench$Board" "wide" "I", .fieldLink RX0 30 "ShadowBench$Board" "fours" "I", .fieldLink RX0 33 "ShadowBench$Board" "falling" "[J", .fieldLink RX0 36 "ShadowBench$Board" "rising" "[J", .methodLink RX0 49 yX0_bit, .instanceMethod yX0_bit, .selects RX0 yX0_bit yX0_bit, .code yX0_bit cX0_bit 3 (some .long)] ++ wsX00)
def wsX0_init_r1 : List Cond := [Cond.methodLink RX0 1 objectInit, Cond.instanceMethod objectInit, Cond.code objectInit ⟨#[0xb1]⟩ 1 none, Cond.arrayClass .long, Cond.fieldLink RX0 9 "ShadowBench$Board" "lines" "[J", Cond.fieldLink RX0 13 "ShadowBench$Board" "wide" "I", Cond.fieldLink RX0 17 "ShadowBench$Board" "high" "I", Cond.fieldLink RX0 20 "ShadowBench$Board" "squares" "I", Cond.fieldLink RX0 23 "ShadowBench$Board" "rowNumbers" "I", Cond.fieldLink RX0 30 "ShadowBench$Board" "fours" "I", Cond.fieldLink RX0 33 "ShadowBench$Board" "falling" "[J", Cond.fieldLink RX0 36 "ShadowBench$Board" "rising" "[J", Cond.methodLink RX0 26 yX0_pairsOf, Cond.static yX0_pairsOf, Cond.initialized RX0, Cond.code yX0_pairsOf cX0_pairsOf 1 (some .int), Cond.methodLink RX0 39 yX0_drawLines, Cond.instanceMethod yX0_drawLines, Cond.selects RX0 yX0_drawLines yX0_drawLines, Cond.code yX0_drawLines cX0_drawLines 4 none, Cond.methodLink RX0 45 yX0_lineThrough, Cond.instanceMethod yX0_lineThrough, Cond.selects RX0 yX0_lineThrough yX0_lineThrough, Cond.code yX0_lineThrough cX0_lineThrough 4 (some .int)]
def wsX0_init_r2 : List Cond := [Cond.methodLink RX0 49 yX0_bit, Cond.instanceMethod yX0_bit, Cond.selects RX0 yX0_bit yX0_bit, Cond.code yX0_bit cX0_bit 3 (some .long), Cond.methodLink RX0 42 yX0_drawFours, Cond.instanceMethod yX0_drawFours, Cond.selects RX0 yX0_drawFours yX0_drawFours, Cond.code yX0_drawFours cX0_drawFours 4 none, Cond.methodLink RX0 53 yX0_drawFoursOfRows, Cond.instanceMethod yX0_drawFoursOfRows, Cond.selects RX0 yX0_drawFoursOfRows yX0_drawFoursOfRows, Cond.code yX0_drawFoursOfRows cX0_drawFoursOfRows 7 (some .int)]
def wsX0_init : List Cond := .code yX0_init cX0_init 3 none :: ((wsX0_init_r1 ++ wsX0_init_r2) ++ wsX00)
def wsX2_init : List Cond := .code yX2_init cX2_init 1 none :: ([.methodLink RX2 1 objectInit, .instanceMethod objectInit, .code objectInit ⟨#[0xb1]⟩ 1 none])
def wsX3_init : List Cond := .code yX3_init cX3_init 2 none :: ([.arrayClass .int, .fieldLink RX3 11 "ShadowBench$Job" "sums" "[I", .fieldLink RX3 17 "ShadowBench$Job" "toldWays" "I", .fieldLink RX3 21 "ShadowBench$Job" "heldOnes" "J", .fieldLink RX3 25 "ShadowBench$Job" "heldNoughts" "J", .fieldLink RX3 28 "ShadowBench$Job" "board" "LShadowBench$Board;", .instanceMethod yX2_init, .initialized RX2, .code yX2_init cX2_init 1 none, .methodLink RX2 1 objectInit, .instanceMethod objectInit, .code objectInit ⟨#[0xb1]⟩ 1 none] ++ wsX10 ++ wsX30 ++ wsX40 ++ wsX50)
def wsX4_init : List Cond := .code yX4_init cX4_init 2 none :: ([.methodLink RX4 1 yX3_init, .instanceMethod yX3_init, .initialized RX3, .code yX3_init cX3_init 2 none, .arrayClass .int, .fieldLink RX3 11 "ShadowBench$Job" "sums" "[I", .fieldLink RX3 17 "ShadowBench$Job" "toldWays" "I", .fieldLink RX3 21 "ShadowBench$Job" "heldOnes" "J", .fieldLink RX3 25 "ShadowBench$Job" "heldNoughts" "J", .fieldLink RX3 28 "ShadowBench$Job" "board" "LShadowBench$Board;", .instanceMethod yX2_init, .initialized RX2, .code yX2_init cX2_init 1 none, .methodLink RX2 1 objectInit, .instanceMethod objectInit, .code objectInit ⟨#[0xb1]⟩ 1 none] ++ wsX10 ++ wsX30 ++ wsX40 ++ wsX50)
def wsX1_init : List Cond := .code yX1_init cX1_init 2 none :: ([.methodLink RX1 1 yX4_init, .instanceMethod yX4_init, .initialized RX4, .code yX4_init cX4_init 2 none, .methodLink RX4 1 yX3_init, .instanceMethod yX3_init, .initialized RX3, .code yX3_init cX3_init 2 none, .arrayClass .int, .fieldLink RX3 11 "ShadowBench$Job" "sums" "[I", .fieldLink RX3 17 "ShadowBench$Job" "toldWays" "I", .fieldLink RX3 21 "ShadowBench$Job" "heldOnes" "J", .fieldLink RX3 25 "ShadowBench$Job" "heldNoughts" "J", .fieldLink RX3 28 "ShadowBench$Job" "board" "LShadowBench$Board;", .instanceMethod yX2_init, .initialized RX2, .code yX2_init cX2_init 1 none, .methodLink RX2 1 objectInit, .instanceMethod objectInit, .code objectInit ⟨#[0xb1]⟩ 1 none] ++ wsX10 ++ wsX30 ++ wsX40 ++ wsX50)
def wsX4_isAsKindAsks : List Cond := .code yX4_isAsKindAsks cX4_isAsKindAsks 3 (some .boolean) :: ([.fieldLink RX4 7 "ShadowBench$JoinedJob" "board" "LShadowBench$Board;", .sameField "ShadowBench$JoinedJob" "ShadowBench$Job" "board" "LShadowBench$Board;", .methodLink RX4 13 yX0_hangsTogether, .instanceMethod yX0_hangsTogether, .selects RX0 yX0_hangsTogether yX0_hangsTogether, .initialized RX0, .code yX0_hangsTogether cX0_hangsTogether 14 (some .boolean), .fieldLink RX0 9 "ShadowBench$Board" "lines" "[J", .fieldLink RX0 13 "ShadowBench$Board" "wide" "I", .fieldLink RX0 20 "ShadowBench$Board" "squares" "I", .constantLong RX0 73 (-1)] ++ wsX10 ++ wsX30 ++ wsX40 ++ wsX50 ++ wsX00)
def wsX1_isAsKindAsks_r1 : List Cond := [Cond.fieldLink RX1 11 "ShadowBench$EvenJob" "board" "LShadowBench$Board;", Cond.sameField "ShadowBench$EvenJob" "ShadowBench$Job" "board" "LShadowBench$Board;", Cond.methodLink RX1 7 yX4_isAsKindAsks, Cond.sameMethod "ShadowBench$JoinedJob" "ShadowBench$JoinedJob" "isAsKindAsks" "(J)Z", Cond.superclass RX1 RX4, Cond.instanceMethod yX4_isAsKindAsks, Cond.initialized RX4, Cond.code yX4_isAsKindAsks cX4_isAsKindAsks 3 (some .boolean), Cond.fieldLink RX4 7 "ShadowBench$JoinedJob" "board" "LShadowBench$Board;", Cond.sameField "ShadowBench$JoinedJob" "ShadowBench$Job" "board" "LShadowBench$Board;", Cond.methodLink RX4 13 yX0_hangsTogether, Cond.instanceMethod yX0_hangsTogether, Cond.selects RX0 yX0_hangsTogether yX0_hangsTogether, Cond.initialized RX0, Cond.code yX0_hangsTogether cX0_hangsTogether 14 (some .boolean), Cond.fieldLink RX0 9 "ShadowBench$Board" "lines" "[J", Cond.fieldLink RX0 13 "ShadowBench$Board" "wide" "I", Cond.fieldLink RX0 20 "ShadowBench$Board" "squares" "I", Cond.constantLong RX0 73 (-1), Cond.methodLink RX1 17 yX0_rowsAreWhole, Cond.instanceMethod yX0_rowsAreWhole, Cond.selects RX0 yX0_rowsAreWhole yX0_rowsAreWhole, Cond.code yX0_rowsAreWhole cX0_rowsAreWhole 5 (some .boolean), Cond.fieldLink RX0 17 "ShadowBench$Board" "high" "I"]
def wsX1_isAsKindAsks_r2 : List Cond := [Cond.methodLink RX0 75 yX0_rowOf, Cond.instanceMethod yX0_rowOf, Cond.selects RX0 yX0_rowOf yX0_rowOf, Cond.code yX0_rowOf cX0_rowOf 4 (some .int), Cond.fieldLink RX0 23 "ShadowBench$Board" "rowNumbers" "I", Cond.methodLink RX1 22 yX0_columnsAreWhole, Cond.instanceMethod yX0_columnsAreWhole, Cond.selects RX0 yX0_columnsAreWhole yX0_columnsAreWhole, Cond.code yX0_columnsAreWhole cX0_columnsAreWhole 7 (some .boolean)]
def wsX1_isAsKindAsks : List Cond := .code yX1_isAsKindAsks cX1_isAsKindAsks 3 (some .boolean) :: ((wsX1_isAsKindAsks_r1 ++ wsX1_isAsKindAsks_r2) ++ wsX10 ++ wsX30 ++ wsX40 ++ wsX50 ++ wsX00)
def wsX3_heft : List Cond := .code yX3_heft cX3_heft 1 (some .int) :: ([.fieldLink RX3 28 "ShadowBench$Job" "board" "LShadowBench$Board;", .fieldLink RX3 80 "ShadowBench$Board" "squares" "I"] ++ wsX10 ++ wsX30 ++ wsX40 ++ wsX50 ++ wsX00)
def wsX4_heft : List Cond := .code yX4_heft cX4_heft 1 (some .int) :: ([.methodLink RX4 19 yX3_heft, .sameMethod "ShadowBench$Job" "ShadowBench$Job" "heft" "()I", .superclass RX4 RX3, .instanceMethod yX3_heft, .initialized RX3, .code yX3_heft cX3_heft 1 (some .int), .fieldLink RX3 28 "ShadowBench$Job" "board" "LShadowBench$Board;", .fieldLink RX3 80 "ShadowBench$Board" "squares" "I"] ++ wsX10 ++ wsX30 ++ wsX40 ++ wsX50 ++ wsX00)
def wsX1_heft : List Cond := .code yX1_heft cX1_heft 1 (some .int) :: ([.methodLink RX1 25 yX4_heft, .sameMethod "ShadowBench$JoinedJob" "ShadowBench$JoinedJob" "heft" "()I", .superclass RX1 RX4, .instanceMethod yX4_heft, .initialized RX4, .code yX4_heft cX4_heft 1 (some .int), .methodLink RX4 19 yX3_heft, .sameMethod "ShadowBench$Job" "ShadowBench$Job" "heft" "()I", .superclass RX4 RX3, .instanceMethod yX3_heft, .initialized RX3, .code yX3_heft cX3_heft 1 (some .int), .fieldLink RX3 28 "ShadowBench$Job" "board" "LShadowBench$Board;", .fieldLink RX3 80 "ShadowBench$Board" "squares" "I"] ++ wsX10 ++ wsX30 ++ wsX40 ++ wsX50 ++ wsX00)
def wsX3_alike : List Cond := .code yX3_alike cX3_alike 2 (some (.object "ShadowBench$Job")) :: ([.fieldLink RX3 11 "ShadowBench$Job" "sums" "[I", .methodLink RX3 90 arraycopyName, .native arraycopyName, .static arraycopyName, .initialized "java/lang/System", .fieldLink RX3 17 "ShadowBench$Job" "toldWays" "I", .fieldLink RX3 21 "ShadowBench$Job" "heldOnes" "J", .fieldLink RX3 25 "ShadowBench$Job" "heldNoughts" "J"] ++ wsX10 ++ wsX30 ++ wsX40 ++ wsX50)
def wsX1_asItIs_r1 : List Cond := [Cond.classLink RX1 12 RX1, Cond.instantiable RX1 5, Cond.initialized RX1, Cond.fieldLink RX1 11 "ShadowBench$EvenJob" "board" "LShadowBench$Board;", Cond.sameField "ShadowBench$EvenJob" "ShadowBench$Job" "board" "LShadowBench$Board;", Cond.methodLink RX1 36 yX1_init, Cond.instanceMethod yX1_init, Cond.code yX1_init cX1_init 2 none, Cond.methodLink RX1 1 yX4_init, Cond.instanceMethod yX4_init, Cond.initialized RX4, Cond.code yX4_init cX4_init 2 none, Cond.methodLink RX4 1 yX3_init, Cond.instanceMethod yX3_init, Cond.initialized RX3, Cond.code yX3_init cX3_init 2 none, Cond.arrayClass .int, Cond.fieldLink RX3 11 "ShadowBench$Job" "sums" "[I", Cond.fieldLink RX3 17 "ShadowBench$Job" "toldWays" "I", Cond.fieldLink RX3 21 "ShadowBench$Job" "heldOnes" "J", Cond.fieldLink RX3 25 "ShadowBench$Job" "heldNoughts" "J", Cond.fieldLink RX3 28 "ShadowBench$Job" "board" "LShadowBench$Board;", Cond.instanceMethod yX2_init, Cond.initialized RX2]
def wsX1_asItIs_r2 : List Cond := [Cond.code yX2_init cX2_init 1 none, Cond.methodLink RX2 1 objectInit, Cond.instanceMethod objectInit, Cond.code objectInit ⟨#[0xb1]⟩ 1 none, Cond.methodLink RX1 37 ⟨"ShadowBench$EvenJob", "alike", "(LShadowBench$Job;)LShadowBench$Job;"⟩, Cond.sameMethod "ShadowBench$EvenJob" "ShadowBench$Job" "alike" "(LShadowBench$Job;)LShadowBench$Job;", Cond.selects RX1 ⟨"ShadowBench$EvenJob", "alike", "(LShadowBench$Job;)LShadowBench$Job;"⟩ yX3_alike, Cond.instanceMethod yX3_alike, Cond.code yX3_alike cX3_alike 2 (some (.object "ShadowBench$Job")), Cond.methodLink RX3 90 arraycopyName, Cond.native arraycopyName, Cond.static arraycopyName, Cond.initialized "java/lang/System"]
def wsX1_asItIs : List Cond := .code yX1_asItIs cX1_asItIs 1 (some (.object "ShadowBench$Job")) :: ((wsX1_asItIs_r1 ++ wsX1_asItIs_r2) ++ wsX10 ++ wsX30 ++ wsX40 ++ wsX50)
def wsX3_isTold : List Cond := .code yX3_isTold cX3_isTold 2 (some .boolean) :: ([.fieldLink RX3 17 "ShadowBench$Job" "toldWays" "I"] ++ wsX10 ++ wsX30 ++ wsX40 ++ wsX50)
def wsX3_sumOf : List Cond := .code yX3_sumOf cX3_sumOf 4 (some .int) :: ([.fieldLink RX3 11 "ShadowBench$Job" "sums" "[I"] ++ wsX10 ++ wsX30 ++ wsX40 ++ wsX50)
def wsX3_tellLine : List Cond := .code yX3_tellLine cX3_tellLine 4 none :: ([.fieldLink RX3 28 "ShadowBench$Job" "board" "LShadowBench$Board;", .fieldLink RX3 11 "ShadowBench$Job" "sums" "[I", .fieldLink RX3 17 "ShadowBench$Job" "toldWays" "I", .methodLink RX3 32 yX0_isLine, .instanceMethod yX0_isLine, .selects RX0 yX0_isLine yX0_isLine, .initialized RX0, .code yX0_isLine cX0_isLine 3 (some .boolean), .methodLink RX0 56 yX0_lineCount, .instanceMethod yX0_lineCount, .selects RX0 yX0_lineCount yX0_lineCount, .code yX0_lineCount cX0_lineCount 2 (some .int), .fieldLink RX0 17 "ShadowBench$Board" "high" "I", .fieldLink RX0 13 "ShadowBench$Board" "wide" "I"] ++ wsX10 ++ wsX30 ++ wsX40 ++ wsX50 ++ wsX00)
def wsX3_tellShadow_r1 : List Cond := [Cond.fieldLink RX3 28 "ShadowBench$Job" "board" "LShadowBench$Board;", Cond.methodLink RX3 36 yX0_lineCount, Cond.instanceMethod yX0_lineCount, Cond.selects RX0 yX0_lineCount yX0_lineCount, Cond.initialized RX0, Cond.code yX0_lineCount cX0_lineCount 2 (some .int), Cond.fieldLink RX0 17 "ShadowBench$Board" "high" "I", Cond.fieldLink RX0 13 "ShadowBench$Board" "wide" "I", Cond.methodLink RX3 40 yX0_onesOfLine, Cond.instanceMethod yX0_onesOfLine, Cond.selects RX0 yX0_onesOfLine yX0_onesOfLine, Cond.code yX0_onesOfLine cX0_onesOfLine 6 (some .int), Cond.fieldLink RX0 9 "ShadowBench$Board" "lines" "[J", Cond.methodLink RX0 59 yJ13_bitCount_95d88, Cond.static yJ13_bitCount_95d88, Cond.initialized RJ13, Cond.code yJ13_bitCount_95d88 cJ13_bitCount_95d88 2 (some .int), Cond.constantLong RJ13 314 (6148914691236517205), Cond.constantLong RJ13 316 (3689348814741910323), Cond.constantLong RJ13 318 (1085102592571150095), Cond.methodLink RX3 44 ⟨"ShadowBench$Job", "tellLine", "(III)V"⟩, Cond.sameMethod "ShadowBench$Job" "ShadowBench$Job" "tellLine" "(III)V", Cond.selects RX1 ⟨"ShadowBench$Job", "tellLine", "(III)V"⟩ yX3_tellLine, Cond.instanceMethod yX3_tellLine]
def wsX3_tellShadow_r2 : List Cond := [Cond.initialized RX3, Cond.code yX3_tellLine cX3_tellLine 4 none, Cond.fieldLink RX3 11 "ShadowBench$Job" "sums" "[I", Cond.fieldLink RX3 17 "ShadowBench$Job" "toldWays" "I", Cond.methodLink RX3 32 yX0_isLine, Cond.instanceMethod yX0_isLine, Cond.selects RX0 yX0_isLine yX0_isLine, Cond.code yX0_isLine cX0_isLine 3 (some .boolean), Cond.methodLink RX0 56 yX0_lineCount, Cond.methodLink RX3 44 yX3_tellLine, Cond.selects RX3 yX3_tellLine yX3_tellLine, Cond.selects RX4 ⟨"ShadowBench$Job", "tellLine", "(III)V"⟩ yX3_tellLine, Cond.selects RX5 ⟨"ShadowBench$Job", "tellLine", "(III)V"⟩ yX3_tellLine]
def wsX3_tellShadow : List Cond := .code yX3_tellShadow cX3_tellShadow 5 none :: ((wsX3_tellShadow_r1 ++ wsX3_tellShadow_r2) ++ wsX10 ++ wsX30 ++ wsX40 ++ wsX50 ++ wsX00)
def wsX3_forgetWay_r1 : List Cond := [Cond.fieldLink RX3 28 "ShadowBench$Job" "board" "LShadowBench$Board;", Cond.fieldLink RX3 17 "ShadowBench$Job" "toldWays" "I", Cond.methodLink RX3 36 yX0_lineCount, Cond.instanceMethod yX0_lineCount, Cond.selects RX0 yX0_lineCount yX0_lineCount, Cond.initialized RX0, Cond.code yX0_lineCount cX0_lineCount 2 (some .int), Cond.fieldLink RX0 17 "ShadowBench$Board" "high" "I", Cond.fieldLink RX0 13 "ShadowBench$Board" "wide" "I", Cond.methodLink RX3 44 ⟨"ShadowBench$Job", "tellLine", "(III)V"⟩, Cond.sameMethod "ShadowBench$Job" "ShadowBench$Job" "tellLine" "(III)V", Cond.selects RX1 ⟨"ShadowBench$Job", "tellLine", "(III)V"⟩ yX3_tellLine, Cond.instanceMethod yX3_tellLine, Cond.initialized RX3, Cond.code yX3_tellLine cX3_tellLine 4 none, Cond.fieldLink RX3 11 "ShadowBench$Job" "sums" "[I", Cond.methodLink RX3 32 yX0_isLine, Cond.instanceMethod yX0_isLine, Cond.selects RX0 yX0_isLine yX0_isLine, Cond.code yX0_isLine cX0_isLine 3 (some .boolean), Cond.methodLink RX0 56 yX0_lineCount, Cond.methodLink RX3 44 yX3_tellLine, Cond.selects RX3 yX3_tellLine yX3_tellLine, Cond.selects RX4 ⟨"ShadowBench$Job", "tellLine", "(III)V"⟩ yX3_tellLine]
def wsX3_forgetWay_r2 : List Cond := [Cond.selects RX5 ⟨"ShadowBench$Job", "tellLine", "(III)V"⟩ yX3_tellLine]
def wsX3_forgetWay : List Cond := .code yX3_forgetWay cX3_forgetWay 3 none :: ((wsX3_forgetWay_r1 ++ wsX3_forgetWay_r2) ++ wsX10 ++ wsX30 ++ wsX40 ++ wsX50 ++ wsX00)
def wsX3_howHeld : List Cond := .code yX3_howHeld cX3_howHeld 2 (some .int) :: ([.fieldLink RX3 21 "ShadowBench$Job" "heldOnes" "J", .fieldLink RX3 25 "ShadowBench$Job" "heldNoughts" "J"] ++ wsX10 ++ wsX30 ++ wsX40 ++ wsX50)
def wsX3_holdSquare : List Cond := .code yX3_holdSquare cX3_holdSquare 5 none :: ([.fieldLink RX3 21 "ShadowBench$Job" "heldOnes" "J", .constantLong RX3 48 (-1), .fieldLink RX3 25 "ShadowBench$Job" "heldNoughts" "J"] ++ wsX10 ++ wsX30 ++ wsX40 ++ wsX50)
def wsX3_onesHeldInRow : List Cond := .code yX3_onesHeldInRow cX3_onesHeldInRow 2 (some .int) :: ([.fieldLink RX3 28 "ShadowBench$Job" "board" "LShadowBench$Board;", .fieldLink RX3 21 "ShadowBench$Job" "heldOnes" "J", .methodLink RX3 50 yX0_rowOf, .instanceMethod yX0_rowOf, .selects RX0 yX0_rowOf yX0_rowOf, .initialized RX0, .code yX0_rowOf cX0_rowOf 4 (some .int), .fieldLink RX0 13 "ShadowBench$Board" "wide" "I", .fieldLink RX0 23 "ShadowBench$Board" "rowNumbers" "I"] ++ wsX10 ++ wsX30 ++ wsX40 ++ wsX50 ++ wsX00)
def wsX3_noughtsHeldInRow : List Cond := .code yX3_noughtsHeldInRow cX3_noughtsHeldInRow 2 (some .int) :: ([.fieldLink RX3 28 "ShadowBench$Job" "board" "LShadowBench$Board;", .fieldLink RX3 25 "ShadowBench$Job" "heldNoughts" "J", .methodLink RX3 50 yX0_rowOf, .instanceMethod yX0_rowOf, .selects RX0 yX0_rowOf yX0_rowOf, .initialized RX0, .code yX0_rowOf cX0_rowOf 4 (some .int), .fieldLink RX0 13 "ShadowBench$Board" "wide" "I", .fieldLink RX0 23 "ShadowBench$Board" "rowNumbers" "I"] ++ wsX10 ++ wsX30 ++ wsX40 ++ wsX50 ++ wsX00)
def wsX3_fullColumns_r1 : List Cond := [Cond.fieldLink RX3 28 "ShadowBench$Job" "board" "LShadowBench$Board;", Cond.fieldLink RX3 54 "ShadowBench$Board" "wide" "I", Cond.methodLink RX3 40 yX0_onesOfLine, Cond.instanceMethod yX0_onesOfLine, Cond.selects RX0 yX0_onesOfLine yX0_onesOfLine, Cond.initialized RX0, Cond.code yX0_onesOfLine cX0_onesOfLine 6 (some .int), Cond.fieldLink RX0 9 "ShadowBench$Board" "lines" "[J", Cond.methodLink RX0 59 yJ13_bitCount_95d88, Cond.static yJ13_bitCount_95d88, Cond.initialized RJ13, Cond.code yJ13_bitCount_95d88 cJ13_bitCount_95d88 2 (some .int), Cond.constantLong RJ13 314 (6148914691236517205), Cond.constantLong RJ13 316 (3689348814741910323), Cond.constantLong RJ13 318 (1085102592571150095), Cond.methodLink RX3 57 ⟨"ShadowBench$Job", "sumOf", "(II)I"⟩, Cond.sameMethod "ShadowBench$Job" "ShadowBench$Job" "sumOf" "(II)I", Cond.selects RX1 ⟨"ShadowBench$Job", "sumOf", "(II)I"⟩ yX3_sumOf, Cond.instanceMethod yX3_sumOf, Cond.initialized RX3, Cond.code yX3_sumOf cX3_sumOf 4 (some .int), Cond.fieldLink RX3 11 "ShadowBench$Job" "sums" "[I", Cond.methodLink RX3 57 yX3_sumOf, Cond.selects RX3 yX3_sumOf yX3_sumOf]
def wsX3_fullColumns_r2 : List Cond := [Cond.selects RX4 ⟨"ShadowBench$Job", "sumOf", "(II)I"⟩ yX3_sumOf, Cond.selects RX5 ⟨"ShadowBench$Job", "sumOf", "(II)I"⟩ yX3_sumOf]
def wsX3_fullColumns : List Cond := .code yX3_fullColumns cX3_fullColumns 6 (some .int) :: ((wsX3_fullColumns_r1 ++ wsX3_fullColumns_r2) ++ wsX10 ++ wsX30 ++ wsX40 ++ wsX50 ++ wsX00)
def wsX3_hasShadowsAsTold_r1 : List Cond := [Cond.fieldLink RX3 28 "ShadowBench$Job" "board" "LShadowBench$Board;", Cond.methodLink RX3 68 ⟨"ShadowBench$Job", "isTold", "(I)Z"⟩, Cond.sameMethod "ShadowBench$Job" "ShadowBench$Job" "isTold" "(I)Z", Cond.selects RX1 ⟨"ShadowBench$Job", "isTold", "(I)Z"⟩ yX3_isTold, Cond.instanceMethod yX3_isTold, Cond.initialized RX3, Cond.code yX3_isTold cX3_isTold 2 (some .boolean), Cond.fieldLink RX3 17 "ShadowBench$Job" "toldWays" "I", Cond.methodLink RX3 68 yX3_isTold, Cond.selects RX3 yX3_isTold yX3_isTold, Cond.selects RX4 ⟨"ShadowBench$Job", "isTold", "(I)Z"⟩ yX3_isTold, Cond.selects RX5 ⟨"ShadowBench$Job", "isTold", "(I)Z"⟩ yX3_isTold, Cond.methodLink RX3 36 yX0_lineCount, Cond.instanceMethod yX0_lineCount, Cond.selects RX0 yX0_lineCount yX0_lineCount, Cond.initialized RX0, Cond.code yX0_lineCount cX0_lineCount 2 (some .int), Cond.fieldLink RX0 17 "ShadowBench$Board" "high" "I", Cond.fieldLink RX0 13 "ShadowBench$Board" "wide" "I", Cond.methodLink RX3 40 yX0_onesOfLine, Cond.instanceMethod yX0_onesOfLine, Cond.selects RX0 yX0_onesOfLine yX0_onesOfLine, Cond.code yX0_onesOfLine cX0_onesOfLine 6 (some .int), Cond.fieldLink RX0 9 "ShadowBench$Board" "lines" "[J"]
def wsX3_hasShadowsAsTold_r2 : List Cond := [Cond.methodLink RX0 59 yJ13_bitCount_95d88, Cond.static yJ13_bitCount_95d88, Cond.initialized RJ13, Cond.code yJ13_bitCount_95d88 cJ13_bitCount_95d88 2 (some .int), Cond.constantLong RJ13 314 (6148914691236517205), Cond.constantLong RJ13 316 (3689348814741910323), Cond.constantLong RJ13 318 (1085102592571150095), Cond.methodLink RX3 57 ⟨"ShadowBench$Job", "sumOf", "(II)I"⟩, Cond.sameMethod "ShadowBench$Job" "ShadowBench$Job" "sumOf" "(II)I", Cond.selects RX1 ⟨"ShadowBench$Job", "sumOf", "(II)I"⟩ yX3_sumOf, Cond.instanceMethod yX3_sumOf, Cond.code yX3_sumOf cX3_sumOf 4 (some .int), Cond.fieldLink RX3 11 "ShadowBench$Job" "sums" "[I", Cond.methodLink RX3 57 yX3_sumOf, Cond.selects RX3 yX3_sumOf yX3_sumOf, Cond.selects RX4 ⟨"ShadowBench$Job", "sumOf", "(II)I"⟩ yX3_sumOf, Cond.selects RX5 ⟨"ShadowBench$Job", "sumOf", "(II)I"⟩ yX3_sumOf]
def wsX3_hasShadowsAsTold : List Cond := .code yX3_hasShadowsAsTold cX3_hasShadowsAsTold 5 (some .boolean) :: ((wsX3_hasShadowsAsTold_r1 ++ wsX3_hasShadowsAsTold_r2) ++ wsX10 ++ wsX30 ++ wsX40 ++ wsX50 ++ wsX00)
def wsX3_isAsKindAsks : List Cond := .code yX3_isAsKindAsks cX3_isAsKindAsks 3 (some .boolean) :: ([])
def wsX3_admits_r1 : List Cond := [Cond.fieldLink RX3 25 "ShadowBench$Job" "heldNoughts" "J", Cond.constantLong RX3 48 (-1), Cond.fieldLink RX3 21 "ShadowBench$Job" "heldOnes" "J", Cond.methodLink RX3 61 ⟨"ShadowBench$Job", "hasShadowsAsTold", "(J)Z"⟩, Cond.sameMethod "ShadowBench$Job" "ShadowBench$Job" "hasShadowsAsTold" "(J)Z", Cond.selects RX1 ⟨"ShadowBench$Job", "hasShadowsAsTold", "(J)Z"⟩ yX3_hasShadowsAsTold, Cond.instanceMethod yX3_hasShadowsAsTold, Cond.initialized RX3, Cond.code yX3_hasShadowsAsTold cX3_hasShadowsAsTold 5 (some .boolean), Cond.fieldLink RX3 28 "ShadowBench$Job" "board" "LShadowBench$Board;", Cond.methodLink RX3 68 ⟨"ShadowBench$Job", "isTold", "(I)Z"⟩, Cond.sameMethod "ShadowBench$Job" "ShadowBench$Job" "isTold" "(I)Z", Cond.selects RX1 ⟨"ShadowBench$Job", "isTold", "(I)Z"⟩ yX3_isTold, Cond.instanceMethod yX3_isTold, Cond.code yX3_isTold cX3_isTold 2 (some .boolean), Cond.fieldLink RX3 17 "ShadowBench$Job" "toldWays" "I", Cond.methodLink RX3 68 yX3_isTold, Cond.selects RX3 yX3_isTold yX3_isTold, Cond.selects RX4 ⟨"ShadowBench$Job", "isTold", "(I)Z"⟩ yX3_isTold, Cond.selects RX5 ⟨"ShadowBench$Job", "isTold", "(I)Z"⟩ yX3_isTold, Cond.methodLink RX3 36 yX0_lineCount, Cond.instanceMethod yX0_lineCount, Cond.selects RX0 yX0_lineCount yX0_lineCount, Cond.initialized RX0]
def wsX3_admits_r2 : List Cond := [Cond.code yX0_lineCount cX0_lineCount 2 (some .int), Cond.fieldLink RX0 17 "ShadowBench$Board" "high" "I", Cond.fieldLink RX0 13 "ShadowBench$Board" "wide" "I", Cond.methodLink RX3 40 yX0_onesOfLine, Cond.instanceMethod yX0_onesOfLine, Cond.selects RX0 yX0_onesOfLine yX0_onesOfLine, Cond.code yX0_onesOfLine cX0_onesOfLine 6 (some .int), Cond.fieldLink RX0 9 "ShadowBench$Board" "lines" "[J", Cond.methodLink RX0 59 yJ13_bitCount_95d88, Cond.static yJ13_bitCount_95d88, Cond.initialized RJ13, Cond.code yJ13_bitCount_95d88 cJ13_bitCount_95d88 2 (some .int), Cond.constantLong RJ13 314 (6148914691236517205), Cond.constantLong RJ13 316 (3689348814741910323), Cond.constantLong RJ13 318 (1085102592571150095), Cond.methodLink RX3 57 ⟨"ShadowBench$Job", "sumOf", "(II)I"⟩, Cond.sameMethod "ShadowBench$Job" "ShadowBench$Job" "sumOf" "(II)I", Cond.selects RX1 ⟨"ShadowBench$Job", "sumOf", "(II)I"⟩ yX3_sumOf, Cond.instanceMethod yX3_sumOf, Cond.code yX3_sumOf cX3_sumOf 4 (some .int), Cond.fieldLink RX3 11 "ShadowBench$Job" "sums" "[I", Cond.methodLink RX3 57 yX3_sumOf, Cond.selects RX3 yX3_sumOf yX3_sumOf, Cond.selects RX4 ⟨"ShadowBench$Job", "sumOf", "(II)I"⟩ yX3_sumOf]
def wsX3_admits_r3 : List Cond := [Cond.selects RX5 ⟨"ShadowBench$Job", "sumOf", "(II)I"⟩ yX3_sumOf, Cond.methodLink RX3 61 yX3_hasShadowsAsTold, Cond.selects RX3 yX3_hasShadowsAsTold yX3_hasShadowsAsTold, Cond.selects RX4 ⟨"ShadowBench$Job", "hasShadowsAsTold", "(J)Z"⟩ yX3_hasShadowsAsTold, Cond.selects RX5 ⟨"ShadowBench$Job", "hasShadowsAsTold", "(J)Z"⟩ yX3_hasShadowsAsTold, Cond.methodLink RX3 65 ⟨"ShadowBench$Job", "isAsKindAsks", "(J)Z"⟩, Cond.sameMethod "ShadowBench$Job" "ShadowBench$Job" "isAsKindAsks" "(J)Z", Cond.instanceMethod ⟨"ShadowBench$Job", "isAsKindAsks", "(J)Z"⟩, Cond.selects RX1 ⟨"ShadowBench$Job", "isAsKindAsks", "(J)Z"⟩ yX1_isAsKindAsks, Cond.instanceMethod yX1_isAsKindAsks, Cond.initialized RX1, Cond.code yX1_isAsKindAsks cX1_isAsKindAsks 3 (some .boolean), Cond.fieldLink RX1 11 "ShadowBench$EvenJob" "board" "LShadowBench$Board;", Cond.sameField "ShadowBench$EvenJob" "ShadowBench$Job" "board" "LShadowBench$Board;", Cond.methodLink RX1 7 yX4_isAsKindAsks, Cond.sameMethod "ShadowBench$JoinedJob" "ShadowBench$JoinedJob" "isAsKindAsks" "(J)Z", Cond.superclass RX1 RX4, Cond.instanceMethod yX4_isAsKindAsks, Cond.initialized RX4, Cond.code yX4_isAsKindAsks cX4_isAsKindAsks 3 (some .boolean), Cond.fieldLink RX4 7 "ShadowBench$JoinedJob" "board" "LShadowBench$Board;", Cond.sameField "ShadowBench$JoinedJob" "ShadowBench$Job" "board" "LShadowBench$Board;", Cond.methodLink RX4 13 yX0_hangsTogether, Cond.instanceMethod yX0_hangsTogether]
def wsX3_admits_r4 : List Cond := [Cond.selects RX0 yX0_hangsTogether yX0_hangsTogether, Cond.code yX0_hangsTogether cX0_hangsTogether 14 (some .boolean), Cond.fieldLink RX0 20 "ShadowBench$Board" "squares" "I", Cond.constantLong RX0 73 (-1), Cond.methodLink RX1 17 yX0_rowsAreWhole, Cond.instanceMethod yX0_rowsAreWhole, Cond.selects RX0 yX0_rowsAreWhole yX0_rowsAreWhole, Cond.code yX0_rowsAreWhole cX0_rowsAreWhole 5 (some .boolean), Cond.methodLink RX0 75 yX0_rowOf, Cond.instanceMethod yX0_rowOf, Cond.selects RX0 yX0_rowOf yX0_rowOf, Cond.code yX0_rowOf cX0_rowOf 4 (some .int), Cond.fieldLink RX0 23 "ShadowBench$Board" "rowNumbers" "I", Cond.methodLink RX1 22 yX0_columnsAreWhole, Cond.instanceMethod yX0_columnsAreWhole, Cond.selects RX0 yX0_columnsAreWhole yX0_columnsAreWhole, Cond.code yX0_columnsAreWhole cX0_columnsAreWhole 7 (some .boolean), Cond.code yX3_isAsKindAsks cX3_isAsKindAsks 3 (some .boolean), Cond.methodLink RX3 65 yX3_isAsKindAsks, Cond.instanceMethod yX3_isAsKindAsks, Cond.selects RX3 yX3_isAsKindAsks yX3_isAsKindAsks, Cond.selects RX4 ⟨"ShadowBench$Job", "isAsKindAsks", "(J)Z"⟩ yX4_isAsKindAsks, Cond.selects RX5 ⟨"ShadowBench$Job", "isAsKindAsks", "(J)Z"⟩ yX3_isAsKindAsks]
def wsX3_admits : List Cond := .code yX3_admits cX3_admits 3 (some .boolean) :: ((wsX3_admits_r1 ++ (wsX3_admits_r2 ++ (wsX3_admits_r3 ++ wsX3_admits_r4))) ++ wsX10 ++ wsX30 ++ wsX40 ++ wsX50 ++ wsX00)
def wsX3_sumOfWay : List Cond := .code yX3_sumOfWay cX3_sumOfWay 4 (some .int) :: ([.fieldLink RX3 28 "ShadowBench$Job" "board" "LShadowBench$Board;", .methodLink RX3 36 yX0_lineCount, .instanceMethod yX0_lineCount, .selects RX0 yX0_lineCount yX0_lineCount, .initialized RX0, .code yX0_lineCount cX0_lineCount 2 (some .int), .fieldLink RX0 17 "ShadowBench$Board" "high" "I", .fieldLink RX0 13 "ShadowBench$Board" "wide" "I", .methodLink RX3 57 ⟨"ShadowBench$Job", "sumOf", "(II)I"⟩, .sameMethod "ShadowBench$Job" "ShadowBench$Job" "sumOf" "(II)I", .selects RX1 ⟨"ShadowBench$Job", "sumOf", "(II)I"⟩ yX3_sumOf, .instanceMethod yX3_sumOf, .initialized RX3, .code yX3_sumOf cX3_sumOf 4 (some .int), .fieldLink RX3 11 "ShadowBench$Job" "sums" "[I", .methodLink RX3 57 yX3_sumOf, .selects RX3 yX3_sumOf yX3_sumOf, .selects RX4 ⟨"ShadowBench$Job", "sumOf", "(II)I"⟩ yX3_sumOf, .selects RX5 ⟨"ShadowBench$Job", "sumOf", "(II)I"⟩ yX3_sumOf] ++ wsX10 ++ wsX30 ++ wsX40 ++ wsX50 ++ wsX00)
def wsX3_greatestColumns : List Cond := .code yX3_greatestColumns cX3_greatestColumns 6 (some .int) :: ([.fieldLink RX3 28 "ShadowBench$Job" "board" "LShadowBench$Board;", .fieldLink RX3 54 "ShadowBench$Board" "wide" "I", .methodLink RX3 57 ⟨"ShadowBench$Job", "sumOf", "(II)I"⟩, .sameMethod "ShadowBench$Job" "ShadowBench$Job" "sumOf" "(II)I", .selects RX1 ⟨"ShadowBench$Job", "sumOf", "(II)I"⟩ yX3_sumOf, .instanceMethod yX3_sumOf, .initialized RX3, .code yX3_sumOf cX3_sumOf 4 (some .int), .fieldLink RX3 11 "ShadowBench$Job" "sums" "[I", .methodLink RX3 57 yX3_sumOf, .selects RX3 yX3_sumOf yX3_sumOf, .selects RX4 ⟨"ShadowBench$Job", "sumOf", "(II)I"⟩ yX3_sumOf, .selects RX5 ⟨"ShadowBench$Job", "sumOf", "(II)I"⟩ yX3_sumOf] ++ wsX10 ++ wsX30 ++ wsX40 ++ wsX50 ++ wsX00)
def wsX3_roomInRows : List Cond := .code yX3_roomInRows cX3_roomInRows 4 (some .int) :: ([.fieldLink RX3 28 "ShadowBench$Job" "board" "LShadowBench$Board;", .fieldLink RX3 72 "ShadowBench$Board" "high" "I", .methodLink RX3 75 Lib.Math.min.name, .static Lib.Math.min.name, .initialized "java/lang/Math", .code Lib.Math.min.name Lib.Math.min.code 2 (some .int), .methodLink RX3 57 ⟨"ShadowBench$Job", "sumOf", "(II)I"⟩, .sameMethod "ShadowBench$Job" "ShadowBench$Job" "sumOf" "(II)I", .selects RX1 ⟨"ShadowBench$Job", "sumOf", "(II)I"⟩ yX3_sumOf, .instanceMethod yX3_sumOf, .initialized RX3, .code yX3_sumOf cX3_sumOf 4 (some .int), .fieldLink RX3 11 "ShadowBench$Job" "sums" "[I", .methodLink RX3 57 yX3_sumOf, .selects RX3 yX3_sumOf yX3_sumOf, .selects RX4 ⟨"ShadowBench$Job", "sumOf", "(II)I"⟩ yX3_sumOf, .selects RX5 ⟨"ShadowBench$Job", "sumOf", "(II)I"⟩ yX3_sumOf] ++ wsX10 ++ wsX30 ++ wsX40 ++ wsX50 ++ wsX00)
def wsX3_asItIs_r1 : List Cond := [Cond.classLink RX3 12 RX3, Cond.instantiable RX3 5, Cond.initialized RX3, Cond.fieldLink RX3 28 "ShadowBench$Job" "board" "LShadowBench$Board;", Cond.methodLink RX3 83 yX3_init, Cond.instanceMethod yX3_init, Cond.code yX3_init cX3_init 2 none, Cond.arrayClass .int, Cond.fieldLink RX3 11 "ShadowBench$Job" "sums" "[I", Cond.fieldLink RX3 17 "ShadowBench$Job" "toldWays" "I", Cond.fieldLink RX3 21 "ShadowBench$Job" "heldOnes" "J", Cond.fieldLink RX3 25 "ShadowBench$Job" "heldNoughts" "J", Cond.instanceMethod yX2_init, Cond.initialized RX2, Cond.code yX2_init cX2_init 1 none, Cond.methodLink RX2 1 objectInit, Cond.instanceMethod objectInit, Cond.code objectInit ⟨#[0xb1]⟩ 1 none, Cond.methodLink RX3 86 ⟨"ShadowBench$Job", "alike", "(LShadowBench$Job;)LShadowBench$Job;"⟩, Cond.sameMethod "ShadowBench$Job" "ShadowBench$Job" "alike" "(LShadowBench$Job;)LShadowBench$Job;", Cond.selects RX1 ⟨"ShadowBench$Job", "alike", "(LShadowBench$Job;)LShadowBench$Job;"⟩ yX3_alike, Cond.instanceMethod yX3_alike, Cond.code yX3_alike cX3_alike 2 (some (.object "ShadowBench$Job")), Cond.methodLink RX3 90 arraycopyName]
def wsX3_asItIs_r2 : List Cond := [Cond.native arraycopyName, Cond.static arraycopyName, Cond.initialized "java/lang/System", Cond.methodLink RX3 86 yX3_alike, Cond.selects RX3 yX3_alike yX3_alike, Cond.selects RX4 ⟨"ShadowBench$Job", "alike", "(LShadowBench$Job;)LShadowBench$Job;"⟩ yX3_alike, Cond.selects RX5 ⟨"ShadowBench$Job", "alike", "(LShadowBench$Job;)LShadowBench$Job;"⟩ yX3_alike]
def wsX3_asItIs : List Cond := .code yX3_asItIs cX3_asItIs 1 (some (.object "ShadowBench$Job")) :: ((wsX3_asItIs_r1 ++ wsX3_asItIs_r2) ++ wsX30 ++ wsX10 ++ wsX40 ++ wsX50)
def wsX4_asItIs_r1 : List Cond := [Cond.classLink RX4 8 RX4, Cond.instantiable RX4 5, Cond.initialized RX4, Cond.fieldLink RX4 7 "ShadowBench$JoinedJob" "board" "LShadowBench$Board;", Cond.sameField "ShadowBench$JoinedJob" "ShadowBench$Job" "board" "LShadowBench$Board;", Cond.methodLink RX4 30 yX4_init, Cond.instanceMethod yX4_init, Cond.code yX4_init cX4_init 2 none, Cond.methodLink RX4 1 yX3_init, Cond.instanceMethod yX3_init, Cond.initialized RX3, Cond.code yX3_init cX3_init 2 none, Cond.arrayClass .int, Cond.fieldLink RX3 11 "ShadowBench$Job" "sums" "[I", Cond.fieldLink RX3 17 "ShadowBench$Job" "toldWays" "I", Cond.fieldLink RX3 21 "ShadowBench$Job" "heldOnes" "J", Cond.fieldLink RX3 25 "ShadowBench$Job" "heldNoughts" "J", Cond.fieldLink RX3 28 "ShadowBench$Job" "board" "LShadowBench$Board;", Cond.instanceMethod yX2_init, Cond.initialized RX2, Cond.code yX2_init cX2_init 1 none, Cond.methodLink RX2 1 objectInit, Cond.instanceMethod objectInit, Cond.code objectInit ⟨#[0xb1]⟩ 1 none]
def wsX4_asItIs_r2 : List Cond := [Cond.methodLink RX4 31 ⟨"ShadowBench$JoinedJob", "alike", "(LShadowBench$Job;)LShadowBench$Job;"⟩, Cond.sameMethod "ShadowBench$JoinedJob" "ShadowBench$Job" "alike" "(LShadowBench$Job;)LShadowBench$Job;", Cond.selects RX1 ⟨"ShadowBench$JoinedJob", "alike", "(LShadowBench$Job;)LShadowBench$Job;"⟩ yX3_alike, Cond.instanceMethod yX3_alike, Cond.code yX3_alike cX3_alike 2 (some (.object "ShadowBench$Job")), Cond.methodLink RX3 90 arraycopyName, Cond.native arraycopyName, Cond.static arraycopyName, Cond.initialized "java/lang/System", Cond.selects RX4 ⟨"ShadowBench$JoinedJob", "alike", "(LShadowBench$Job;)LShadowBench$Job;"⟩ yX3_alike]
def wsX4_asItIs : List Cond := .code yX4_asItIs cX4_asItIs 1 (some (.object "ShadowBench$Job")) :: ((wsX4_asItIs_r1 ++ wsX4_asItIs_r2) ++ wsX40 ++ wsX10 ++ wsX30 ++ wsX50)
def wsX5_init : List Cond := .code yX5_init cX5_init 2 none :: ([.fieldLink RX5 7 "ShadowBench$Board" "squares" "I", .arrayClass .int, .fieldLink RX5 13 "ShadowBench$MarkedJob" "marks" "[I", .methodLink RX5 1 yX3_init, .instanceMethod yX3_init, .initialized RX3, .code yX3_init cX3_init 2 none, .fieldLink RX3 11 "ShadowBench$Job" "sums" "[I", .fieldLink RX3 17 "ShadowBench$Job" "toldWays" "I", .fieldLink RX3 21 "ShadowBench$Job" "heldOnes" "J", .fieldLink RX3 25 "ShadowBench$Job" "heldNoughts" "J", .fieldLink RX3 28 "ShadowBench$Job" "board" "LShadowBench$Board;", .instanceMethod yX2_init, .initialized RX2, .code yX2_init cX2_init 1 none, .methodLink RX2 1 objectInit, .instanceMethod objectInit, .code objectInit ⟨#[0xb1]⟩ 1 none] ++ wsX00 ++ wsX50 ++ wsX10 ++ wsX30 ++ wsX40)
def wsX5_setMark : List Cond := .code yX5_setMark cX5_setMark 3 (some .boolean) :: ([.fieldLink RX5 13 "ShadowBench$MarkedJob" "marks" "[I"] ++ wsX50)
def wsX5_worthOf : List Cond := .code yX5_worthOf cX5_worthOf 5 (some .int) :: ([.fieldLink RX5 13 "ShadowBench$MarkedJob" "marks" "[I"] ++ wsX50)
def wsX5_heft : List Cond := .code yX5_heft cX5_heft 1 (some .int) :: ([.constantLong RX5 23 (-1), .methodLink RX5 19 yX3_heft, .sameMethod "ShadowBench$Job" "ShadowBench$Job" "heft" "()I", .superclass RX5 RX3, .instanceMethod yX3_heft, .initialized RX3, .code yX3_heft cX3_heft 1 (some .int), .fieldLink RX3 28 "ShadowBench$Job" "board" "LShadowBench$Board;", .fieldLink RX3 80 "ShadowBench$Board" "squares" "I", .methodLink RX5 25 yX5_worthOf, .instanceMethod yX5_worthOf, .selects RX5 yX5_worthOf yX5_worthOf, .initialized RX5, .code yX5_worthOf cX5_worthOf 5 (some .int), .fieldLink RX5 13 "ShadowBench$MarkedJob" "marks" "[I"] ++ wsX10 ++ wsX30 ++ wsX40 ++ wsX50 ++ wsX00)
def wsX5_asItIs_r1 : List Cond := [Cond.classLink RX5 14 RX5, Cond.instantiable RX5 6, Cond.initialized RX5, Cond.fieldLink RX5 36 "ShadowBench$MarkedJob" "board" "LShadowBench$Board;", Cond.sameField "ShadowBench$MarkedJob" "ShadowBench$Job" "board" "LShadowBench$Board;", Cond.fieldLink RX5 13 "ShadowBench$MarkedJob" "marks" "[I", Cond.methodLink RX5 41 arraycopyName, Cond.native arraycopyName, Cond.static arraycopyName, Cond.initialized "java/lang/System", Cond.methodLink RX5 40 yX5_init, Cond.instanceMethod yX5_init, Cond.code yX5_init cX5_init 2 none, Cond.fieldLink RX5 7 "ShadowBench$Board" "squares" "I", Cond.arrayClass .int, Cond.methodLink RX5 1 yX3_init, Cond.instanceMethod yX3_init, Cond.initialized RX3, Cond.code yX3_init cX3_init 2 none, Cond.fieldLink RX3 11 "ShadowBench$Job" "sums" "[I", Cond.fieldLink RX3 17 "ShadowBench$Job" "toldWays" "I", Cond.fieldLink RX3 21 "ShadowBench$Job" "heldOnes" "J", Cond.fieldLink RX3 25 "ShadowBench$Job" "heldNoughts" "J", Cond.fieldLink RX3 28 "ShadowBench$Job" "board" "LShadowBench$Board;"]
def wsX5_asItIs_r2 : List Cond := [Cond.instanceMethod yX2_init, Cond.initialized RX2, Cond.code yX2_init cX2_init 1 none, Cond.methodLink RX2 1 objectInit, Cond.instanceMethod objectInit, Cond.code objectInit ⟨#[0xb1]⟩ 1 none, Cond.methodLink RX5 47 ⟨"ShadowBench$MarkedJob", "alike", "(LShadowBench$Job;)LShadowBench$Job;"⟩, Cond.sameMethod "ShadowBench$MarkedJob" "ShadowBench$Job" "alike" "(LShadowBench$Job;)LShadowBench$Job;", Cond.selects RX5 ⟨"ShadowBench$MarkedJob", "alike", "(LShadowBench$Job;)LShadowBench$Job;"⟩ yX3_alike, Cond.instanceMethod yX3_alike, Cond.code yX3_alike cX3_alike 2 (some (.object "ShadowBench$Job")), Cond.methodLink RX3 90 arraycopyName]
def wsX5_asItIs : List Cond := .code yX5_asItIs cX5_asItIs 2 (some (.object "ShadowBench$Job")) :: ((wsX5_asItIs_r1 ++ wsX5_asItIs_r2) ++ wsX50 ++ wsX10 ++ wsX30 ++ wsX40 ++ wsX00)
def wsX7_init : List Cond := .code yX7_init cX7_init 3 none :: ([.fieldLink RX7 7 "ShadowBench$Row" "ofBytes" "Z", .arrayClass .long, .fieldLink RX7 13 "ShadowBench$Row" "numbers" "[J", .instanceMethod yX2_init, .initialized RX2, .code yX2_init cX2_init 1 none, .methodLink RX2 1 objectInit, .instanceMethod objectInit, .code objectInit ⟨#[0xb1]⟩ 1 none] ++ wsX70)
def wsX7_size : List Cond := .code yX7_size cX7_size 1 (some .int) :: ([.fieldLink RX7 13 "ShadowBench$Row" "numbers" "[J"] ++ wsX70)
def wsX7_has : List Cond := .code yX7_has cX7_has 3 (some .boolean) :: ([.fieldLink RX7 13 "ShadowBench$Row" "numbers" "[J"] ++ wsX70)
def wsX7_numberAt : List Cond := .code yX7_numberAt cX7_numberAt 2 (some .long) :: ([.fieldLink RX7 13 "ShadowBench$Row" "numbers" "[J", .methodLink RX7 17 yX7_has, .instanceMethod yX7_has, .selects RX7 yX7_has yX7_has, .initialized RX7, .code yX7_has cX7_has 3 (some .boolean)] ++ wsX70)
def wsX7_put : List Cond := .code yX7_put cX7_put 4 none :: ([.fieldLink RX7 13 "ShadowBench$Row" "numbers" "[J", .methodLink RX7 17 yX7_has, .instanceMethod yX7_has, .selects RX7 yX7_has yX7_has, .initialized RX7, .code yX7_has cX7_has 3 (some .boolean)] ++ wsX70)
def wsX7_takeFrom : List Cond := .code yX7_takeFrom cX7_takeFrom 5 none :: ([.fieldLink RX7 13 "ShadowBench$Row" "numbers" "[J", .methodLink RX7 21 arraycopyName, .native arraycopyName, .static arraycopyName, .initialized "java/lang/System", .methodLink RX7 17 yX7_has, .instanceMethod yX7_has, .selects RX7 yX7_has yX7_has, .initialized RX7, .code yX7_has cX7_has 3 (some .boolean)] ++ wsX70)
set_option maxRecDepth 20000 in
theorem ggX0_init_X0_pairsOf : GoodIn wsX0_init wsX0_pairsOf := goodIn_r _ [16] (by decide +kernel) (by decide +kernel)
def chX0_init : List (List Cond) := [wsX0_init_r1, wsX0_init_r2, wsX00]
set_option maxRecDepth 20000 in
theorem chX0_init_in : ∀ c ∈ chX0_init, ∀ w ∈ c, w ∈ wsX0_init := (all_c (P := fun c => ∀ w ∈ c, w ∈ wsX0_init) (fun w h => List.mem_cons_of_mem _ (List.mem_append_left _ (List.mem_append_left _ (h)))) (all_c (P := fun c => ∀ w ∈ c, w ∈ wsX0_init) (fun w h => List.mem_cons_of_mem _ (List.mem_append_left _ (List.mem_append_right _ (h)))) (all_c (P := fun c => ∀ w ∈ c, w ∈ wsX0_init) (fun w h => List.mem_cons_of_mem _ (List.mem_append_right _ (h))) (fun _ h => nomatch h))))
set_option maxRecDepth 20000 in
theorem gX0_init_X0_pairsOf : GoodIn wsX0_init (va_wsS RX0 26 yX0_pairsOf wsX0_pairsOf) := goodIn_app (goodIn_c chX0_init chX0_init_in _ [(0, 12), (0, 13), (0, 14)] (by rfl) (by decide +kernel)) ggX0_init_X0_pairsOf
set_option maxRecDepth 20000 in
theorem ggX0_init_X0_drawLines : GoodIn wsX0_init wsX0_drawLines := goodIn_ca (goodIn_c chX0_init chX0_init_in _ [(0, 19), (0, 6), (0, 5), (0, 4), (0, 20), (0, 21), (0, 22), (0, 14), (0, 23), (1, 0), (1, 1), (1, 2), (1, 3)] (by rfl) (by decide +kernel)) (goodIn_sub (fun _ h => List.mem_cons_of_mem _ (List.mem_append_right _ (h))) (by decide +kernel))
set_option maxRecDepth 20000 in
theorem gX0_init_X0_drawLines : GoodIn wsX0_init (wsV RX0 39 RX0 yX0_drawLines wsX0_drawLines) := goodIn_app (goodIn_c chX0_init chX0_init_in _ [(0, 16), (0, 17), (0, 18), (0, 14)] (by rfl) (by decide +kernel)) ggX0_init_X0_drawLines
set_option maxRecDepth 20000 in
theorem ggX0_init_X0_drawFours : GoodIn wsX0_init wsX0_drawFours := goodIn_ca (goodIn_c chX0_init chX0_init_in _ [(1, 7), (0, 6), (1, 8), (1, 9), (1, 10), (0, 14), (1, 11), (0, 5), (0, 9), (0, 10), (0, 11), (1, 0), (1, 1), (1, 2), (1, 3)] (by rfl) (by decide +kernel)) (goodIn_sub (fun _ h => List.mem_cons_of_mem _ (List.mem_append_right _ (h))) (by decide +kernel))
set_option maxRecDepth 20000 in
theorem gX0_init_X0_drawFours : GoodIn wsX0_init (wsV RX0 42 RX0 yX0_drawFours wsX0_drawFours) := goodIn_app (goodIn_c chX0_init chX0_init_in _ [(1, 4), (1, 5), (1, 6), (0, 14)] (by rfl) (by decide +kernel)) ggX0_init_X0_drawFours
theorem dX0_init_0 : decode cX0_init 0 = .ok (.aload_n 0, 1) := by decide +kernel
theorem dX0_init_1 : decode cX0_init 1 = .ok (.invokespecial 1, 3) := by decide +kernel
theorem dX0_init_4 : decode cX0_init 4 = .ok (.aload_n 0, 1) := by decide +kernel
theorem dX0_init_5 : decode cX0_init 5 = .ok (.bipush 44, 2) := by decide +kernel
theorem dX0_init_7 : decode cX0_init 7 = .ok (.newarray .long, 2) := by decide +kernel
theorem dX0_init_9 : decode cX0_init 9 = .ok (.putfield 9, 3) := by decide +kernel
theorem dX0_init_12 : decode cX0_init 12 = .ok (.aload_n 0, 1) := by decide +kernel
theorem dX0_init_13 : decode cX0_init 13 = .ok (.iload_n 1, 1) := by decide +kernel
theorem dX0_init_14 : decode cX0_init 14 = .ok (.putfield 13, 3) := by decide +kernel
theorem dX0_init_17 : decode cX0_init 17 = .ok (.aload_n 0, 1) := by decide +kernel
theorem dX0_init_18 : decode cX0_init 18 = .ok (.iload_n 2, 1) := by decide +kernel
theorem dX0_init_19 : decode cX0_init 19 = .ok (.putfield 17, 3) := by decide +kernel
theorem dX0_init_22 : decode cX0_init 22 = .ok (.aload_n 0, 1) := by decide +kernel
theorem dX0_init_23 : decode cX0_init 23 = .ok (.iload_n 1, 1) := by decide +kernel
theorem dX0_init_24 : decode cX0_init 24 = .ok (.iload_n 2, 1) := by decide +kernel
theorem dX0_init_25 : decode cX0_init 25 = .ok (.imul, 1) := by decide +kernel
theorem dX0_init_26 : decode cX0_init 26 = .ok (.putfield 20, 3) := by decide +kernel
theorem dX0_init_29 : decode cX0_init 29 = .ok (.aload_n 0, 1) := by decide +kernel
theorem dX0_init_30 : decode cX0_init 30 = .ok (.iconst 1, 1) := by decide +kernel
theorem dX0_init_31 : decode cX0_init 31 = .ok (.iload_n 1, 1) := by decide +kernel
theorem dX0_init_32 : decode cX0_init 32 = .ok (.ishl, 1) := by decide +kernel
theorem dX0_init_33 : decode cX0_init 33 = .ok (.putfield 23, 3) := by decide +kernel
theorem dX0_init_36 : decode cX0_init 36 = .ok (.aload_n 0, 1) := by decide +kernel
theorem dX0_init_37 : decode cX0_init 37 = .ok (.iload_n 1, 1) := by decide +kernel
theorem dX0_init_38 : decode cX0_init 38 = .ok (.invokestatic 26, 3) := by decide +kernel
theorem dX0_init_41 : decode cX0_init 41 = .ok (.iload_n 2, 1) := by decide +kernel
theorem dX0_init_42 : decode cX0_init 42 = .ok (.invokestatic 26, 3) := by decide +kernel
theorem dX0_init_45 : decode cX0_init 45 = .ok (.imul, 1) := by decide +kernel
theorem dX0_init_46 : decode cX0_init 46 = .ok (.putfield 30, 3) := by decide +kernel
theorem dX0_init_49 : decode cX0_init 49 = .ok (.aload_n 0, 1) := by decide +kernel
theorem dX0_init_50 : decode cX0_init 50 = .ok (.aload_n 0, 1) := by decide +kernel
theorem dX0_init_51 : decode cX0_init 51 = .ok (.getfield 30, 3) := by decide +kernel
theorem dX0_init_54 : decode cX0_init 54 = .ok (.newarray .long, 2) := by decide +kernel
theorem dX0_init_56 : decode cX0_init 56 = .ok (.putfield 33, 3) := by decide +kernel
theorem dX0_init_59 : decode cX0_init 59 = .ok (.aload_n 0, 1) := by decide +kernel
theorem dX0_init_60 : decode cX0_init 60 = .ok (.aload_n 0, 1) := by decide +kernel
theorem dX0_init_61 : decode cX0_init 61 = .ok (.getfield 30, 3) := by decide +kernel
theorem dX0_init_64 : decode cX0_init 64 = .ok (.newarray .long, 2) := by decide +kernel
theorem dX0_init_66 : decode cX0_init 66 = .ok (.putfield 36, 3) := by decide +kernel
theorem dX0_init_69 : decode cX0_init 69 = .ok (.aload_n 0, 1) := by decide +kernel
theorem dX0_init_70 : decode cX0_init 70 = .ok (.invokevirtual 39, 3) := by decide +kernel
theorem dX0_init_73 : decode cX0_init 73 = .ok (.aload_n 0, 1) := by decide +kernel
theorem dX0_init_74 : decode cX0_init 74 = .ok (.invokevirtual 42, 3) := by decide +kernel
theorem dX0_init_77 : decode cX0_init 77 = .ok (.return_, 1) := by decide +kernel
def chX0_drawLines : List (List Cond) := [[.fieldLink RX0 17 "ShadowBench$Board" "high" "I", .fieldLink RX0 13 "ShadowBench$Board" "wide" "I", .fieldLink RX0 9 "ShadowBench$Board" "lines" "[J", .methodLink RX0 45 yX0_lineThrough, .instanceMethod yX0_lineThrough, .selects RX0 yX0_lineThrough yX0_lineThrough, .initialized RX0, .code yX0_lineThrough cX0_lineThrough 4 (some .int), .methodLink RX0 49 yX0_bit, .instanceMethod yX0_bit, .selects RX0 yX0_bit yX0_bit, .code yX0_bit cX0_bit 3 (some .long)], wsX00]
set_option maxRecDepth 20000 in
theorem chX0_drawLines_in : ∀ c ∈ chX0_drawLines, ∀ w ∈ c, w ∈ wsX0_drawLines := (all_c (P := fun c => ∀ w ∈ c, w ∈ wsX0_drawLines) (fun w h => List.mem_cons_of_mem _ (List.mem_append_left _ (h))) (all_c (P := fun c => ∀ w ∈ c, w ∈ wsX0_drawLines) (fun w h => List.mem_cons_of_mem _ (List.mem_append_right _ (h))) (fun _ h => nomatch h)))
set_option maxRecDepth 20000 in
theorem ggX0_drawLines_X0_lineThrough : GoodIn wsX0_drawLines wsX0_lineThrough := goodIn_ca (goodIn_c chX0_drawLines chX0_drawLines_in _ [(0, 7), (0, 0)] (by rfl) (by decide +kernel)) (goodIn_sub (fun _ h => List.mem_cons_of_mem _ (List.mem_append_right _ (h))) (by decide +kernel))
set_option maxRecDepth 20000 in
theorem gX0_drawLines_X0_lineThrough : GoodIn wsX0_drawLines (wsV RX0 45 RX0 yX0_lineThrough wsX0_lineThrough) := goodIn_app (goodIn_c chX0_drawLines chX0_drawLines_in _ [(0, 3), (0, 4), (0, 5), (0, 6)] (by rfl) (by decide +kernel)) ggX0_drawLines_X0_lineThrough
set_option maxRecDepth 20000 in
theorem ggX0_drawLines_X0_bit : GoodIn wsX0_drawLines wsX0_bit := goodIn_ca (goodIn_c chX0_drawLines chX0_drawLines_in _ [(0, 11), (0, 1)] (by rfl) (by decide +kernel)) (goodIn_sub (fun _ h => List.mem_cons_of_mem _ (List.mem_append_right _ (h))) (by decide +kernel))
set_option maxRecDepth 20000 in
theorem gX0_drawLines_X0_bit : GoodIn wsX0_drawLines (wsV RX0 49 RX0 yX0_bit wsX0_bit) := goodIn_app (goodIn_c chX0_drawLines chX0_drawLines_in _ [(0, 8), (0, 9), (0, 10), (0, 6)] (by rfl) (by decide +kernel)) ggX0_drawLines_X0_bit
theorem dX0_drawLines_0 : decode cX0_drawLines 0 = .ok (.iconst 0, 1) := by decide +kernel
theorem dX0_drawLines_1 : decode cX0_drawLines 1 = .ok (.istore_n 1, 1) := by decide +kernel
theorem dX0_drawLines_2 : decode cX0_drawLines 2 = .ok (.iload_n 1, 1) := by decide +kernel
theorem dX0_drawLines_3 : decode cX0_drawLines 3 = .ok (.aload_n 0, 1) := by decide +kernel
theorem dX0_drawLines_4 : decode cX0_drawLines 4 = .ok (.getfield 17, 3) := by decide +kernel
theorem dX0_drawLines_7 : decode cX0_drawLines 7 = .ok (.if_icmp .ge 64, 3) := by decide +kernel
theorem dX0_drawLines_10 : decode cX0_drawLines 10 = .ok (.iconst 0, 1) := by decide +kernel
theorem dX0_drawLines_11 : decode cX0_drawLines 11 = .ok (.istore_n 2, 1) := by decide +kernel
theorem dX0_drawLines_12 : decode cX0_drawLines 12 = .ok (.iload_n 2, 1) := by decide +kernel
theorem dX0_drawLines_13 : decode cX0_drawLines 13 = .ok (.aload_n 0, 1) := by decide +kernel
theorem dX0_drawLines_14 : decode cX0_drawLines 14 = .ok (.getfield 13, 3) := by decide +kernel
theorem dX0_drawLines_17 : decode cX0_drawLines 17 = .ok (.if_icmp .ge 48, 3) := by decide +kernel
theorem dX0_drawLines_20 : decode cX0_drawLines 20 = .ok (.iconst 0, 1) := by decide +kernel
theorem dX0_drawLines_21 : decode cX0_drawLines 21 = .ok (.istore_n 3, 1) := by decide +kernel
theorem dX0_drawLines_22 : decode cX0_drawLines 22 = .ok (.iload_n 3, 1) := by decide +kernel
theorem dX0_drawLines_23 : decode cX0_drawLines 23 = .ok (.iconst 4, 1) := by decide +kernel
theorem dX0_drawLines_24 : decode cX0_drawLines 24 = .ok (.if_icmp .ge 35, 3) := by decide +kernel
theorem dX0_drawLines_27 : decode cX0_drawLines 27 = .ok (.aload_n 0, 1) := by decide +kernel
theorem dX0_drawLines_28 : decode cX0_drawLines 28 = .ok (.getfield 9, 3) := by decide +kernel
theorem dX0_drawLines_31 : decode cX0_drawLines 31 = .ok (.iload_n 3, 1) := by decide +kernel
theorem dX0_drawLines_32 : decode cX0_drawLines 32 = .ok (.bipush 11, 2) := by decide +kernel
theorem dX0_drawLines_34 : decode cX0_drawLines 34 = .ok (.imul, 1) := by decide +kernel
theorem dX0_drawLines_35 : decode cX0_drawLines 35 = .ok (.aload_n 0, 1) := by decide +kernel
theorem dX0_drawLines_36 : decode cX0_drawLines 36 = .ok (.iload_n 3, 1) := by decide +kernel
theorem dX0_drawLines_37 : decode cX0_drawLines 37 = .ok (.iload_n 2, 1) := by decide +kernel
theorem dX0_drawLines_38 : decode cX0_drawLines 38 = .ok (.iload_n 1, 1) := by decide +kernel
theorem dX0_drawLines_39 : decode cX0_drawLines 39 = .ok (.invokevirtual 45, 3) := by decide +kernel
theorem dX0_drawLines_42 : decode cX0_drawLines 42 = .ok (.iadd, 1) := by decide +kernel
theorem dX0_drawLines_43 : decode cX0_drawLines 43 = .ok (.dup2, 1) := by decide +kernel
theorem dX0_drawLines_44 : decode cX0_drawLines 44 = .ok (.laload, 1) := by decide +kernel
theorem dX0_drawLines_45 : decode cX0_drawLines 45 = .ok (.aload_n 0, 1) := by decide +kernel
theorem dX0_drawLines_46 : decode cX0_drawLines 46 = .ok (.iload_n 2, 1) := by decide +kernel
theorem dX0_drawLines_47 : decode cX0_drawLines 47 = .ok (.iload_n 1, 1) := by decide +kernel
theorem dX0_drawLines_48 : decode cX0_drawLines 48 = .ok (.invokevirtual 49, 3) := by decide +kernel
theorem dX0_drawLines_51 : decode cX0_drawLines 51 = .ok (.lor, 1) := by decide +kernel
theorem dX0_drawLines_52 : decode cX0_drawLines 52 = .ok (.lastore, 1) := by decide +kernel
theorem dX0_drawLines_53 : decode cX0_drawLines 53 = .ok (.iinc 3 1, 3) := by decide +kernel
theorem dX0_drawLines_56 : decode cX0_drawLines 56 = .ok (.goto (-34), 3) := by decide +kernel
theorem dX0_drawLines_59 : decode cX0_drawLines 59 = .ok (.iinc 2 1, 3) := by decide +kernel
theorem dX0_drawLines_62 : decode cX0_drawLines 62 = .ok (.goto (-50), 3) := by decide +kernel
theorem dX0_drawLines_65 : decode cX0_drawLines 65 = .ok (.iinc 1 1, 3) := by decide +kernel
theorem dX0_drawLines_68 : decode cX0_drawLines 68 = .ok (.goto (-66), 3) := by decide +kernel
theorem dX0_drawLines_71 : decode cX0_drawLines 71 = .ok (.return_, 1) := by decide +kernel
def chX0_drawFours : List (List Cond) := [[.fieldLink RX0 17 "ShadowBench$Board" "high" "I", .methodLink RX0 53 yX0_drawFoursOfRows, .instanceMethod yX0_drawFoursOfRows, .selects RX0 yX0_drawFoursOfRows yX0_drawFoursOfRows, .initialized RX0, .code yX0_drawFoursOfRows cX0_drawFoursOfRows 7 (some .int), .fieldLink RX0 13 "ShadowBench$Board" "wide" "I", .fieldLink RX0 30 "ShadowBench$Board" "fours" "I", .fieldLink RX0 33 "ShadowBench$Board" "falling" "[J", .fieldLink RX0 36 "ShadowBench$Board" "rising" "[J", .methodLink RX0 49 yX0_bit, .instanceMethod yX0_bit, .selects RX0 yX0_bit yX0_bit, .code yX0_bit cX0_bit 3 (some .long)], wsX00]
set_option maxRecDepth 20000 in
theorem chX0_drawFours_in : ∀ c ∈ chX0_drawFours, ∀ w ∈ c, w ∈ wsX0_drawFours := (all_c (P := fun c => ∀ w ∈ c, w ∈ wsX0_drawFours) (fun w h => List.mem_cons_of_mem _ (List.mem_append_left _ (h))) (all_c (P := fun c => ∀ w ∈ c, w ∈ wsX0_drawFours) (fun w h => List.mem_cons_of_mem _ (List.mem_append_right _ (h))) (fun _ h => nomatch h)))
set_option maxRecDepth 20000 in
theorem ggX0_drawFours_X0_drawFoursOfRows : GoodIn wsX0_drawFours wsX0_drawFoursOfRows := goodIn_ca (goodIn_c chX0_drawFours chX0_drawFours_in _ [(0, 5), (0, 6), (0, 7), (0, 8), (0, 9), (0, 10), (0, 11), (0, 12), (0, 4), (0, 13)] (by rfl) (by decide +kernel)) (goodIn_sub (fun _ h => List.mem_cons_of_mem _ (List.mem_append_right _ (h))) (by decide +kernel))
set_option maxRecDepth 20000 in
theorem gX0_drawFours_X0_drawFoursOfRows : GoodIn wsX0_drawFours (wsV RX0 53 RX0 yX0_drawFoursOfRows wsX0_drawFoursOfRows) := goodIn_app (goodIn_c chX0_drawFours chX0_drawFours_in _ [(0, 1), (0, 2), (0, 3), (0, 4)] (by rfl) (by decide +kernel)) ggX0_drawFours_X0_drawFoursOfRows
theorem dX0_drawFours_0 : decode cX0_drawFours 0 = .ok (.iconst 0, 1) := by decide +kernel
theorem dX0_drawFours_1 : decode cX0_drawFours 1 = .ok (.istore_n 1, 1) := by decide +kernel
theorem dX0_drawFours_2 : decode cX0_drawFours 2 = .ok (.iconst 0, 1) := by decide +kernel
theorem dX0_drawFours_3 : decode cX0_drawFours 3 = .ok (.istore_n 2, 1) := by decide +kernel
theorem dX0_drawFours_4 : decode cX0_drawFours 4 = .ok (.iload_n 2, 1) := by decide +kernel
theorem dX0_drawFours_5 : decode cX0_drawFours 5 = .ok (.aload_n 0, 1) := by decide +kernel
theorem dX0_drawFours_6 : decode cX0_drawFours 6 = .ok (.getfield 17, 3) := by decide +kernel
theorem dX0_drawFours_9 : decode cX0_drawFours 9 = .ok (.if_icmp .ge 35, 3) := by decide +kernel
theorem dX0_drawFours_12 : decode cX0_drawFours 12 = .ok (.iload_n 2, 1) := by decide +kernel
theorem dX0_drawFours_13 : decode cX0_drawFours 13 = .ok (.iconst 1, 1) := by decide +kernel
theorem dX0_drawFours_14 : decode cX0_drawFours 14 = .ok (.iadd, 1) := by decide +kernel
theorem dX0_drawFours_15 : decode cX0_drawFours 15 = .ok (.istore_n 3, 1) := by decide +kernel
theorem dX0_drawFours_16 : decode cX0_drawFours 16 = .ok (.iload_n 3, 1) := by decide +kernel
theorem dX0_drawFours_17 : decode cX0_drawFours 17 = .ok (.aload_n 0, 1) := by decide +kernel
theorem dX0_drawFours_18 : decode cX0_drawFours 18 = .ok (.getfield 17, 3) := by decide +kernel
theorem dX0_drawFours_21 : decode cX0_drawFours 21 = .ok (.if_icmp .ge 17, 3) := by decide +kernel
theorem dX0_drawFours_24 : decode cX0_drawFours 24 = .ok (.aload_n 0, 1) := by decide +kernel
theorem dX0_drawFours_25 : decode cX0_drawFours 25 = .ok (.iload_n 1, 1) := by decide +kernel
theorem dX0_drawFours_26 : decode cX0_drawFours 26 = .ok (.iload_n 2, 1) := by decide +kernel
theorem dX0_drawFours_27 : decode cX0_drawFours 27 = .ok (.iload_n 3, 1) := by decide +kernel
theorem dX0_drawFours_28 : decode cX0_drawFours 28 = .ok (.invokevirtual 53, 3) := by decide +kernel
theorem dX0_drawFours_31 : decode cX0_drawFours 31 = .ok (.istore_n 1, 1) := by decide +kernel
theorem dX0_drawFours_32 : decode cX0_drawFours 32 = .ok (.iinc 3 1, 3) := by decide +kernel
theorem dX0_drawFours_35 : decode cX0_drawFours 35 = .ok (.goto (-19), 3) := by decide +kernel
theorem dX0_drawFours_38 : decode cX0_drawFours 38 = .ok (.iinc 2 1, 3) := by decide +kernel
theorem dX0_drawFours_41 : decode cX0_drawFours 41 = .ok (.goto (-37), 3) := by decide +kernel
theorem dX0_drawFours_44 : decode cX0_drawFours 44 = .ok (.return_, 1) := by decide +kernel
def chX0_drawFoursOfRows : List (List Cond) := [[.fieldLink RX0 13 "ShadowBench$Board" "wide" "I", .fieldLink RX0 30 "ShadowBench$Board" "fours" "I", .fieldLink RX0 33 "ShadowBench$Board" "falling" "[J", .fieldLink RX0 36 "ShadowBench$Board" "rising" "[J", .methodLink RX0 49 yX0_bit, .instanceMethod yX0_bit, .selects RX0 yX0_bit yX0_bit, .initialized RX0, .code yX0_bit cX0_bit 3 (some .long)], wsX00]
set_option maxRecDepth 20000 in
theorem chX0_drawFoursOfRows_in : ∀ c ∈ chX0_drawFoursOfRows, ∀ w ∈ c, w ∈ wsX0_drawFoursOfRows := (all_c (P := fun c => ∀ w ∈ c, w ∈ wsX0_drawFoursOfRows) (fun w h => List.mem_cons_of_mem _ (List.mem_append_left _ (h))) (all_c (P := fun c => ∀ w ∈ c, w ∈ wsX0_drawFoursOfRows) (fun w h => List.mem_cons_of_mem _ (List.mem_append_right _ (h))) (fun _ h => nomatch h)))
set_option maxRecDepth 20000 in
theorem ggX0_drawFoursOfRows_X0_bit : GoodIn wsX0_drawFoursOfRows wsX0_bit := goodIn_ca (goodIn_c chX0_drawFoursOfRows chX0_drawFoursOfRows_in _ [(0, 8), (0, 0)] (by rfl) (by decide +kernel)) (goodIn_sub (fun _ h => List.mem_cons_of_mem _ (List.mem_append_right _ (h))) (by decide +kernel))
set_option maxRecDepth 20000 in
theorem gX0_drawFoursOfRows_X0_bit : GoodIn wsX0_drawFoursOfRows (wsV RX0 49 RX0 yX0_bit wsX0_bit) := goodIn_app (goodIn_c chX0_drawFoursOfRows chX0_drawFoursOfRows_in _ [(0, 4), (0, 5), (0, 6), (0, 7)] (by rfl) (by decide +kernel)) ggX0_drawFoursOfRows_X0_bit
theorem dX0_drawFoursOfRows_0 : decode cX0_drawFoursOfRows 0 = .ok (.iload_n 1, 1) := by decide +kernel
theorem dX0_drawFoursOfRows_1 : decode cX0_drawFoursOfRows 1 = .ok (.istore 4, 2) := by decide +kernel
theorem dX0_drawFoursOfRows_3 : decode cX0_drawFoursOfRows 3 = .ok (.iconst 0, 1) := by decide +kernel
theorem dX0_drawFoursOfRows_4 : decode cX0_drawFoursOfRows 4 = .ok (.istore 5, 2) := by decide +kernel
theorem dX0_drawFoursOfRows_6 : decode cX0_drawFoursOfRows 6 = .ok (.iload 5, 2) := by decide +kernel
theorem dX0_drawFoursOfRows_8 : decode cX0_drawFoursOfRows 8 = .ok (.aload_n 0, 1) := by decide +kernel
theorem dX0_drawFoursOfRows_9 : decode cX0_drawFoursOfRows 9 = .ok (.getfield 13, 3) := by decide +kernel
theorem dX0_drawFoursOfRows_12 : decode cX0_drawFoursOfRows 12 = .ok (.if_icmp .ge 86, 3) := by decide +kernel
theorem dX0_drawFoursOfRows_15 : decode cX0_drawFoursOfRows 15 = .ok (.iload 5, 2) := by decide +kernel
theorem dX0_drawFoursOfRows_17 : decode cX0_drawFoursOfRows 17 = .ok (.iconst 1, 1) := by decide +kernel
theorem dX0_drawFoursOfRows_18 : decode cX0_drawFoursOfRows 18 = .ok (.iadd, 1) := by decide +kernel
theorem dX0_drawFoursOfRows_19 : decode cX0_drawFoursOfRows 19 = .ok (.istore 6, 2) := by decide +kernel
theorem dX0_drawFoursOfRows_21 : decode cX0_drawFoursOfRows 21 = .ok (.iload 6, 2) := by decide +kernel
theorem dX0_drawFoursOfRows_23 : decode cX0_drawFoursOfRows 23 = .ok (.aload_n 0, 1) := by decide +kernel
theorem dX0_drawFoursOfRows_24 : decode cX0_drawFoursOfRows 24 = .ok (.getfield 13, 3) := by decide +kernel
theorem dX0_drawFoursOfRows_27 : decode cX0_drawFoursOfRows 27 = .ok (.if_icmp .ge 65, 3) := by decide +kernel
theorem dX0_drawFoursOfRows_30 : decode cX0_drawFoursOfRows 30 = .ok (.iload 4, 2) := by decide +kernel
theorem dX0_drawFoursOfRows_32 : decode cX0_drawFoursOfRows 32 = .ok (.aload_n 0, 1) := by decide +kernel
theorem dX0_drawFoursOfRows_33 : decode cX0_drawFoursOfRows 33 = .ok (.getfield 30, 3) := by decide +kernel
theorem dX0_drawFoursOfRows_36 : decode cX0_drawFoursOfRows 36 = .ok (.if_icmp .ge 56, 3) := by decide +kernel
theorem dX0_drawFoursOfRows_39 : decode cX0_drawFoursOfRows 39 = .ok (.aload_n 0, 1) := by decide +kernel
theorem dX0_drawFoursOfRows_40 : decode cX0_drawFoursOfRows 40 = .ok (.getfield 33, 3) := by decide +kernel
theorem dX0_drawFoursOfRows_43 : decode cX0_drawFoursOfRows 43 = .ok (.iload 4, 2) := by decide +kernel
theorem dX0_drawFoursOfRows_45 : decode cX0_drawFoursOfRows 45 = .ok (.aload_n 0, 1) := by decide +kernel
theorem dX0_drawFoursOfRows_46 : decode cX0_drawFoursOfRows 46 = .ok (.iload 5, 2) := by decide +kernel
theorem dX0_drawFoursOfRows_48 : decode cX0_drawFoursOfRows 48 = .ok (.iload_n 2, 1) := by decide +kernel
theorem dX0_drawFoursOfRows_49 : decode cX0_drawFoursOfRows 49 = .ok (.invokevirtual 49, 3) := by decide +kernel
theorem dX0_drawFoursOfRows_52 : decode cX0_drawFoursOfRows 52 = .ok (.aload_n 0, 1) := by decide +kernel
theorem dX0_drawFoursOfRows_53 : decode cX0_drawFoursOfRows 53 = .ok (.iload 6, 2) := by decide +kernel
theorem dX0_drawFoursOfRows_55 : decode cX0_drawFoursOfRows 55 = .ok (.iload_n 3, 1) := by decide +kernel
theorem dX0_drawFoursOfRows_56 : decode cX0_drawFoursOfRows 56 = .ok (.invokevirtual 49, 3) := by decide +kernel
theorem dX0_drawFoursOfRows_59 : decode cX0_drawFoursOfRows 59 = .ok (.lor, 1) := by decide +kernel
theorem dX0_drawFoursOfRows_60 : decode cX0_drawFoursOfRows 60 = .ok (.lastore, 1) := by decide +kernel
theorem dX0_drawFoursOfRows_61 : decode cX0_drawFoursOfRows 61 = .ok (.aload_n 0, 1) := by decide +kernel
theorem dX0_drawFoursOfRows_62 : decode cX0_drawFoursOfRows 62 = .ok (.getfield 36, 3) := by decide +kernel
theorem dX0_drawFoursOfRows_65 : decode cX0_drawFoursOfRows 65 = .ok (.iload 4, 2) := by decide +kernel
theorem dX0_drawFoursOfRows_67 : decode cX0_drawFoursOfRows 67 = .ok (.aload_n 0, 1) := by decide +kernel
theorem dX0_drawFoursOfRows_68 : decode cX0_drawFoursOfRows 68 = .ok (.iload 6, 2) := by decide +kernel
theorem dX0_drawFoursOfRows_70 : decode cX0_drawFoursOfRows 70 = .ok (.iload_n 2, 1) := by decide +kernel
theorem dX0_drawFoursOfRows_71 : decode cX0_drawFoursOfRows 71 = .ok (.invokevirtual 49, 3) := by decide +kernel
theorem dX0_drawFoursOfRows_74 : decode cX0_drawFoursOfRows 74 = .ok (.aload_n 0, 1) := by decide +kernel
theorem dX0_drawFoursOfRows_75 : decode cX0_drawFoursOfRows 75 = .ok (.iload 5, 2) := by decide +kernel
theorem dX0_drawFoursOfRows_77 : decode cX0_drawFoursOfRows 77 = .ok (.iload_n 3, 1) := by decide +kernel
theorem dX0_drawFoursOfRows_78 : decode cX0_drawFoursOfRows 78 = .ok (.invokevirtual 49, 3) := by decide +kernel
theorem dX0_drawFoursOfRows_81 : decode cX0_drawFoursOfRows 81 = .ok (.lor, 1) := by decide +kernel
theorem dX0_drawFoursOfRows_82 : decode cX0_drawFoursOfRows 82 = .ok (.lastore, 1) := by decide +kernel
theorem dX0_drawFoursOfRows_83 : decode cX0_drawFoursOfRows 83 = .ok (.iinc 4 1, 3) := by decide +kernel
theorem dX0_drawFoursOfRows_86 : decode cX0_drawFoursOfRows 86 = .ok (.iinc 6 1, 3) := by decide +kernel
theorem dX0_drawFoursOfRows_89 : decode cX0_drawFoursOfRows 89 = .ok (.goto (-68), 3) := by decide +kernel
theorem dX0_drawFoursOfRows_92 : decode cX0_drawFoursOfRows 92 = .ok (.iinc 5 1, 3) := by decide +kernel
theorem dX0_drawFoursOfRows_95 : decode cX0_drawFoursOfRows 95 = .ok (.goto (-89), 3) := by decide +kernel
theorem dX0_drawFoursOfRows_98 : decode cX0_drawFoursOfRows 98 = .ok (.iload 4, 2) := by decide +kernel
theorem dX0_drawFoursOfRows_100 : decode cX0_drawFoursOfRows 100 = .ok (.ireturn, 1) := by decide +kernel
def chX1_init : List (List Cond) := [[.methodLink RX1 1 yX4_init, .instanceMethod yX4_init, .initialized RX4, .code yX4_init cX4_init 2 none, .methodLink RX4 1 yX3_init, .instanceMethod yX3_init, .initialized RX3, .code yX3_init cX3_init 2 none, .arrayClass .int, .fieldLink RX3 11 "ShadowBench$Job" "sums" "[I", .fieldLink RX3 17 "ShadowBench$Job" "toldWays" "I", .fieldLink RX3 21 "ShadowBench$Job" "heldOnes" "J", .fieldLink RX3 25 "ShadowBench$Job" "heldNoughts" "J", .fieldLink RX3 28 "ShadowBench$Job" "board" "LShadowBench$Board;", .instanceMethod yX2_init, .initialized RX2, .code yX2_init cX2_init 1 none, .methodLink RX2 1 objectInit, .instanceMethod objectInit, .code objectInit ⟨#[0xb1]⟩ 1 none], wsX10, wsX30, wsX40, wsX50]
set_option maxRecDepth 20000 in
theorem chX1_init_in : ∀ c ∈ chX1_init, ∀ w ∈ c, w ∈ wsX1_init := (all_c (P := fun c => ∀ w ∈ c, w ∈ wsX1_init) (fun w h => List.mem_cons_of_mem _ (List.mem_append_left _ (List.mem_append_left _ (List.mem_append_left _ (List.mem_append_left _ (h)))))) (all_c (P := fun c => ∀ w ∈ c, w ∈ wsX1_init) (fun w h => List.mem_cons_of_mem _ (List.mem_append_left _ (List.mem_append_left _ (List.mem_append_left _ (List.mem_append_right _ (h)))))) (all_c (P := fun c => ∀ w ∈ c, w ∈ wsX1_init) (fun w h => List.mem_cons_of_mem _ (List.mem_append_left _ (List.mem_append_left _ (List.mem_append_right _ (h))))) (all_c (P := fun c => ∀ w ∈ c, w ∈ wsX1_init) (fun w h => List.mem_cons_of_mem _ (List.mem_append_left _ (List.mem_append_right _ (h)))) (all_c (P := fun c => ∀ w ∈ c, w ∈ wsX1_init) (fun w h => List.mem_cons_of_mem _ (List.mem_append_right _ (h))) (fun _ h => nomatch h))))))
set_option maxRecDepth 20000 in
theorem ggX1_init_X4_init : GoodIn wsX1_init wsX4_init := goodIn_ca (goodIn_ca (goodIn_ca (goodIn_ca (goodIn_c chX1_init chX1_init_in _ [(0, 3), (0, 4), (0, 5), (0, 6), (0, 7), (0, 8), (0, 9), (0, 10), (0, 11), (0, 12), (0, 13), (0, 14), (0, 15), (0, 16), (0, 17), (0, 18), (0, 19)] (by rfl) (by decide +kernel)) (goodIn_sub (fun _ h => List.mem_cons_of_mem _ (List.mem_append_left _ (List.mem_append_left _ (List.mem_append_left _ (List.mem_append_right _ (h)))))) (by decide +kernel))) (goodIn_sub (fun _ h => List.mem_cons_of_mem _ (List.mem_append_left _ (List.mem_append_left _ (List.mem_append_right _ (h))))) (by decide +kernel))) (goodIn_sub (fun _ h => List.mem_cons_of_mem _ (List.mem_append_left _ (List.mem_append_right _ (h)))) (by decide +kernel))) (goodIn_sub (fun _ h => List.mem_cons_of_mem _ (List.mem_append_right _ (h))) (by decide +kernel))
set_option maxRecDepth 20000 in
theorem gX1_init_X4_init : GoodIn wsX1_init (wsX4_init) := ggX1_init_X4_init
theorem dX1_init_0 : decode cX1_init 0 = .ok (.aload_n 0, 1) := by decide +kernel
theorem dX1_init_1 : decode cX1_init 1 = .ok (.aload_n 1, 1) := by decide +kernel
theorem dX1_init_2 : decode cX1_init 2 = .ok (.invokespecial 1, 3) := by decide +kernel
theorem dX1_init_5 : decode cX1_init 5 = .ok (.return_, 1) := by decide +kernel
def chX1_isAsKindAsks : List (List Cond) := [wsX1_isAsKindAsks_r1, wsX1_isAsKindAsks_r2, wsX10, wsX30, wsX40, wsX50, wsX00]
set_option maxRecDepth 20000 in
theorem chX1_isAsKindAsks_in : ∀ c ∈ chX1_isAsKindAsks, ∀ w ∈ c, w ∈ wsX1_isAsKindAsks := (all_c (P := fun c => ∀ w ∈ c, w ∈ wsX1_isAsKindAsks) (fun w h => List.mem_cons_of_mem _ (List.mem_append_left _ (List.mem_append_left _ (List.mem_append_left _ (List.mem_append_left _ (List.mem_append_left _ (List.mem_append_left _ (h)))))))) (all_c (P := fun c => ∀ w ∈ c, w ∈ wsX1_isAsKindAsks) (fun w h => List.mem_cons_of_mem _ (List.mem_append_left _ (List.mem_append_left _ (List.mem_append_left _ (List.mem_append_left _ (List.mem_append_left _ (List.mem_append_right _ (h)))))))) (all_c (P := fun c => ∀ w ∈ c, w ∈ wsX1_isAsKindAsks) (fun w h => List.mem_cons_of_mem _ (List.mem_append_left _ (List.mem_append_left _ (List.mem_append_left _ (List.mem_append_left _ (List.mem_append_right _ (h))))))) (all_c (P := fun c => ∀ w ∈ c, w ∈ wsX1_isAsKindAsks) (fun w h => List.mem_cons_of_mem _ (List.mem_append_left _ (List.mem_append_left _ (List.mem_append_left _ (List.mem_append_right _ (h)))))) (all_c (P := fun c => ∀ w ∈ c, w ∈ wsX1_isAsKindAsks) (fun w h => List.mem_cons_of_mem _ (List.mem_append_left _ (List.mem_append_left _ (List.mem_append_right _ (h))))) (all_c (P := fun c => ∀ w ∈ c, w ∈ wsX1_isAsKindAsks) (fun w h => List.mem_cons_of_mem _ (List.mem_append_left _ (List.mem_append_right _ (h)))) (all_c (P := fun c => ∀ w ∈ c, w ∈ wsX1_isAsKindAsks) (fun w h => List.mem_cons_of_mem _ (List.mem_append_right _ (h))) (fun _ h => nomatch h))))))))
set_option maxRecDepth 20000 in
theorem ggX1_isAsKindAsks_X4_isAsKindAsks : GoodIn wsX1_isAsKindAsks wsX4_isAsKindAsks := goodIn_ca (goodIn_ca (goodIn_ca (goodIn_ca (goodIn_ca (goodIn_c chX1_isAsKindAsks chX1_isAsKindAsks_in _ [(0, 7), (0, 8), (0, 9), (0, 10), (0, 11), (0, 12), (0, 13), (0, 14), (0, 15), (0, 16), (0, 17), (0, 18)] (by rfl) (by decide +kernel)) (goodIn_sub (fun _ h => List.mem_cons_of_mem _ (List.mem_append_left _ (List.mem_append_left _ (List.mem_append_left _ (List.mem_append_left _ (List.mem_append_right _ (h))))))) (by decide +kernel))) (goodIn_sub (fun _ h => List.mem_cons_of_mem _ (List.mem_append_left _ (List.mem_append_left _ (List.mem_append_left _ (List.mem_append_right _ (h)))))) (by decide +kernel))) (goodIn_sub (fun _ h => List.mem_cons_of_mem _ (List.mem_append_left _ (List.mem_append_left _ (List.mem_append_right _ (h))))) (by decide +kernel))) (goodIn_sub (fun _ h => List.mem_cons_of_mem _ (List.mem_append_left _ (List.mem_append_right _ (h)))) (by decide +kernel))) (goodIn_sub (fun _ h => List.mem_cons_of_mem _ (List.mem_append_right _ (h))) (by decide +kernel))
set_option maxRecDepth 20000 in
theorem gX1_isAsKindAsks_X4_isAsKindAsks_s7 : GoodIn wsX1_isAsKindAsks (va_wsSU RX1 7 yX4_isAsKindAsks wsX4_isAsKindAsks) := goodIn_app (goodIn_of _ (by decide +kernel)) ggX1_isAsKindAsks_X4_isAsKindAsks
set_option maxRecDepth 20000 in
theorem ggX1_isAsKindAsks_X0_rowsAreWhole : GoodIn wsX1_isAsKindAsks wsX0_rowsAreWhole := goodIn_ca (goodIn_c chX1_isAsKindAsks chX1_isAsKindAsks_in _ [(0, 22), (0, 23), (1, 0), (1, 1), (1, 2), (0, 13), (1, 3), (0, 16), (1, 4)] (by rfl) (by decide +kernel)) (goodIn_sub (fun _ h => List.mem_cons_of_mem _ (List.mem_append_right _ (h))) (by decide +kernel))
set_option maxRecDepth 20000 in
theorem gX1_isAsKindAsks_X0_rowsAreWhole : GoodIn wsX1_isAsKindAsks (wsV RX1 17 RX0 yX0_rowsAreWhole wsX0_rowsAreWhole) := goodIn_app (goodIn_c chX1_isAsKindAsks chX1_isAsKindAsks_in _ [(0, 19), (0, 20), (0, 21), (0, 13)] (by rfl) (by decide +kernel)) ggX1_isAsKindAsks_X0_rowsAreWhole
set_option maxRecDepth 20000 in
theorem ggX1_isAsKindAsks_X0_columnsAreWhole : GoodIn wsX1_isAsKindAsks wsX0_columnsAreWhole := goodIn_ca (goodIn_c chX1_isAsKindAsks chX1_isAsKindAsks_in _ [(1, 8), (0, 23), (1, 0), (1, 1), (1, 2), (0, 13), (1, 3), (0, 16), (1, 4)] (by rfl) (by decide +kernel)) (goodIn_sub (fun _ h => List.mem_cons_of_mem _ (List.mem_append_right _ (h))) (by decide +kernel))
set_option maxRecDepth 20000 in
theorem gX1_isAsKindAsks_X0_columnsAreWhole : GoodIn wsX1_isAsKindAsks (wsV RX1 22 RX0 yX0_columnsAreWhole wsX0_columnsAreWhole) := goodIn_app (goodIn_c chX1_isAsKindAsks chX1_isAsKindAsks_in _ [(1, 5), (1, 6), (1, 7), (0, 13)] (by rfl) (by decide +kernel)) ggX1_isAsKindAsks_X0_columnsAreWhole
theorem dX1_isAsKindAsks_0 : decode cX1_isAsKindAsks 0 = .ok (.aload_n 0, 1) := by decide +kernel
theorem dX1_isAsKindAsks_1 : decode cX1_isAsKindAsks 1 = .ok (.lload_n 1, 1) := by decide +kernel
theorem dX1_isAsKindAsks_2 : decode cX1_isAsKindAsks 2 = .ok (.invokespecial 7, 3) := by decide +kernel
theorem dX1_isAsKindAsks_5 : decode cX1_isAsKindAsks 5 = .ok (.ifCond .eq 29, 3) := by decide +kernel
theorem dX1_isAsKindAsks_8 : decode cX1_isAsKindAsks 8 = .ok (.aload_n 0, 1) := by decide +kernel
theorem dX1_isAsKindAsks_9 : decode cX1_isAsKindAsks 9 = .ok (.getfield 11, 3) := by decide +kernel
theorem dX1_isAsKindAsks_12 : decode cX1_isAsKindAsks 12 = .ok (.lload_n 1, 1) := by decide +kernel
theorem dX1_isAsKindAsks_13 : decode cX1_isAsKindAsks 13 = .ok (.invokevirtual 17, 3) := by decide +kernel
theorem dX1_isAsKindAsks_16 : decode cX1_isAsKindAsks 16 = .ok (.ifCond .eq 18, 3) := by decide +kernel
theorem dX1_isAsKindAsks_19 : decode cX1_isAsKindAsks 19 = .ok (.aload_n 0, 1) := by decide +kernel
theorem dX1_isAsKindAsks_20 : decode cX1_isAsKindAsks 20 = .ok (.getfield 11, 3) := by decide +kernel
theorem dX1_isAsKindAsks_23 : decode cX1_isAsKindAsks 23 = .ok (.lload_n 1, 1) := by decide +kernel
theorem dX1_isAsKindAsks_24 : decode cX1_isAsKindAsks 24 = .ok (.invokevirtual 22, 3) := by decide +kernel
theorem dX1_isAsKindAsks_27 : decode cX1_isAsKindAsks 27 = .ok (.ifCond .eq 7, 3) := by decide +kernel
theorem dX1_isAsKindAsks_30 : decode cX1_isAsKindAsks 30 = .ok (.iconst 1, 1) := by decide +kernel
theorem dX1_isAsKindAsks_31 : decode cX1_isAsKindAsks 31 = .ok (.goto 4, 3) := by decide +kernel
theorem dX1_isAsKindAsks_34 : decode cX1_isAsKindAsks 34 = .ok (.iconst 0, 1) := by decide +kernel
theorem dX1_isAsKindAsks_35 : decode cX1_isAsKindAsks 35 = .ok (.ireturn, 1) := by decide +kernel
def chX1_heft : List (List Cond) := [[.methodLink RX1 25 yX4_heft, .sameMethod "ShadowBench$JoinedJob" "ShadowBench$JoinedJob" "heft" "()I", .superclass RX1 RX4, .instanceMethod yX4_heft, .initialized RX4, .code yX4_heft cX4_heft 1 (some .int), .methodLink RX4 19 yX3_heft, .sameMethod "ShadowBench$Job" "ShadowBench$Job" "heft" "()I", .superclass RX4 RX3, .instanceMethod yX3_heft, .initialized RX3, .code yX3_heft cX3_heft 1 (some .int), .fieldLink RX3 28 "ShadowBench$Job" "board" "LShadowBench$Board;", .fieldLink RX3 80 "ShadowBench$Board" "squares" "I"], wsX10, wsX30, wsX40, wsX50, wsX00]
set_option maxRecDepth 20000 in
theorem chX1_heft_in : ∀ c ∈ chX1_heft, ∀ w ∈ c, w ∈ wsX1_heft := (all_c (P := fun c => ∀ w ∈ c, w ∈ wsX1_heft) (fun w h => List.mem_cons_of_mem _ (List.mem_append_left _ (List.mem_append_left _ (List.mem_append_left _ (List.mem_append_left _ (List.mem_append_left _ (h))))))) (all_c (P := fun c => ∀ w ∈ c, w ∈ wsX1_heft) (fun w h => List.mem_cons_of_mem _ (List.mem_append_left _ (List.mem_append_left _ (List.mem_append_left _ (List.mem_append_left _ (List.mem_append_right _ (h))))))) (all_c (P := fun c => ∀ w ∈ c, w ∈ wsX1_heft) (fun w h => List.mem_cons_of_mem _ (List.mem_append_left _ (List.mem_append_left _ (List.mem_append_left _ (List.mem_append_right _ (h)))))) (all_c (P := fun c => ∀ w ∈ c, w ∈ wsX1_heft) (fun w h => List.mem_cons_of_mem _ (List.mem_append_left _ (List.mem_append_left _ (List.mem_append_right _ (h))))) (all_c (P := fun c => ∀ w ∈ c, w ∈ wsX1_heft) (fun w h => List.mem_cons_of_mem _ (List.mem_append_left _ (List.mem_append_right _ (h)))) (all_c (P := fun c => ∀ w ∈ c, w ∈ wsX1_heft) (fun w h => List.mem_cons_of_mem _ (List.mem_append_right _ (h))) (fun _ h => nomatch h)))))))
set_option maxRecDepth 20000 in
theorem ggX1_heft_X4_heft : GoodIn wsX1_heft wsX4_heft := goodIn_ca (goodIn_ca (goodIn_ca (goodIn_ca (goodIn_ca (goodIn_c chX1_heft chX1_heft_in _ [(0, 5), (0, 6), (0, 7), (0, 8), (0, 9), (0, 10), (0, 11), (0, 12), (0, 13)] (by rfl) (by decide +kernel)) (goodIn_sub (fun _ h => List.mem_cons_of_mem _ (List.mem_append_left _ (List.mem_append_left _ (List.mem_append_left _ (List.mem_append_left _ (List.mem_append_right _ (h))))))) (by decide +kernel))) (goodIn_sub (fun _ h => List.mem_cons_of_mem _ (List.mem_append_left _ (List.mem_append_left _ (List.mem_append_left _ (List.mem_append_right _ (h)))))) (by decide +kernel))) (goodIn_sub (fun _ h => List.mem_cons_of_mem _ (List.mem_append_left _ (List.mem_append_left _ (List.mem_append_right _ (h))))) (by decide +kernel))) (goodIn_sub (fun _ h => List.mem_cons_of_mem _ (List.mem_append_left _ (List.mem_append_right _ (h)))) (by decide +kernel))) (goodIn_sub (fun _ h => List.mem_cons_of_mem _ (List.mem_append_right _ (h))) (by decide +kernel))
set_option maxRecDepth 20000 in
theorem gX1_heft_X4_heft_s25 : GoodIn wsX1_heft (va_wsSU RX1 25 yX4_heft wsX4_heft) := goodIn_app (goodIn_of _ (by decide +kernel)) ggX1_heft_X4_heft
theorem dX1_heft_0 : decode cX1_heft 0 = .ok (.iconst 2, 1) := by decide +kernel
theorem dX1_heft_1 : decode cX1_heft 1 = .ok (.aload_n 0, 1) := by decide +kernel
theorem dX1_heft_2 : decode cX1_heft 2 = .ok (.invokespecial 25, 3) := by decide +kernel
theorem dX1_heft_5 : decode cX1_heft 5 = .ok (.imul, 1) := by decide +kernel
theorem dX1_heft_6 : decode cX1_heft 6 = .ok (.ireturn, 1) := by decide +kernel
def chX1_asItIs : List (List Cond) := [wsX1_asItIs_r1, wsX1_asItIs_r2, wsX10, wsX30, wsX40, wsX50]
set_option maxRecDepth 20000 in
theorem chX1_asItIs_in : ∀ c ∈ chX1_asItIs, ∀ w ∈ c, w ∈ wsX1_asItIs := (all_c (P := fun c => ∀ w ∈ c, w ∈ wsX1_asItIs) (fun w h => List.mem_cons_of_mem _ (List.mem_append_left _ (List.mem_append_left _ (List.mem_append_left _ (List.mem_append_left _ (List.mem_append_left _ (h))))))) (all_c (P := fun c => ∀ w ∈ c, w ∈ wsX1_asItIs) (fun w h => List.mem_cons_of_mem _ (List.mem_append_left _ (List.mem_append_left _ (List.mem_append_left _ (List.mem_append_left _ (List.mem_append_right _ (h))))))) (all_c (P := fun c => ∀ w ∈ c, w ∈ wsX1_asItIs) (fun w h => List.mem_cons_of_mem _ (List.mem_append_left _ (List.mem_append_left _ (List.mem_append_left _ (List.mem_append_right _ (h)))))) (all_c (P := fun c => ∀ w ∈ c, w ∈ wsX1_asItIs) (fun w h => List.mem_cons_of_mem _ (List.mem_append_left _ (List.mem_append_left _ (List.mem_append_right _ (h))))) (all_c (P := fun c => ∀ w ∈ c, w ∈ wsX1_asItIs) (fun w h => List.mem_cons_of_mem _ (List.mem_append_left _ (List.mem_append_right _ (h)))) (all_c (P := fun c => ∀ w ∈ c, w ∈ wsX1_asItIs) (fun w h => List.mem_cons_of_mem _ (List.mem_append_right _ (h))) (fun _ h => nomatch h)))))))
set_option maxRecDepth 20000 in
theorem ggX1_asItIs_X1_init : GoodIn wsX1_asItIs wsX1_init := goodIn_ca (goodIn_ca (goodIn_ca (goodIn_ca (goodIn_c chX1_asItIs chX1_asItIs_in _ [(0, 7), (0, 8), (0, 9), (0, 10), (0, 11), (0, 12), (0, 13), (0, 14), (0, 15), (0, 16), (0, 17), (0, 18), (0, 19), (0, 20), (0, 21), (0, 22), (0, 23), (1, 0), (1, 1), (1, 2), (1, 3)] (by rfl) (by decide +kernel)) (goodIn_sub (fun _ h => List.mem_cons_of_mem _ (List.mem_append_left _ (List.mem_append_left _ (List.mem_append_left _ (List.mem_append_right _ (h)))))) (by decide +kernel))) (goodIn_sub (fun _ h => List.mem_cons_of_mem _ (List.mem_append_left _ (List.mem_append_left _ (List.mem_append_right _ (h))))) (by decide +kernel))) (goodIn_sub (fun _ h => List.mem_cons_of_mem _ (List.mem_append_left _ (List.mem_append_right _ (h)))) (by decide +kernel))) (goodIn_sub (fun _ h => List.mem_cons_of_mem _ (List.mem_append_right _ (h))) (by decide +kernel))
set_option maxRecDepth 20000 in
theorem gX1_asItIs_X1_init : GoodIn wsX1_asItIs (wsX1_init) := ggX1_asItIs_X1_init
set_option maxRecDepth 20000 in
theorem ggX1_asItIs_X3_alike : GoodIn wsX1_asItIs wsX3_alike := goodIn_ca (goodIn_ca (goodIn_ca (goodIn_ca (goodIn_c chX1_asItIs chX1_asItIs_in _ [(1, 8), (0, 17), (1, 9), (1, 10), (1, 11), (1, 12), (0, 18), (0, 19), (0, 20)] (by rfl) (by decide +kernel)) (goodIn_sub (fun _ h => List.mem_cons_of_mem _ (List.mem_append_left _ (List.mem_append_left _ (List.mem_append_left _ (List.mem_append_right _ (h)))))) (by decide +kernel))) (goodIn_sub (fun _ h => List.mem_cons_of_mem _ (List.mem_append_left _ (List.mem_append_left _ (List.mem_append_right _ (h))))) (by decide +kernel))) (goodIn_sub (fun _ h => List.mem_cons_of_mem _ (List.mem_append_left _ (List.mem_append_right _ (h)))) (by decide +kernel))) (goodIn_sub (fun _ h => List.mem_cons_of_mem _ (List.mem_append_right _ (h))) (by decide +kernel))
set_option maxRecDepth 20000 in
theorem gX1_asItIs_X3_alike_u37X1 : GoodIn wsX1_asItIs (va_wsU RX1 37 RX1 "ShadowBench$Job" ⟨"ShadowBench$EvenJob", "alike", "(LShadowBench$Job;)LShadowBench$Job;"⟩ yX3_alike wsX3_alike) := goodIn_app (goodIn_c chX1_asItIs chX1_asItIs_in _ [(1, 4), (1, 5), (1, 6), (1, 7), (0, 14)] (by rfl) (by decide +kernel)) ggX1_asItIs_X3_alike

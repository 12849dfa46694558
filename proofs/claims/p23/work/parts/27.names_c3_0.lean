def tyX6 : Nat → FieldType := fun k => match k with
  | 0 => .array .long
  | 1 => .int
  | _ => .array .int
abbrev wsX60 : List Cond := u_ws RX6 TX6 3
theorem nmX6 : ∀ a, a < 3 → ∀ b, b < 3 → a ≠ b → (TX6 a).2.1 ≠ (TX6 b).2.1 := by decide +kernel
theorem tyX6_ok : ∀ k, k < 3 → parseFieldDescriptor (TX6 k).2.2.1 = some (tyX6 k) := by decide +kernel
abbrev cX6_init : ByteArray := prog_8_method_1_code
abbrev cX6_fewestSwitches : ByteArray := prog_8_method_2_code
def yX6_fewestSwitches : MethodName := ⟨RX6, "fewestSwitches", "(LShadowBench$Board;JJ)I"⟩
abbrev cX6_meetNeighbours : ByteArray := prog_8_method_3_code
def yX6_meetNeighbours : MethodName := ⟨RX6, "meetNeighbours", "(LShadowBench$Board;J)Z"⟩
abbrev cX6_knows : ByteArray := prog_8_method_4_code
def yX6_knows : MethodName := ⟨RX6, "knows", "(J)Z"⟩
abbrev cX6_meet : ByteArray := prog_8_method_5_code
def yX6_meet : MethodName := ⟨RX6, "meet", "(J)Z"⟩
abbrev cX6_slotFor : ByteArray := prog_8_method_6_code
def yX6_slotFor : MethodName := ⟨RX6, "slotFor", "(J)I"⟩
abbrev cX6_isTakenByOther : ByteArray := prog_8_method_7_code
def yX6_isTakenByOther : MethodName := ⟨RX6, "isTakenByOther", "(IJ)Z"⟩
def tyX8 : Nat → FieldType := fun k => match k with
  | 0 => .object "ShadowBench$Job"
  | 1 => .int
  | 2 => .int
  | 3 => .boolean
  | 4 => .long
  | 5 => .array .int
  | 6 => .array .int
  | 7 => .array .int
  | 8 => .array .int
  | _ => .array .long
abbrev wsX80 : List Cond := u_ws RX8 TX8 10
theorem nmX8 : ∀ a, a < 10 → ∀ b, b < 10 → a ≠ b → (TX8 a).2.1 ≠ (TX8 b).2.1 := by decide +kernel
theorem tyX8_ok : ∀ k, k < 10 → parseFieldDescriptor (TX8 k).2.2.1 = some (tyX8 k) := by decide +kernel
abbrev cX8_init : ByteArray := prog_10_method_1_code
abbrev cX8_start : ByteArray := prog_10_method_2_code
def yX8_start : MethodName := ⟨RX8, "start", "(LShadowBench$Job;)V"⟩
abbrev cX8_isSpent : ByteArray := prog_10_method_3_code
def yX8_isSpent : MethodName := ⟨RX8, "isSpent", "()Z"⟩
abbrev cX8_found : ByteArray := prog_10_method_4_code
def yX8_found : MethodName := ⟨RX8, "found", "()J"⟩
abbrev cX8_advance : ByteArray := prog_10_method_5_code
def yX8_advance : MethodName := ⟨RX8, "advance", "()Z"⟩
abbrev cX8_hasRow : ByteArray := prog_10_method_6_code
def yX8_hasRow : MethodName := ⟨RX8, "hasRow", "()Z"⟩
abbrev cX8_enterRow : ByteArray := prog_10_method_7_code
def yX8_enterRow : MethodName := ⟨RX8, "enterRow", "(IJ)V"⟩
abbrev cX8_nextGoingOn : ByteArray := prog_10_method_8_code
def yX8_nextGoingOn : MethodName := ⟨RX8, "nextGoingOn", "()I"⟩
abbrev cX8_completes : ByteArray := prog_10_method_9_code
def yX8_completes : MethodName := ⟨RX8, "completes", "(I)Z"⟩
def RJ7 : String := "java/util/Arrays"
abbrev cJ7_fill_53178 : ByteArray := prog_24_method_103_code
def yJ7_fill_53178 : MethodName := ⟨RJ7, "fill", "([II)V"⟩
def wsX6_init : List Cond := .code yX6_init cX6_init 1 none :: ([.methodLink RX6 5 objectInit, .instanceMethod objectInit, .code objectInit ⟨#[0xb1]⟩ 1 none, .arrayClass .long, .fieldLink RX6 11 "ShadowBench$Meetings" "met" "[J", .fieldLink RX6 15 "ShadowBench$Meetings" "size" "I", .constant RX6 19 (32768), .arrayClass .int, .fieldLink RX6 20 "ShadowBench$Meetings" "slots" "[I"] ++ wsX60)
def wsJ7_fill_53178 : List Cond := .code yJ7_fill_53178 cJ7_fill_53178 4 none :: ([])
def wsX6_isTakenByOther : List Cond := .code yX6_isTakenByOther cX6_isTakenByOther 5 (some .boolean) :: ([.fieldLink RX6 20 "ShadowBench$Meetings" "slots" "[I", .fieldLink RX6 11 "ShadowBench$Meetings" "met" "[J"] ++ wsX60)
def wsX6_slotFor : List Cond := .code yX6_slotFor cX6_slotFor 5 (some .int) :: ([.constantLong RX6 54 (-7046029254386353131), .constant RX6 19 (32768), .methodLink RX6 56 yX6_isTakenByOther, .instanceMethod yX6_isTakenByOther, .selects RX6 yX6_isTakenByOther yX6_isTakenByOther, .initialized RX6, .code yX6_isTakenByOther cX6_isTakenByOther 5 (some .boolean), .fieldLink RX6 20 "ShadowBench$Meetings" "slots" "[I", .fieldLink RX6 11 "ShadowBench$Meetings" "met" "[J"] ++ wsX60)
def wsX6_meet : List Cond := .code yX6_meet cX6_meet 4 (some .boolean) :: ([.fieldLink RX6 20 "ShadowBench$Meetings" "slots" "[I", .fieldLink RX6 15 "ShadowBench$Meetings" "size" "I", .fieldLink RX6 11 "ShadowBench$Meetings" "met" "[J", .methodLink RX6 50 yX6_slotFor, .instanceMethod yX6_slotFor, .selects RX6 yX6_slotFor yX6_slotFor, .initialized RX6, .code yX6_slotFor cX6_slotFor 5 (some .int), .constantLong RX6 54 (-7046029254386353131), .constant RX6 19 (32768), .methodLink RX6 56 yX6_isTakenByOther, .instanceMethod yX6_isTakenByOther, .selects RX6 yX6_isTakenByOther yX6_isTakenByOther, .code yX6_isTakenByOther cX6_isTakenByOther 5 (some .boolean)] ++ wsX60)
def wsX6_meetNeighbours_r1 : List Cond := [Cond.fieldLink RX6 41 "ShadowBench$Board" "fours" "I", Cond.methodLink RX6 46 yX0_behindFour, Cond.instanceMethod yX0_behindFour, Cond.selects RX0 yX0_behindFour yX0_behindFour, Cond.initialized RX0, Cond.code yX0_behindFour cX0_behindFour 9 (some .long), Cond.fieldLink RX0 30 "ShadowBench$Board" "fours" "I", Cond.fieldLink RX0 33 "ShadowBench$Board" "falling" "[J", Cond.fieldLink RX0 36 "ShadowBench$Board" "rising" "[J", Cond.methodLink RX6 30 yX6_meet, Cond.instanceMethod yX6_meet, Cond.selects RX6 yX6_meet yX6_meet, Cond.initialized RX6, Cond.code yX6_meet cX6_meet 4 (some .boolean), Cond.fieldLink RX6 20 "ShadowBench$Meetings" "slots" "[I", Cond.fieldLink RX6 15 "ShadowBench$Meetings" "size" "I", Cond.fieldLink RX6 11 "ShadowBench$Meetings" "met" "[J", Cond.methodLink RX6 50 yX6_slotFor, Cond.instanceMethod yX6_slotFor, Cond.selects RX6 yX6_slotFor yX6_slotFor, Cond.code yX6_slotFor cX6_slotFor 5 (some .int), Cond.constantLong RX6 54 (-7046029254386353131), Cond.constant RX6 19 (32768), Cond.methodLink RX6 56 yX6_isTakenByOther]
def wsX6_meetNeighbours_r2 : List Cond := [Cond.instanceMethod yX6_isTakenByOther, Cond.selects RX6 yX6_isTakenByOther yX6_isTakenByOther, Cond.code yX6_isTakenByOther cX6_isTakenByOther 5 (some .boolean)]
def wsX6_meetNeighbours : List Cond := .code yX6_meetNeighbours cX6_meetNeighbours 7 (some .boolean) :: ((wsX6_meetNeighbours_r1 ++ wsX6_meetNeighbours_r2) ++ wsX00 ++ wsX60)
def wsX6_knows : List Cond := .code yX6_knows cX6_knows 3 (some .boolean) :: ([.fieldLink RX6 20 "ShadowBench$Meetings" "slots" "[I", .methodLink RX6 50 yX6_slotFor, .instanceMethod yX6_slotFor, .selects RX6 yX6_slotFor yX6_slotFor, .initialized RX6, .code yX6_slotFor cX6_slotFor 5 (some .int), .constantLong RX6 54 (-7046029254386353131), .constant RX6 19 (32768), .methodLink RX6 56 yX6_isTakenByOther, .instanceMethod yX6_isTakenByOther, .selects RX6 yX6_isTakenByOther yX6_isTakenByOther, .code yX6_isTakenByOther cX6_isTakenByOther 5 (some .boolean), .fieldLink RX6 11 "ShadowBench$Meetings" "met" "[J"] ++ wsX60)
def wsX6_fewestSwitches_r1 : List Cond := [Cond.fieldLink RX6 20 "ShadowBench$Meetings" "slots" "[I", Cond.fieldLink RX6 15 "ShadowBench$Meetings" "size" "I", Cond.fieldLink RX6 11 "ShadowBench$Meetings" "met" "[J", Cond.methodLink RX6 24 yJ7_fill_53178, Cond.static yJ7_fill_53178, Cond.initialized RJ7, Cond.code yJ7_fill_53178 cJ7_fill_53178 4 none, Cond.methodLink RX6 30 yX6_meet, Cond.instanceMethod yX6_meet, Cond.selects RX6 yX6_meet yX6_meet, Cond.initialized RX6, Cond.code yX6_meet cX6_meet 4 (some .boolean), Cond.methodLink RX6 50 yX6_slotFor, Cond.instanceMethod yX6_slotFor, Cond.selects RX6 yX6_slotFor yX6_slotFor, Cond.code yX6_slotFor cX6_slotFor 5 (some .int), Cond.constantLong RX6 54 (-7046029254386353131), Cond.constant RX6 19 (32768), Cond.methodLink RX6 56 yX6_isTakenByOther, Cond.instanceMethod yX6_isTakenByOther, Cond.selects RX6 yX6_isTakenByOther yX6_isTakenByOther, Cond.code yX6_isTakenByOther cX6_isTakenByOther 5 (some .boolean), Cond.methodLink RX6 34 yX6_meetNeighbours, Cond.instanceMethod yX6_meetNeighbours]
def wsX6_fewestSwitches_r2 : List Cond := [Cond.selects RX6 yX6_meetNeighbours yX6_meetNeighbours, Cond.code yX6_meetNeighbours cX6_meetNeighbours 7 (some .boolean), Cond.fieldLink RX6 41 "ShadowBench$Board" "fours" "I", Cond.methodLink RX6 46 yX0_behindFour, Cond.instanceMethod yX0_behindFour, Cond.selects RX0 yX0_behindFour yX0_behindFour, Cond.initialized RX0, Cond.code yX0_behindFour cX0_behindFour 9 (some .long), Cond.fieldLink RX0 30 "ShadowBench$Board" "fours" "I", Cond.fieldLink RX0 33 "ShadowBench$Board" "falling" "[J", Cond.fieldLink RX0 36 "ShadowBench$Board" "rising" "[J", Cond.methodLink RX6 38 yX6_knows, Cond.instanceMethod yX6_knows, Cond.selects RX6 yX6_knows yX6_knows, Cond.code yX6_knows cX6_knows 3 (some .boolean)]
def wsX6_fewestSwitches : List Cond := .code yX6_fewestSwitches cX6_fewestSwitches 10 (some .int) :: ((wsX6_fewestSwitches_r1 ++ wsX6_fewestSwitches_r2) ++ wsX60 ++ wsX00)
def wsX8_init : List Cond := .code yX8_init cX8_init 1 none :: ([.methodLink RX8 1 objectInit, .instanceMethod objectInit, .code objectInit ⟨#[0xb1]⟩ 1 none, .fieldLink RX8 7 "ShadowBench$Walk" "job" "LShadowBench$Job;", .fieldLink RX8 13 "ShadowBench$Walk" "y" "I", .fieldLink RX8 17 "ShadowBench$Walk" "tried" "I", .fieldLink RX8 20 "ShadowBench$Walk" "spent" "Z", .fieldLink RX8 24 "ShadowBench$Walk" "found" "J", .arrayClass .int, .fieldLink RX8 30 "ShadowBench$Walk" "nextRow" "[I", .fieldLink RX8 34 "ShadowBench$Walk" "rowSum" "[I", .fieldLink RX8 37 "ShadowBench$Walk" "needed" "[I", .fieldLink RX8 40 "ShadowBench$Walk" "barred" "[I", .arrayClass .long, .fieldLink RX8 43 "ShadowBench$Walk" "drawn" "[J"] ++ wsX80)
def wsX8_hasRow : List Cond := .code yX8_hasRow cX8_hasRow 1 (some .boolean) :: ([.fieldLink RX8 7 "ShadowBench$Walk" "job" "LShadowBench$Job;", .fieldLink RX8 13 "ShadowBench$Walk" "y" "I", .fieldLink RX8 64 "ShadowBench$Job" "board" "LShadowBench$Board;", .fieldLink RX8 70 "ShadowBench$Board" "high" "I"] ++ wsX80 ++ wsX10 ++ wsX30 ++ wsX40 ++ wsX50 ++ wsX00)
def wsX8_enterRow_r1 : List Cond := [Cond.fieldLink RX8 13 "ShadowBench$Walk" "y" "I", Cond.fieldLink RX8 30 "ShadowBench$Walk" "nextRow" "[I", Cond.fieldLink RX8 34 "ShadowBench$Walk" "rowSum" "[I", Cond.fieldLink RX8 7 "ShadowBench$Walk" "job" "LShadowBench$Job;", Cond.fieldLink RX8 37 "ShadowBench$Walk" "needed" "[I", Cond.fieldLink RX8 40 "ShadowBench$Walk" "barred" "[I", Cond.fieldLink RX8 43 "ShadowBench$Walk" "drawn" "[J", Cond.methodLink RX8 52 yX8_hasRow, Cond.instanceMethod yX8_hasRow, Cond.selects RX8 yX8_hasRow yX8_hasRow, Cond.initialized RX8, Cond.code yX8_hasRow cX8_hasRow 1 (some .boolean), Cond.fieldLink RX8 64 "ShadowBench$Job" "board" "LShadowBench$Board;", Cond.fieldLink RX8 70 "ShadowBench$Board" "high" "I", Cond.methodLink RX8 73 ⟨"ShadowBench$Job", "sumOf", "(II)I"⟩, Cond.sameMethod "ShadowBench$Job" "ShadowBench$Job" "sumOf" "(II)I", Cond.selects RX1 ⟨"ShadowBench$Job", "sumOf", "(II)I"⟩ yX3_sumOf, Cond.instanceMethod yX3_sumOf, Cond.initialized RX3, Cond.code yX3_sumOf cX3_sumOf 4 (some .int), Cond.fieldLink RX3 11 "ShadowBench$Job" "sums" "[I", Cond.methodLink RX8 73 yX3_sumOf, Cond.selects RX3 yX3_sumOf yX3_sumOf, Cond.selects RX4 ⟨"ShadowBench$Job", "sumOf", "(II)I"⟩ yX3_sumOf]
def wsX8_enterRow_r2 : List Cond := [Cond.selects RX5 ⟨"ShadowBench$Job", "sumOf", "(II)I"⟩ yX3_sumOf, Cond.methodLink RX8 77 ⟨"ShadowBench$Job", "onesHeldInRow", "(I)I"⟩, Cond.sameMethod "ShadowBench$Job" "ShadowBench$Job" "onesHeldInRow" "(I)I", Cond.selects RX1 ⟨"ShadowBench$Job", "onesHeldInRow", "(I)I"⟩ yX3_onesHeldInRow, Cond.instanceMethod yX3_onesHeldInRow, Cond.code yX3_onesHeldInRow cX3_onesHeldInRow 2 (some .int), Cond.fieldLink RX3 28 "ShadowBench$Job" "board" "LShadowBench$Board;", Cond.fieldLink RX3 21 "ShadowBench$Job" "heldOnes" "J", Cond.methodLink RX3 50 yX0_rowOf, Cond.instanceMethod yX0_rowOf, Cond.selects RX0 yX0_rowOf yX0_rowOf, Cond.initialized RX0, Cond.code yX0_rowOf cX0_rowOf 4 (some .int), Cond.fieldLink RX0 13 "ShadowBench$Board" "wide" "I", Cond.fieldLink RX0 23 "ShadowBench$Board" "rowNumbers" "I", Cond.methodLink RX8 77 yX3_onesHeldInRow, Cond.selects RX3 yX3_onesHeldInRow yX3_onesHeldInRow, Cond.selects RX4 ⟨"ShadowBench$Job", "onesHeldInRow", "(I)I"⟩ yX3_onesHeldInRow, Cond.selects RX5 ⟨"ShadowBench$Job", "onesHeldInRow", "(I)I"⟩ yX3_onesHeldInRow, Cond.methodLink RX8 81 ⟨"ShadowBench$Job", "noughtsHeldInRow", "(I)I"⟩, Cond.sameMethod "ShadowBench$Job" "ShadowBench$Job" "noughtsHeldInRow" "(I)I", Cond.selects RX1 ⟨"ShadowBench$Job", "noughtsHeldInRow", "(I)I"⟩ yX3_noughtsHeldInRow, Cond.instanceMethod yX3_noughtsHeldInRow, Cond.code yX3_noughtsHeldInRow cX3_noughtsHeldInRow 2 (some .int)]
def wsX8_enterRow_r3 : List Cond := [Cond.fieldLink RX3 25 "ShadowBench$Job" "heldNoughts" "J", Cond.methodLink RX8 81 yX3_noughtsHeldInRow, Cond.selects RX3 yX3_noughtsHeldInRow yX3_noughtsHeldInRow, Cond.selects RX4 ⟨"ShadowBench$Job", "noughtsHeldInRow", "(I)I"⟩ yX3_noughtsHeldInRow, Cond.selects RX5 ⟨"ShadowBench$Job", "noughtsHeldInRow", "(I)I"⟩ yX3_noughtsHeldInRow, Cond.methodLink RX8 84 ⟨"ShadowBench$Job", "fullColumns", "(J)I"⟩, Cond.sameMethod "ShadowBench$Job" "ShadowBench$Job" "fullColumns" "(J)I", Cond.selects RX1 ⟨"ShadowBench$Job", "fullColumns", "(J)I"⟩ yX3_fullColumns, Cond.instanceMethod yX3_fullColumns, Cond.code yX3_fullColumns cX3_fullColumns 6 (some .int), Cond.fieldLink RX3 54 "ShadowBench$Board" "wide" "I", Cond.methodLink RX3 40 yX0_onesOfLine, Cond.instanceMethod yX0_onesOfLine, Cond.selects RX0 yX0_onesOfLine yX0_onesOfLine, Cond.code yX0_onesOfLine cX0_onesOfLine 6 (some .int), Cond.fieldLink RX0 9 "ShadowBench$Board" "lines" "[J", Cond.methodLink RX0 59 yJ13_bitCount_95d88, Cond.static yJ13_bitCount_95d88, Cond.initialized RJ13, Cond.code yJ13_bitCount_95d88 cJ13_bitCount_95d88 2 (some .int), Cond.constantLong RJ13 314 (6148914691236517205), Cond.constantLong RJ13 316 (3689348814741910323), Cond.constantLong RJ13 318 (1085102592571150095), Cond.methodLink RX3 57 ⟨"ShadowBench$Job", "sumOf", "(II)I"⟩]
def wsX8_enterRow_r4 : List Cond := [Cond.methodLink RX3 57 yX3_sumOf, Cond.methodLink RX8 84 yX3_fullColumns, Cond.selects RX3 yX3_fullColumns yX3_fullColumns, Cond.selects RX4 ⟨"ShadowBench$Job", "fullColumns", "(J)I"⟩ yX3_fullColumns, Cond.selects RX5 ⟨"ShadowBench$Job", "fullColumns", "(J)I"⟩ yX3_fullColumns]
def wsX8_enterRow : List Cond := .code yX8_enterRow cX8_enterRow 4 none :: ((wsX8_enterRow_r1 ++ (wsX8_enterRow_r2 ++ (wsX8_enterRow_r3 ++ wsX8_enterRow_r4))) ++ wsX80 ++ wsX10 ++ wsX30 ++ wsX40 ++ wsX50 ++ wsX00)
def wsX8_start_r1 : List Cond := [Cond.fieldLink RX8 7 "ShadowBench$Walk" "job" "LShadowBench$Job;", Cond.fieldLink RX8 17 "ShadowBench$Walk" "tried" "I", Cond.fieldLink RX8 20 "ShadowBench$Walk" "spent" "Z", Cond.fieldLink RX8 24 "ShadowBench$Walk" "found" "J", Cond.methodLink RX8 47 yX8_enterRow, Cond.instanceMethod yX8_enterRow, Cond.selects RX8 yX8_enterRow yX8_enterRow, Cond.initialized RX8, Cond.code yX8_enterRow cX8_enterRow 4 none, Cond.fieldLink RX8 13 "ShadowBench$Walk" "y" "I", Cond.fieldLink RX8 30 "ShadowBench$Walk" "nextRow" "[I", Cond.fieldLink RX8 34 "ShadowBench$Walk" "rowSum" "[I", Cond.fieldLink RX8 37 "ShadowBench$Walk" "needed" "[I", Cond.fieldLink RX8 40 "ShadowBench$Walk" "barred" "[I", Cond.fieldLink RX8 43 "ShadowBench$Walk" "drawn" "[J", Cond.methodLink RX8 52 yX8_hasRow, Cond.instanceMethod yX8_hasRow, Cond.selects RX8 yX8_hasRow yX8_hasRow, Cond.code yX8_hasRow cX8_hasRow 1 (some .boolean), Cond.fieldLink RX8 64 "ShadowBench$Job" "board" "LShadowBench$Board;", Cond.fieldLink RX8 70 "ShadowBench$Board" "high" "I", Cond.methodLink RX8 73 ⟨"ShadowBench$Job", "sumOf", "(II)I"⟩, Cond.sameMethod "ShadowBench$Job" "ShadowBench$Job" "sumOf" "(II)I", Cond.selects RX1 ⟨"ShadowBench$Job", "sumOf", "(II)I"⟩ yX3_sumOf]
def wsX8_start_r2 : List Cond := [Cond.instanceMethod yX3_sumOf, Cond.initialized RX3, Cond.code yX3_sumOf cX3_sumOf 4 (some .int), Cond.fieldLink RX3 11 "ShadowBench$Job" "sums" "[I", Cond.methodLink RX8 73 yX3_sumOf, Cond.selects RX3 yX3_sumOf yX3_sumOf, Cond.selects RX4 ⟨"ShadowBench$Job", "sumOf", "(II)I"⟩ yX3_sumOf, Cond.selects RX5 ⟨"ShadowBench$Job", "sumOf", "(II)I"⟩ yX3_sumOf, Cond.methodLink RX8 77 ⟨"ShadowBench$Job", "onesHeldInRow", "(I)I"⟩, Cond.sameMethod "ShadowBench$Job" "ShadowBench$Job" "onesHeldInRow" "(I)I", Cond.selects RX1 ⟨"ShadowBench$Job", "onesHeldInRow", "(I)I"⟩ yX3_onesHeldInRow, Cond.instanceMethod yX3_onesHeldInRow, Cond.code yX3_onesHeldInRow cX3_onesHeldInRow 2 (some .int), Cond.fieldLink RX3 28 "ShadowBench$Job" "board" "LShadowBench$Board;", Cond.fieldLink RX3 21 "ShadowBench$Job" "heldOnes" "J", Cond.methodLink RX3 50 yX0_rowOf, Cond.instanceMethod yX0_rowOf, Cond.selects RX0 yX0_rowOf yX0_rowOf, Cond.initialized RX0, Cond.code yX0_rowOf cX0_rowOf 4 (some .int), Cond.fieldLink RX0 13 "ShadowBench$Board" "wide" "I", Cond.fieldLink RX0 23 "ShadowBench$Board" "rowNumbers" "I", Cond.methodLink RX8 77 yX3_onesHeldInRow, Cond.selects RX3 yX3_onesHeldInRow yX3_onesHeldInRow]
def wsX8_start_r3 : List Cond := [Cond.selects RX4 ⟨"ShadowBench$Job", "onesHeldInRow", "(I)I"⟩ yX3_onesHeldInRow, Cond.selects RX5 ⟨"ShadowBench$Job", "onesHeldInRow", "(I)I"⟩ yX3_onesHeldInRow, Cond.methodLink RX8 81 ⟨"ShadowBench$Job", "noughtsHeldInRow", "(I)I"⟩, Cond.sameMethod "ShadowBench$Job" "ShadowBench$Job" "noughtsHeldInRow" "(I)I", Cond.selects RX1 ⟨"ShadowBench$Job", "noughtsHeldInRow", "(I)I"⟩ yX3_noughtsHeldInRow, Cond.instanceMethod yX3_noughtsHeldInRow, Cond.code yX3_noughtsHeldInRow cX3_noughtsHeldInRow 2 (some .int), Cond.fieldLink RX3 25 "ShadowBench$Job" "heldNoughts" "J", Cond.methodLink RX8 81 yX3_noughtsHeldInRow, Cond.selects RX3 yX3_noughtsHeldInRow yX3_noughtsHeldInRow, Cond.selects RX4 ⟨"ShadowBench$Job", "noughtsHeldInRow", "(I)I"⟩ yX3_noughtsHeldInRow, Cond.selects RX5 ⟨"ShadowBench$Job", "noughtsHeldInRow", "(I)I"⟩ yX3_noughtsHeldInRow, Cond.methodLink RX8 84 ⟨"ShadowBench$Job", "fullColumns", "(J)I"⟩, Cond.sameMethod "ShadowBench$Job" "ShadowBench$Job" "fullColumns" "(J)I", Cond.selects RX1 ⟨"ShadowBench$Job", "fullColumns", "(J)I"⟩ yX3_fullColumns, Cond.instanceMethod yX3_fullColumns, Cond.code yX3_fullColumns cX3_fullColumns 6 (some .int), Cond.fieldLink RX3 54 "ShadowBench$Board" "wide" "I", Cond.methodLink RX3 40 yX0_onesOfLine, Cond.instanceMethod yX0_onesOfLine, Cond.selects RX0 yX0_onesOfLine yX0_onesOfLine, Cond.code yX0_onesOfLine cX0_onesOfLine 6 (some .int), Cond.fieldLink RX0 9 "ShadowBench$Board" "lines" "[J", Cond.methodLink RX0 59 yJ13_bitCount_95d88]
def wsX8_start_r4 : List Cond := [Cond.static yJ13_bitCount_95d88, Cond.initialized RJ13, Cond.code yJ13_bitCount_95d88 cJ13_bitCount_95d88 2 (some .int), Cond.constantLong RJ13 314 (6148914691236517205), Cond.constantLong RJ13 316 (3689348814741910323), Cond.constantLong RJ13 318 (1085102592571150095), Cond.methodLink RX3 57 ⟨"ShadowBench$Job", "sumOf", "(II)I"⟩, Cond.methodLink RX3 57 yX3_sumOf, Cond.methodLink RX8 84 yX3_fullColumns, Cond.selects RX3 yX3_fullColumns yX3_fullColumns, Cond.selects RX4 ⟨"ShadowBench$Job", "fullColumns", "(J)I"⟩ yX3_fullColumns, Cond.selects RX5 ⟨"ShadowBench$Job", "fullColumns", "(J)I"⟩ yX3_fullColumns]
def wsX8_start : List Cond := .code yX8_start cX8_start 2 none :: ((wsX8_start_r1 ++ (wsX8_start_r2 ++ (wsX8_start_r3 ++ wsX8_start_r4))) ++ wsX80 ++ wsX10 ++ wsX30 ++ wsX40 ++ wsX50 ++ wsX00)
def wsX8_isSpent : List Cond := .code yX8_isSpent cX8_isSpent 1 (some .boolean) :: ([.fieldLink RX8 20 "ShadowBench$Walk" "spent" "Z"] ++ wsX80)
def wsX8_found : List Cond := .code yX8_found cX8_found 1 (some .long) :: ([.fieldLink RX8 24 "ShadowBench$Walk" "found" "J"] ++ wsX80)
def wsX8_nextGoingOn : List Cond := .code yX8_nextGoingOn cX8_nextGoingOn 3 (some .int) :: ([.fieldLink RX8 7 "ShadowBench$Walk" "job" "LShadowBench$Job;", .fieldLink RX8 64 "ShadowBench$Job" "board" "LShadowBench$Board;", .fieldLink RX8 88 "ShadowBench$Board" "rowNumbers" "I", .fieldLink RX8 30 "ShadowBench$Walk" "nextRow" "[I", .fieldLink RX8 13 "ShadowBench$Walk" "y" "I", .fieldLink RX8 17 "ShadowBench$Walk" "tried" "I", .constant RX8 91 (200000), .fieldLink RX8 40 "ShadowBench$Walk" "barred" "[I", .fieldLink RX8 37 "ShadowBench$Walk" "needed" "[I", .fieldLink RX8 34 "ShadowBench$Walk" "rowSum" "[I", .fieldLink RX8 20 "ShadowBench$Walk" "spent" "Z", .methodLink RX8 92 yJ6_bitCount_0f7a4, .static yJ6_bitCount_0f7a4, .initialized RJ6, .code yJ6_bitCount_0f7a4 cJ6_bitCount_0f7a4 1 (some .int), .constant RJ6 265 (1431655765), .constant RJ6 266 (858993459), .constant RJ6 267 (252645135)] ++ wsX80 ++ wsX10 ++ wsX30 ++ wsX40 ++ wsX50 ++ wsX00)
def wsX8_completes_r1 : List Cond := [Cond.fieldLink RX8 43 "ShadowBench$Walk" "drawn" "[J", Cond.fieldLink RX8 13 "ShadowBench$Walk" "y" "I", Cond.fieldLink RX8 7 "ShadowBench$Walk" "job" "LShadowBench$Job;", Cond.fieldLink RX8 64 "ShadowBench$Job" "board" "LShadowBench$Board;", Cond.fieldLink RX8 97 "ShadowBench$Board" "wide" "I", Cond.fieldLink RX8 70 "ShadowBench$Board" "high" "I", Cond.fieldLink RX8 24 "ShadowBench$Walk" "found" "J", Cond.methodLink RX8 47 yX8_enterRow, Cond.instanceMethod yX8_enterRow, Cond.selects RX8 yX8_enterRow yX8_enterRow, Cond.initialized RX8, Cond.code yX8_enterRow cX8_enterRow 4 none, Cond.fieldLink RX8 30 "ShadowBench$Walk" "nextRow" "[I", Cond.fieldLink RX8 34 "ShadowBench$Walk" "rowSum" "[I", Cond.fieldLink RX8 37 "ShadowBench$Walk" "needed" "[I", Cond.fieldLink RX8 40 "ShadowBench$Walk" "barred" "[I", Cond.methodLink RX8 52 yX8_hasRow, Cond.instanceMethod yX8_hasRow, Cond.selects RX8 yX8_hasRow yX8_hasRow, Cond.code yX8_hasRow cX8_hasRow 1 (some .boolean), Cond.methodLink RX8 73 ⟨"ShadowBench$Job", "sumOf", "(II)I"⟩, Cond.sameMethod "ShadowBench$Job" "ShadowBench$Job" "sumOf" "(II)I", Cond.selects RX1 ⟨"ShadowBench$Job", "sumOf", "(II)I"⟩ yX3_sumOf, Cond.instanceMethod yX3_sumOf]
def wsX8_completes_r2 : List Cond := [Cond.initialized RX3, Cond.code yX3_sumOf cX3_sumOf 4 (some .int), Cond.fieldLink RX3 11 "ShadowBench$Job" "sums" "[I", Cond.methodLink RX8 73 yX3_sumOf, Cond.selects RX3 yX3_sumOf yX3_sumOf, Cond.selects RX4 ⟨"ShadowBench$Job", "sumOf", "(II)I"⟩ yX3_sumOf, Cond.selects RX5 ⟨"ShadowBench$Job", "sumOf", "(II)I"⟩ yX3_sumOf, Cond.methodLink RX8 77 ⟨"ShadowBench$Job", "onesHeldInRow", "(I)I"⟩, Cond.sameMethod "ShadowBench$Job" "ShadowBench$Job" "onesHeldInRow" "(I)I", Cond.selects RX1 ⟨"ShadowBench$Job", "onesHeldInRow", "(I)I"⟩ yX3_onesHeldInRow, Cond.instanceMethod yX3_onesHeldInRow, Cond.code yX3_onesHeldInRow cX3_onesHeldInRow 2 (some .int), Cond.fieldLink RX3 28 "ShadowBench$Job" "board" "LShadowBench$Board;", Cond.fieldLink RX3 21 "ShadowBench$Job" "heldOnes" "J", Cond.methodLink RX3 50 yX0_rowOf, Cond.instanceMethod yX0_rowOf, Cond.selects RX0 yX0_rowOf yX0_rowOf, Cond.initialized RX0, Cond.code yX0_rowOf cX0_rowOf 4 (some .int), Cond.fieldLink RX0 13 "ShadowBench$Board" "wide" "I", Cond.fieldLink RX0 23 "ShadowBench$Board" "rowNumbers" "I", Cond.methodLink RX8 77 yX3_onesHeldInRow, Cond.selects RX3 yX3_onesHeldInRow yX3_onesHeldInRow, Cond.selects RX4 ⟨"ShadowBench$Job", "onesHeldInRow", "(I)I"⟩ yX3_onesHeldInRow]
def wsX8_completes_r3 : List Cond := [Cond.selects RX5 ⟨"ShadowBench$Job", "onesHeldInRow", "(I)I"⟩ yX3_onesHeldInRow, Cond.methodLink RX8 81 ⟨"ShadowBench$Job", "noughtsHeldInRow", "(I)I"⟩, Cond.sameMethod "ShadowBench$Job" "ShadowBench$Job" "noughtsHeldInRow" "(I)I", Cond.selects RX1 ⟨"ShadowBench$Job", "noughtsHeldInRow", "(I)I"⟩ yX3_noughtsHeldInRow, Cond.instanceMethod yX3_noughtsHeldInRow, Cond.code yX3_noughtsHeldInRow cX3_noughtsHeldInRow 2 (some .int), Cond.fieldLink RX3 25 "ShadowBench$Job" "heldNoughts" "J", Cond.methodLink RX8 81 yX3_noughtsHeldInRow, Cond.selects RX3 yX3_noughtsHeldInRow yX3_noughtsHeldInRow, Cond.selects RX4 ⟨"ShadowBench$Job", "noughtsHeldInRow", "(I)I"⟩ yX3_noughtsHeldInRow, Cond.selects RX5 ⟨"ShadowBench$Job", "noughtsHeldInRow", "(I)I"⟩ yX3_noughtsHeldInRow, Cond.methodLink RX8 84 ⟨"ShadowBench$Job", "fullColumns", "(J)I"⟩, Cond.sameMethod "ShadowBench$Job" "ShadowBench$Job" "fullColumns" "(J)I", Cond.selects RX1 ⟨"ShadowBench$Job", "fullColumns", "(J)I"⟩ yX3_fullColumns, Cond.instanceMethod yX3_fullColumns, Cond.code yX3_fullColumns cX3_fullColumns 6 (some .int), Cond.fieldLink RX3 54 "ShadowBench$Board" "wide" "I", Cond.methodLink RX3 40 yX0_onesOfLine, Cond.instanceMethod yX0_onesOfLine, Cond.selects RX0 yX0_onesOfLine yX0_onesOfLine, Cond.code yX0_onesOfLine cX0_onesOfLine 6 (some .int), Cond.fieldLink RX0 9 "ShadowBench$Board" "lines" "[J", Cond.methodLink RX0 59 yJ13_bitCount_95d88, Cond.static yJ13_bitCount_95d88]
def wsX8_completes_r4 : List Cond := [Cond.initialized RJ13, Cond.code yJ13_bitCount_95d88 cJ13_bitCount_95d88 2 (some .int), Cond.constantLong RJ13 314 (6148914691236517205), Cond.constantLong RJ13 316 (3689348814741910323), Cond.constantLong RJ13 318 (1085102592571150095), Cond.methodLink RX3 57 ⟨"ShadowBench$Job", "sumOf", "(II)I"⟩, Cond.methodLink RX3 57 yX3_sumOf, Cond.methodLink RX8 84 yX3_fullColumns, Cond.selects RX3 yX3_fullColumns yX3_fullColumns, Cond.selects RX4 ⟨"ShadowBench$Job", "fullColumns", "(J)I"⟩ yX3_fullColumns, Cond.selects RX5 ⟨"ShadowBench$Job", "fullColumns", "(J)I"⟩ yX3_fullColumns, Cond.methodLink RX8 100 ⟨"ShadowBench$Job", "admits", "(J)Z"⟩, Cond.sameMethod "ShadowBench$Job" "ShadowBench$Job" "admits" "(J)Z", Cond.selects RX1 ⟨"ShadowBench$Job", "admits", "(J)Z"⟩ yX3_admits, Cond.instanceMethod yX3_admits, Cond.code yX3_admits cX3_admits 3 (some .boolean), Cond.constantLong RX3 48 (-1), Cond.methodLink RX3 61 ⟨"ShadowBench$Job", "hasShadowsAsTold", "(J)Z"⟩, Cond.sameMethod "ShadowBench$Job" "ShadowBench$Job" "hasShadowsAsTold" "(J)Z", Cond.selects RX1 ⟨"ShadowBench$Job", "hasShadowsAsTold", "(J)Z"⟩ yX3_hasShadowsAsTold, Cond.instanceMethod yX3_hasShadowsAsTold, Cond.code yX3_hasShadowsAsTold cX3_hasShadowsAsTold 5 (some .boolean), Cond.methodLink RX3 68 ⟨"ShadowBench$Job", "isTold", "(I)Z"⟩, Cond.sameMethod "ShadowBench$Job" "ShadowBench$Job" "isTold" "(I)Z"]
def wsX8_completes_r5 : List Cond := [Cond.selects RX1 ⟨"ShadowBench$Job", "isTold", "(I)Z"⟩ yX3_isTold, Cond.instanceMethod yX3_isTold, Cond.code yX3_isTold cX3_isTold 2 (some .boolean), Cond.fieldLink RX3 17 "ShadowBench$Job" "toldWays" "I", Cond.methodLink RX3 68 yX3_isTold, Cond.selects RX3 yX3_isTold yX3_isTold, Cond.selects RX4 ⟨"ShadowBench$Job", "isTold", "(I)Z"⟩ yX3_isTold, Cond.selects RX5 ⟨"ShadowBench$Job", "isTold", "(I)Z"⟩ yX3_isTold, Cond.methodLink RX3 36 yX0_lineCount, Cond.instanceMethod yX0_lineCount, Cond.selects RX0 yX0_lineCount yX0_lineCount, Cond.code yX0_lineCount cX0_lineCount 2 (some .int), Cond.fieldLink RX0 17 "ShadowBench$Board" "high" "I", Cond.methodLink RX3 61 yX3_hasShadowsAsTold, Cond.selects RX3 yX3_hasShadowsAsTold yX3_hasShadowsAsTold, Cond.selects RX4 ⟨"ShadowBench$Job", "hasShadowsAsTold", "(J)Z"⟩ yX3_hasShadowsAsTold, Cond.selects RX5 ⟨"ShadowBench$Job", "hasShadowsAsTold", "(J)Z"⟩ yX3_hasShadowsAsTold, Cond.methodLink RX3 65 ⟨"ShadowBench$Job", "isAsKindAsks", "(J)Z"⟩, Cond.sameMethod "ShadowBench$Job" "ShadowBench$Job" "isAsKindAsks" "(J)Z", Cond.instanceMethod ⟨"ShadowBench$Job", "isAsKindAsks", "(J)Z"⟩, Cond.selects RX1 ⟨"ShadowBench$Job", "isAsKindAsks", "(J)Z"⟩ yX1_isAsKindAsks, Cond.instanceMethod yX1_isAsKindAsks, Cond.initialized RX1, Cond.code yX1_isAsKindAsks cX1_isAsKindAsks 3 (some .boolean)]
def wsX8_completes_r6 : List Cond := [Cond.fieldLink RX1 11 "ShadowBench$EvenJob" "board" "LShadowBench$Board;", Cond.sameField "ShadowBench$EvenJob" "ShadowBench$Job" "board" "LShadowBench$Board;", Cond.methodLink RX1 7 yX4_isAsKindAsks, Cond.sameMethod "ShadowBench$JoinedJob" "ShadowBench$JoinedJob" "isAsKindAsks" "(J)Z", Cond.superclass RX1 RX4, Cond.instanceMethod yX4_isAsKindAsks, Cond.initialized RX4, Cond.code yX4_isAsKindAsks cX4_isAsKindAsks 3 (some .boolean), Cond.fieldLink RX4 7 "ShadowBench$JoinedJob" "board" "LShadowBench$Board;", Cond.sameField "ShadowBench$JoinedJob" "ShadowBench$Job" "board" "LShadowBench$Board;", Cond.methodLink RX4 13 yX0_hangsTogether, Cond.instanceMethod yX0_hangsTogether, Cond.selects RX0 yX0_hangsTogether yX0_hangsTogether, Cond.code yX0_hangsTogether cX0_hangsTogether 14 (some .boolean), Cond.fieldLink RX0 20 "ShadowBench$Board" "squares" "I", Cond.constantLong RX0 73 (-1), Cond.methodLink RX1 17 yX0_rowsAreWhole, Cond.instanceMethod yX0_rowsAreWhole, Cond.selects RX0 yX0_rowsAreWhole yX0_rowsAreWhole, Cond.code yX0_rowsAreWhole cX0_rowsAreWhole 5 (some .boolean), Cond.methodLink RX0 75 yX0_rowOf, Cond.methodLink RX1 22 yX0_columnsAreWhole, Cond.instanceMethod yX0_columnsAreWhole, Cond.selects RX0 yX0_columnsAreWhole yX0_columnsAreWhole]
def wsX8_completes_r7 : List Cond := [Cond.code yX0_columnsAreWhole cX0_columnsAreWhole 7 (some .boolean), Cond.code yX3_isAsKindAsks cX3_isAsKindAsks 3 (some .boolean), Cond.methodLink RX3 65 yX3_isAsKindAsks, Cond.instanceMethod yX3_isAsKindAsks, Cond.selects RX3 yX3_isAsKindAsks yX3_isAsKindAsks, Cond.selects RX4 ⟨"ShadowBench$Job", "isAsKindAsks", "(J)Z"⟩ yX4_isAsKindAsks, Cond.selects RX5 ⟨"ShadowBench$Job", "isAsKindAsks", "(J)Z"⟩ yX3_isAsKindAsks, Cond.methodLink RX8 100 yX3_admits, Cond.selects RX3 yX3_admits yX3_admits, Cond.selects RX4 ⟨"ShadowBench$Job", "admits", "(J)Z"⟩ yX3_admits, Cond.selects RX5 ⟨"ShadowBench$Job", "admits", "(J)Z"⟩ yX3_admits]
def wsX8_completes : List Cond := .code yX8_completes cX8_completes 4 (some .boolean) :: ((wsX8_completes_r1 ++ (wsX8_completes_r2 ++ (wsX8_completes_r3 ++ (wsX8_completes_r4 ++ (wsX8_completes_r5 ++ (wsX8_completes_r6 ++ wsX8_completes_r7)))))) ++ wsX80 ++ wsX10 ++ wsX30 ++ wsX40 ++ wsX50 ++ wsX00)
def wsX8_advance_r1 : List Cond := [Cond.constant RX8 51 (1000000), Cond.fieldLink RX8 20 "ShadowBench$Walk" "spent" "Z", Cond.fieldLink RX8 13 "ShadowBench$Walk" "y" "I", Cond.methodLink RX8 52 yX8_hasRow, Cond.instanceMethod yX8_hasRow, Cond.selects RX8 yX8_hasRow yX8_hasRow, Cond.initialized RX8, Cond.code yX8_hasRow cX8_hasRow 1 (some .boolean), Cond.fieldLink RX8 7 "ShadowBench$Walk" "job" "LShadowBench$Job;", Cond.fieldLink RX8 64 "ShadowBench$Job" "board" "LShadowBench$Board;", Cond.fieldLink RX8 70 "ShadowBench$Board" "high" "I", Cond.methodLink RX8 56 yX8_nextGoingOn, Cond.instanceMethod yX8_nextGoingOn, Cond.selects RX8 yX8_nextGoingOn yX8_nextGoingOn, Cond.code yX8_nextGoingOn cX8_nextGoingOn 3 (some .int), Cond.fieldLink RX8 88 "ShadowBench$Board" "rowNumbers" "I", Cond.fieldLink RX8 30 "ShadowBench$Walk" "nextRow" "[I", Cond.fieldLink RX8 17 "ShadowBench$Walk" "tried" "I", Cond.constant RX8 91 (200000), Cond.fieldLink RX8 40 "ShadowBench$Walk" "barred" "[I", Cond.fieldLink RX8 37 "ShadowBench$Walk" "needed" "[I", Cond.fieldLink RX8 34 "ShadowBench$Walk" "rowSum" "[I", Cond.methodLink RX8 92 yJ6_bitCount_0f7a4, Cond.static yJ6_bitCount_0f7a4]
def wsX8_advance_r2 : List Cond := [Cond.initialized RJ6, Cond.code yJ6_bitCount_0f7a4 cJ6_bitCount_0f7a4 1 (some .int), Cond.constant RJ6 265 (1431655765), Cond.constant RJ6 266 (858993459), Cond.constant RJ6 267 (252645135), Cond.methodLink RX8 60 yX8_completes, Cond.instanceMethod yX8_completes, Cond.selects RX8 yX8_completes yX8_completes, Cond.code yX8_completes cX8_completes 4 (some .boolean), Cond.fieldLink RX8 43 "ShadowBench$Walk" "drawn" "[J", Cond.fieldLink RX8 97 "ShadowBench$Board" "wide" "I", Cond.fieldLink RX8 24 "ShadowBench$Walk" "found" "J", Cond.methodLink RX8 47 yX8_enterRow, Cond.instanceMethod yX8_enterRow, Cond.selects RX8 yX8_enterRow yX8_enterRow, Cond.code yX8_enterRow cX8_enterRow 4 none, Cond.methodLink RX8 73 ⟨"ShadowBench$Job", "sumOf", "(II)I"⟩, Cond.sameMethod "ShadowBench$Job" "ShadowBench$Job" "sumOf" "(II)I", Cond.selects RX1 ⟨"ShadowBench$Job", "sumOf", "(II)I"⟩ yX3_sumOf, Cond.instanceMethod yX3_sumOf, Cond.initialized RX3, Cond.code yX3_sumOf cX3_sumOf 4 (some .int), Cond.fieldLink RX3 11 "ShadowBench$Job" "sums" "[I", Cond.methodLink RX8 73 yX3_sumOf]
def wsX8_advance_r3 : List Cond := [Cond.selects RX3 yX3_sumOf yX3_sumOf, Cond.selects RX4 ⟨"ShadowBench$Job", "sumOf", "(II)I"⟩ yX3_sumOf, Cond.selects RX5 ⟨"ShadowBench$Job", "sumOf", "(II)I"⟩ yX3_sumOf, Cond.methodLink RX8 77 ⟨"ShadowBench$Job", "onesHeldInRow", "(I)I"⟩, Cond.sameMethod "ShadowBench$Job" "ShadowBench$Job" "onesHeldInRow" "(I)I", Cond.selects RX1 ⟨"ShadowBench$Job", "onesHeldInRow", "(I)I"⟩ yX3_onesHeldInRow, Cond.instanceMethod yX3_onesHeldInRow, Cond.code yX3_onesHeldInRow cX3_onesHeldInRow 2 (some .int), Cond.fieldLink RX3 28 "ShadowBench$Job" "board" "LShadowBench$Board;", Cond.fieldLink RX3 21 "ShadowBench$Job" "heldOnes" "J", Cond.methodLink RX3 50 yX0_rowOf, Cond.instanceMethod yX0_rowOf, Cond.selects RX0 yX0_rowOf yX0_rowOf, Cond.initialized RX0, Cond.code yX0_rowOf cX0_rowOf 4 (some .int), Cond.fieldLink RX0 13 "ShadowBench$Board" "wide" "I", Cond.fieldLink RX0 23 "ShadowBench$Board" "rowNumbers" "I", Cond.methodLink RX8 77 yX3_onesHeldInRow, Cond.selects RX3 yX3_onesHeldInRow yX3_onesHeldInRow, Cond.selects RX4 ⟨"ShadowBench$Job", "onesHeldInRow", "(I)I"⟩ yX3_onesHeldInRow, Cond.selects RX5 ⟨"ShadowBench$Job", "onesHeldInRow", "(I)I"⟩ yX3_onesHeldInRow, Cond.methodLink RX8 81 ⟨"ShadowBench$Job", "noughtsHeldInRow", "(I)I"⟩, Cond.sameMethod "ShadowBench$Job" "ShadowBench$Job" "noughtsHeldInRow" "(I)I", Cond.selects RX1 ⟨"ShadowBench$Job", "noughtsHeldInRow", "(I)I"⟩ yX3_noughtsHeldInRow]
def wsX8_advance_r4 : List Cond := [Cond.instanceMethod yX3_noughtsHeldInRow, Cond.code yX3_noughtsHeldInRow cX3_noughtsHeldInRow 2 (some .int), Cond.fieldLink RX3 25 "ShadowBench$Job" "heldNoughts" "J", Cond.methodLink RX8 81 yX3_noughtsHeldInRow, Cond.selects RX3 yX3_noughtsHeldInRow yX3_noughtsHeldInRow, Cond.selects RX4 ⟨"ShadowBench$Job", "noughtsHeldInRow", "(I)I"⟩ yX3_noughtsHeldInRow, Cond.selects RX5 ⟨"ShadowBench$Job", "noughtsHeldInRow", "(I)I"⟩ yX3_noughtsHeldInRow, Cond.methodLink RX8 84 ⟨"ShadowBench$Job", "fullColumns", "(J)I"⟩, Cond.sameMethod "ShadowBench$Job" "ShadowBench$Job" "fullColumns" "(J)I", Cond.selects RX1 ⟨"ShadowBench$Job", "fullColumns", "(J)I"⟩ yX3_fullColumns, Cond.instanceMethod yX3_fullColumns, Cond.code yX3_fullColumns cX3_fullColumns 6 (some .int), Cond.fieldLink RX3 54 "ShadowBench$Board" "wide" "I", Cond.methodLink RX3 40 yX0_onesOfLine, Cond.instanceMethod yX0_onesOfLine, Cond.selects RX0 yX0_onesOfLine yX0_onesOfLine, Cond.code yX0_onesOfLine cX0_onesOfLine 6 (some .int), Cond.fieldLink RX0 9 "ShadowBench$Board" "lines" "[J", Cond.methodLink RX0 59 yJ13_bitCount_95d88, Cond.static yJ13_bitCount_95d88, Cond.initialized RJ13, Cond.code yJ13_bitCount_95d88 cJ13_bitCount_95d88 2 (some .int), Cond.constantLong RJ13 314 (6148914691236517205), Cond.constantLong RJ13 316 (3689348814741910323)]
def wsX8_advance_r5 : List Cond := [Cond.constantLong RJ13 318 (1085102592571150095), Cond.methodLink RX3 57 ⟨"ShadowBench$Job", "sumOf", "(II)I"⟩, Cond.methodLink RX3 57 yX3_sumOf, Cond.methodLink RX8 84 yX3_fullColumns, Cond.selects RX3 yX3_fullColumns yX3_fullColumns, Cond.selects RX4 ⟨"ShadowBench$Job", "fullColumns", "(J)I"⟩ yX3_fullColumns, Cond.selects RX5 ⟨"ShadowBench$Job", "fullColumns", "(J)I"⟩ yX3_fullColumns, Cond.methodLink RX8 100 ⟨"ShadowBench$Job", "admits", "(J)Z"⟩, Cond.sameMethod "ShadowBench$Job" "ShadowBench$Job" "admits" "(J)Z", Cond.selects RX1 ⟨"ShadowBench$Job", "admits", "(J)Z"⟩ yX3_admits, Cond.instanceMethod yX3_admits, Cond.code yX3_admits cX3_admits 3 (some .boolean), Cond.constantLong RX3 48 (-1), Cond.methodLink RX3 61 ⟨"ShadowBench$Job", "hasShadowsAsTold", "(J)Z"⟩, Cond.sameMethod "ShadowBench$Job" "ShadowBench$Job" "hasShadowsAsTold" "(J)Z", Cond.selects RX1 ⟨"ShadowBench$Job", "hasShadowsAsTold", "(J)Z"⟩ yX3_hasShadowsAsTold, Cond.instanceMethod yX3_hasShadowsAsTold, Cond.code yX3_hasShadowsAsTold cX3_hasShadowsAsTold 5 (some .boolean), Cond.methodLink RX3 68 ⟨"ShadowBench$Job", "isTold", "(I)Z"⟩, Cond.sameMethod "ShadowBench$Job" "ShadowBench$Job" "isTold" "(I)Z", Cond.selects RX1 ⟨"ShadowBench$Job", "isTold", "(I)Z"⟩ yX3_isTold, Cond.instanceMethod yX3_isTold, Cond.code yX3_isTold cX3_isTold 2 (some .boolean), Cond.fieldLink RX3 17 "ShadowBench$Job" "toldWays" "I"]
def wsX8_advance_r6 : List Cond := [Cond.methodLink RX3 68 yX3_isTold, Cond.selects RX3 yX3_isTold yX3_isTold, Cond.selects RX4 ⟨"ShadowBench$Job", "isTold", "(I)Z"⟩ yX3_isTold, Cond.selects RX5 ⟨"ShadowBench$Job", "isTold", "(I)Z"⟩ yX3_isTold, Cond.methodLink RX3 36 yX0_lineCount, Cond.instanceMethod yX0_lineCount, Cond.selects RX0 yX0_lineCount yX0_lineCount, Cond.code yX0_lineCount cX0_lineCount 2 (some .int), Cond.fieldLink RX0 17 "ShadowBench$Board" "high" "I", Cond.methodLink RX3 61 yX3_hasShadowsAsTold, Cond.selects RX3 yX3_hasShadowsAsTold yX3_hasShadowsAsTold, Cond.selects RX4 ⟨"ShadowBench$Job", "hasShadowsAsTold", "(J)Z"⟩ yX3_hasShadowsAsTold, Cond.selects RX5 ⟨"ShadowBench$Job", "hasShadowsAsTold", "(J)Z"⟩ yX3_hasShadowsAsTold, Cond.methodLink RX3 65 ⟨"ShadowBench$Job", "isAsKindAsks", "(J)Z"⟩, Cond.sameMethod "ShadowBench$Job" "ShadowBench$Job" "isAsKindAsks" "(J)Z", Cond.instanceMethod ⟨"ShadowBench$Job", "isAsKindAsks", "(J)Z"⟩, Cond.selects RX1 ⟨"ShadowBench$Job", "isAsKindAsks", "(J)Z"⟩ yX1_isAsKindAsks, Cond.instanceMethod yX1_isAsKindAsks, Cond.initialized RX1, Cond.code yX1_isAsKindAsks cX1_isAsKindAsks 3 (some .boolean), Cond.fieldLink RX1 11 "ShadowBench$EvenJob" "board" "LShadowBench$Board;", Cond.sameField "ShadowBench$EvenJob" "ShadowBench$Job" "board" "LShadowBench$Board;", Cond.methodLink RX1 7 yX4_isAsKindAsks, Cond.sameMethod "ShadowBench$JoinedJob" "ShadowBench$JoinedJob" "isAsKindAsks" "(J)Z"]
def wsX8_advance_r7 : List Cond := [Cond.superclass RX1 RX4, Cond.instanceMethod yX4_isAsKindAsks, Cond.initialized RX4, Cond.code yX4_isAsKindAsks cX4_isAsKindAsks 3 (some .boolean), Cond.fieldLink RX4 7 "ShadowBench$JoinedJob" "board" "LShadowBench$Board;", Cond.sameField "ShadowBench$JoinedJob" "ShadowBench$Job" "board" "LShadowBench$Board;", Cond.methodLink RX4 13 yX0_hangsTogether, Cond.instanceMethod yX0_hangsTogether, Cond.selects RX0 yX0_hangsTogether yX0_hangsTogether, Cond.code yX0_hangsTogether cX0_hangsTogether 14 (some .boolean), Cond.fieldLink RX0 20 "ShadowBench$Board" "squares" "I", Cond.constantLong RX0 73 (-1), Cond.methodLink RX1 17 yX0_rowsAreWhole, Cond.instanceMethod yX0_rowsAreWhole, Cond.selects RX0 yX0_rowsAreWhole yX0_rowsAreWhole, Cond.code yX0_rowsAreWhole cX0_rowsAreWhole 5 (some .boolean), Cond.methodLink RX0 75 yX0_rowOf, Cond.methodLink RX1 22 yX0_columnsAreWhole, Cond.instanceMethod yX0_columnsAreWhole, Cond.selects RX0 yX0_columnsAreWhole yX0_columnsAreWhole, Cond.code yX0_columnsAreWhole cX0_columnsAreWhole 7 (some .boolean), Cond.code yX3_isAsKindAsks cX3_isAsKindAsks 3 (some .boolean), Cond.methodLink RX3 65 yX3_isAsKindAsks, Cond.instanceMethod yX3_isAsKindAsks]
def wsX8_advance_r8 : List Cond := [Cond.selects RX3 yX3_isAsKindAsks yX3_isAsKindAsks, Cond.selects RX4 ⟨"ShadowBench$Job", "isAsKindAsks", "(J)Z"⟩ yX4_isAsKindAsks, Cond.selects RX5 ⟨"ShadowBench$Job", "isAsKindAsks", "(J)Z"⟩ yX3_isAsKindAsks, Cond.methodLink RX8 100 yX3_admits, Cond.selects RX3 yX3_admits yX3_admits, Cond.selects RX4 ⟨"ShadowBench$Job", "admits", "(J)Z"⟩ yX3_admits, Cond.selects RX5 ⟨"ShadowBench$Job", "admits", "(J)Z"⟩ yX3_admits]
def wsX8_advance : List Cond := .code yX8_advance cX8_advance 3 (some .boolean) :: ((wsX8_advance_r1 ++ (wsX8_advance_r2 ++ (wsX8_advance_r3 ++ (wsX8_advance_r4 ++ (wsX8_advance_r5 ++ (wsX8_advance_r6 ++ (wsX8_advance_r7 ++ wsX8_advance_r8))))))) ++ wsX80 ++ wsX10 ++ wsX30 ++ wsX40 ++ wsX50 ++ wsX00)
theorem dX6_init_0 : decode cX6_init 0 = .ok (.aload_n 0, 1) := by decide +kernel
theorem dX6_init_1 : decode cX6_init 1 = .ok (.invokespecial 5, 3) := by decide +kernel
theorem dX6_init_4 : decode cX6_init 4 = .ok (.aload_n 0, 1) := by decide +kernel
theorem dX6_init_5 : decode cX6_init 5 = .ok (.sipush 20000, 3) := by decide +kernel
theorem dX6_init_8 : decode cX6_init 8 = .ok (.newarray .long, 2) := by decide +kernel
theorem dX6_init_10 : decode cX6_init 10 = .ok (.putfield 11, 3) := by decide +kernel
theorem dX6_init_13 : decode cX6_init 13 = .ok (.aload_n 0, 1) := by decide +kernel
theorem dX6_init_14 : decode cX6_init 14 = .ok (.iconst 0, 1) := by decide +kernel
theorem dX6_init_15 : decode cX6_init 15 = .ok (.putfield 15, 3) := by decide +kernel
theorem dX6_init_18 : decode cX6_init 18 = .ok (.aload_n 0, 1) := by decide +kernel
theorem dX6_init_19 : decode cX6_init 19 = .ok (.ldc 19, 2) := by decide +kernel
theorem dX6_init_21 : decode cX6_init 21 = .ok (.newarray .int, 2) := by decide +kernel
theorem dX6_init_23 : decode cX6_init 23 = .ok (.putfield 20, 3) := by decide +kernel
theorem dX6_init_26 : decode cX6_init 26 = .ok (.return_, 1) := by decide +kernel
set_option maxRecDepth 20000 in
theorem ggX6_fewestSwitches_J7_fill_53178 : GoodIn wsX6_fewestSwitches wsJ7_fill_53178 := goodIn_r _ [7] (by decide +kernel) (by decide +kernel)
set_option maxRecDepth 20000 in
theorem gX6_fewestSwitches_J7_fill_53178 : GoodIn wsX6_fewestSwitches (va_wsS RX6 24 yJ7_fill_53178 wsJ7_fill_53178) := goodIn_app (goodIn_of _ (by decide +kernel)) ggX6_fewestSwitches_J7_fill_53178
def chX6_fewestSwitches : List (List Cond) := [wsX6_fewestSwitches_r1, wsX6_fewestSwitches_r2, wsX60, wsX00]
set_option maxRecDepth 20000 in
theorem chX6_fewestSwitches_in : ∀ c ∈ chX6_fewestSwitches, ∀ w ∈ c, w ∈ wsX6_fewestSwitches := (all_c (P := fun c => ∀ w ∈ c, w ∈ wsX6_fewestSwitches) (fun w h => List.mem_cons_of_mem _ (List.mem_append_left _ (List.mem_append_left _ (List.mem_append_left _ (h))))) (all_c (P := fun c => ∀ w ∈ c, w ∈ wsX6_fewestSwitches) (fun w h => List.mem_cons_of_mem _ (List.mem_append_left _ (List.mem_append_left _ (List.mem_append_right _ (h))))) (all_c (P := fun c => ∀ w ∈ c, w ∈ wsX6_fewestSwitches) (fun w h => List.mem_cons_of_mem _ (List.mem_append_left _ (List.mem_append_right _ (h)))) (all_c (P := fun c => ∀ w ∈ c, w ∈ wsX6_fewestSwitches) (fun w h => List.mem_cons_of_mem _ (List.mem_append_right _ (h))) (fun _ h => nomatch h)))))
set_option maxRecDepth 20000 in
theorem ggX6_fewestSwitches_X6_meet : GoodIn wsX6_fewestSwitches wsX6_meet := goodIn_c chX6_fewestSwitches chX6_fewestSwitches_in _ [(0, 11), (0, 0), (0, 1), (0, 2), (0, 12), (0, 13), (0, 14), (0, 10), (0, 15), (0, 16), (0, 17), (0, 18), (0, 19), (0, 20), (0, 21), (2, 0), (2, 1), (2, 2)] (by rfl) (by decide +kernel)
set_option maxRecDepth 20000 in
theorem gX6_fewestSwitches_X6_meet : GoodIn wsX6_fewestSwitches (wsV RX6 30 RX6 yX6_meet wsX6_meet) := goodIn_app (goodIn_of _ (by decide +kernel)) ggX6_fewestSwitches_X6_meet
set_option maxRecDepth 20000 in
theorem ggX6_fewestSwitches_X6_meetNeighbours : GoodIn wsX6_fewestSwitches wsX6_meetNeighbours := goodIn_c chX6_fewestSwitches chX6_fewestSwitches_in _ [(1, 1), (1, 2), (1, 3), (1, 4), (1, 5), (1, 6), (1, 7), (1, 8), (1, 9), (1, 10), (0, 7), (0, 8), (0, 9), (0, 10), (0, 11), (0, 0), (0, 1), (0, 2), (0, 12), (0, 13), (0, 14), (0, 15), (0, 16), (0, 17), (0, 18), (0, 19), (0, 20), (0, 21), (3, 0), (3, 1), (3, 2), (3, 3), (3, 4), (3, 5), (3, 6), (3, 7), (2, 0), (2, 1), (2, 2)] (by rfl) (by decide +kernel)
set_option maxRecDepth 20000 in
theorem gX6_fewestSwitches_X6_meetNeighbours : GoodIn wsX6_fewestSwitches (wsV RX6 34 RX6 yX6_meetNeighbours wsX6_meetNeighbours) := goodIn_app (goodIn_of _ (by decide +kernel)) ggX6_fewestSwitches_X6_meetNeighbours
set_option maxRecDepth 20000 in
theorem ggX6_fewestSwitches_X6_knows : GoodIn wsX6_fewestSwitches wsX6_knows := goodIn_c chX6_fewestSwitches chX6_fewestSwitches_in _ [(1, 14), (0, 0), (0, 12), (0, 13), (0, 14), (0, 10), (0, 15), (0, 16), (0, 17), (0, 18), (0, 19), (0, 20), (0, 21), (0, 2), (2, 0), (2, 1), (2, 2)] (by rfl) (by decide +kernel)
set_option maxRecDepth 20000 in
theorem gX6_fewestSwitches_X6_knows : GoodIn wsX6_fewestSwitches (wsV RX6 38 RX6 yX6_knows wsX6_knows) := goodIn_app (goodIn_of _ (by decide +kernel)) ggX6_fewestSwitches_X6_knows
theorem dX6_fewestSwitches_0 : decode cX6_fewestSwitches 0 = .ok (.aload_n 0, 1) := by decide +kernel
theorem dX6_fewestSwitches_1 : decode cX6_fewestSwitches 1 = .ok (.getfield 20, 3) := by decide +kernel
theorem dX6_fewestSwitches_4 : decode cX6_fewestSwitches 4 = .ok (.iconst 0, 1) := by decide +kernel
theorem dX6_fewestSwitches_5 : decode cX6_fewestSwitches 5 = .ok (.invokestatic 24, 3) := by decide +kernel
theorem dX6_fewestSwitches_8 : decode cX6_fewestSwitches 8 = .ok (.aload_n 0, 1) := by decide +kernel
theorem dX6_fewestSwitches_9 : decode cX6_fewestSwitches 9 = .ok (.iconst 0, 1) := by decide +kernel
theorem dX6_fewestSwitches_10 : decode cX6_fewestSwitches 10 = .ok (.putfield 15, 3) := by decide +kernel
theorem dX6_fewestSwitches_13 : decode cX6_fewestSwitches 13 = .ok (.aload_n 0, 1) := by decide +kernel
theorem dX6_fewestSwitches_14 : decode cX6_fewestSwitches 14 = .ok (.lload_n 2, 1) := by decide +kernel
theorem dX6_fewestSwitches_15 : decode cX6_fewestSwitches 15 = .ok (.invokevirtual 30, 3) := by decide +kernel
theorem dX6_fewestSwitches_18 : decode cX6_fewestSwitches 18 = .ok (.pop, 1) := by decide +kernel
theorem dX6_fewestSwitches_19 : decode cX6_fewestSwitches 19 = .ok (.iconst 0, 1) := by decide +kernel
theorem dX6_fewestSwitches_20 : decode cX6_fewestSwitches 20 = .ok (.istore 6, 2) := by decide +kernel
theorem dX6_fewestSwitches_22 : decode cX6_fewestSwitches 22 = .ok (.iconst 1, 1) := by decide +kernel
theorem dX6_fewestSwitches_23 : decode cX6_fewestSwitches 23 = .ok (.istore 7, 2) := by decide +kernel
theorem dX6_fewestSwitches_25 : decode cX6_fewestSwitches 25 = .ok (.iconst 0, 1) := by decide +kernel
theorem dX6_fewestSwitches_26 : decode cX6_fewestSwitches 26 = .ok (.istore 8, 2) := by decide +kernel
theorem dX6_fewestSwitches_28 : decode cX6_fewestSwitches 28 = .ok (.iload 8, 2) := by decide +kernel
theorem dX6_fewestSwitches_30 : decode cX6_fewestSwitches 30 = .ok (.sipush 20000, 3) := by decide +kernel
theorem dX6_fewestSwitches_33 : decode cX6_fewestSwitches 33 = .ok (.if_icmp .ge 70, 3) := by decide +kernel
theorem dX6_fewestSwitches_36 : decode cX6_fewestSwitches 36 = .ok (.iload 8, 2) := by decide +kernel
theorem dX6_fewestSwitches_38 : decode cX6_fewestSwitches 38 = .ok (.aload_n 0, 1) := by decide +kernel
theorem dX6_fewestSwitches_39 : decode cX6_fewestSwitches 39 = .ok (.getfield 15, 3) := by decide +kernel
theorem dX6_fewestSwitches_42 : decode cX6_fewestSwitches 42 = .ok (.if_icmp .ge 61, 3) := by decide +kernel
theorem dX6_fewestSwitches_45 : decode cX6_fewestSwitches 45 = .ok (.iload 8, 2) := by decide +kernel
theorem dX6_fewestSwitches_47 : decode cX6_fewestSwitches 47 = .ok (.iload 7, 2) := by decide +kernel
theorem dX6_fewestSwitches_49 : decode cX6_fewestSwitches 49 = .ok (.if_icmp .ne 12, 3) := by decide +kernel
theorem dX6_fewestSwitches_52 : decode cX6_fewestSwitches 52 = .ok (.iinc 6 1, 3) := by decide +kernel
theorem dX6_fewestSwitches_55 : decode cX6_fewestSwitches 55 = .ok (.aload_n 0, 1) := by decide +kernel
theorem dX6_fewestSwitches_56 : decode cX6_fewestSwitches 56 = .ok (.getfield 15, 3) := by decide +kernel
theorem dX6_fewestSwitches_59 : decode cX6_fewestSwitches 59 = .ok (.istore 7, 2) := by decide +kernel
theorem dX6_fewestSwitches_61 : decode cX6_fewestSwitches 61 = .ok (.aload_n 0, 1) := by decide +kernel
theorem dX6_fewestSwitches_62 : decode cX6_fewestSwitches 62 = .ok (.aload_n 1, 1) := by decide +kernel
theorem dX6_fewestSwitches_63 : decode cX6_fewestSwitches 63 = .ok (.aload_n 0, 1) := by decide +kernel
theorem dX6_fewestSwitches_64 : decode cX6_fewestSwitches 64 = .ok (.getfield 11, 3) := by decide +kernel
theorem dX6_fewestSwitches_67 : decode cX6_fewestSwitches 67 = .ok (.iload 8, 2) := by decide +kernel
theorem dX6_fewestSwitches_69 : decode cX6_fewestSwitches 69 = .ok (.laload, 1) := by decide +kernel
theorem dX6_fewestSwitches_70 : decode cX6_fewestSwitches 70 = .ok (.invokevirtual 34, 3) := by decide +kernel
theorem dX6_fewestSwitches_73 : decode cX6_fewestSwitches 73 = .ok (.istore 9, 2) := by decide +kernel
theorem dX6_fewestSwitches_75 : decode cX6_fewestSwitches 75 = .ok (.aload_n 0, 1) := by decide +kernel
theorem dX6_fewestSwitches_76 : decode cX6_fewestSwitches 76 = .ok (.lload 4, 2) := by decide +kernel
theorem dX6_fewestSwitches_78 : decode cX6_fewestSwitches 78 = .ok (.invokevirtual 38, 3) := by decide +kernel
theorem dX6_fewestSwitches_81 : decode cX6_fewestSwitches 81 = .ok (.ifCond .eq 8, 3) := by decide +kernel
theorem dX6_fewestSwitches_84 : decode cX6_fewestSwitches 84 = .ok (.iload 6, 2) := by decide +kernel
theorem dX6_fewestSwitches_86 : decode cX6_fewestSwitches 86 = .ok (.iconst 1, 1) := by decide +kernel
theorem dX6_fewestSwitches_87 : decode cX6_fewestSwitches 87 = .ok (.iadd, 1) := by decide +kernel
theorem dX6_fewestSwitches_88 : decode cX6_fewestSwitches 88 = .ok (.ireturn, 1) := by decide +kernel
theorem dX6_fewestSwitches_89 : decode cX6_fewestSwitches 89 = .ok (.iload 9, 2) := by decide +kernel
theorem dX6_fewestSwitches_91 : decode cX6_fewestSwitches 91 = .ok (.ifCond .ne 6, 3) := by decide +kernel
theorem dX6_fewestSwitches_94 : decode cX6_fewestSwitches 94 = .ok (.bipush (-5), 2) := by decide +kernel
theorem dX6_fewestSwitches_96 : decode cX6_fewestSwitches 96 = .ok (.ireturn, 1) := by decide +kernel
theorem dX6_fewestSwitches_97 : decode cX6_fewestSwitches 97 = .ok (.iinc 8 1, 3) := by decide +kernel
theorem dX6_fewestSwitches_100 : decode cX6_fewestSwitches 100 = .ok (.goto (-72), 3) := by decide +kernel
theorem dX6_fewestSwitches_103 : decode cX6_fewestSwitches 103 = .ok (.bipush (-5), 2) := by decide +kernel
theorem dX6_fewestSwitches_105 : decode cX6_fewestSwitches 105 = .ok (.ireturn, 1) := by decide +kernel
def chX6_meetNeighbours : List (List Cond) := [wsX6_meetNeighbours_r1, wsX6_meetNeighbours_r2, wsX00, wsX60]
set_option maxRecDepth 20000 in
theorem chX6_meetNeighbours_in : ∀ c ∈ chX6_meetNeighbours, ∀ w ∈ c, w ∈ wsX6_meetNeighbours := (all_c (P := fun c => ∀ w ∈ c, w ∈ wsX6_meetNeighbours) (fun w h => List.mem_cons_of_mem _ (List.mem_append_left _ (List.mem_append_left _ (List.mem_append_left _ (h))))) (all_c (P := fun c => ∀ w ∈ c, w ∈ wsX6_meetNeighbours) (fun w h => List.mem_cons_of_mem _ (List.mem_append_left _ (List.mem_append_left _ (List.mem_append_right _ (h))))) (all_c (P := fun c => ∀ w ∈ c, w ∈ wsX6_meetNeighbours) (fun w h => List.mem_cons_of_mem _ (List.mem_append_left _ (List.mem_append_right _ (h)))) (all_c (P := fun c => ∀ w ∈ c, w ∈ wsX6_meetNeighbours) (fun w h => List.mem_cons_of_mem _ (List.mem_append_right _ (h))) (fun _ h => nomatch h)))))
set_option maxRecDepth 20000 in
theorem ggX6_meetNeighbours_X0_behindFour : GoodIn wsX6_meetNeighbours wsX0_behindFour := goodIn_c chX6_meetNeighbours chX6_meetNeighbours_in _ [(0, 5), (0, 6), (0, 7), (0, 8), (2, 0), (2, 1), (2, 2), (2, 3), (2, 4), (2, 5), (2, 6), (2, 7)] (by rfl) (by decide +kernel)
set_option maxRecDepth 20000 in
theorem gX6_meetNeighbours_X0_behindFour : GoodIn wsX6_meetNeighbours (wsV RX6 46 RX0 yX0_behindFour wsX0_behindFour) := goodIn_app (goodIn_of _ (by decide +kernel)) ggX6_meetNeighbours_X0_behindFour
set_option maxRecDepth 20000 in
theorem ggX6_meetNeighbours_X6_meet : GoodIn wsX6_meetNeighbours wsX6_meet := goodIn_c chX6_meetNeighbours chX6_meetNeighbours_in _ [(0, 13), (0, 14), (0, 15), (0, 16), (0, 17), (0, 18), (0, 19), (0, 12), (0, 20), (0, 21), (0, 22), (0, 23), (1, 0), (1, 1), (1, 2), (3, 0), (3, 1), (3, 2)] (by rfl) (by decide +kernel)
set_option maxRecDepth 20000 in
theorem gX6_meetNeighbours_X6_meet : GoodIn wsX6_meetNeighbours (wsV RX6 30 RX6 yX6_meet wsX6_meet) := goodIn_app (goodIn_of _ (by decide +kernel)) ggX6_meetNeighbours_X6_meet
theorem dX6_meetNeighbours_0 : decode cX6_meetNeighbours 0 = .ok (.iconst 0, 1) := by decide +kernel
theorem dX6_meetNeighbours_1 : decode cX6_meetNeighbours 1 = .ok (.istore 4, 2) := by decide +kernel
theorem dX6_meetNeighbours_3 : decode cX6_meetNeighbours 3 = .ok (.iload 4, 2) := by decide +kernel
theorem dX6_meetNeighbours_5 : decode cX6_meetNeighbours 5 = .ok (.aload_n 1, 1) := by decide +kernel
theorem dX6_meetNeighbours_6 : decode cX6_meetNeighbours 6 = .ok (.getfield 41, 3) := by decide +kernel
theorem dX6_meetNeighbours_9 : decode cX6_meetNeighbours 9 = .ok (.if_icmp .ge 36, 3) := by decide +kernel
theorem dX6_meetNeighbours_12 : decode cX6_meetNeighbours 12 = .ok (.aload_n 1, 1) := by decide +kernel
theorem dX6_meetNeighbours_13 : decode cX6_meetNeighbours 13 = .ok (.iload 4, 2) := by decide +kernel
theorem dX6_meetNeighbours_15 : decode cX6_meetNeighbours 15 = .ok (.lload_n 2, 1) := by decide +kernel
theorem dX6_meetNeighbours_16 : decode cX6_meetNeighbours 16 = .ok (.invokevirtual 46, 3) := by decide +kernel
theorem dX6_meetNeighbours_19 : decode cX6_meetNeighbours 19 = .ok (.lstore 5, 2) := by decide +kernel
theorem dX6_meetNeighbours_21 : decode cX6_meetNeighbours 21 = .ok (.lload 5, 2) := by decide +kernel
theorem dX6_meetNeighbours_23 : decode cX6_meetNeighbours 23 = .ok (.lload_n 2, 1) := by decide +kernel
theorem dX6_meetNeighbours_24 : decode cX6_meetNeighbours 24 = .ok (.lcmp, 1) := by decide +kernel
theorem dX6_meetNeighbours_25 : decode cX6_meetNeighbours 25 = .ok (.ifCond .eq 14, 3) := by decide +kernel
theorem dX6_meetNeighbours_28 : decode cX6_meetNeighbours 28 = .ok (.aload_n 0, 1) := by decide +kernel
theorem dX6_meetNeighbours_29 : decode cX6_meetNeighbours 29 = .ok (.lload 5, 2) := by decide +kernel
theorem dX6_meetNeighbours_31 : decode cX6_meetNeighbours 31 = .ok (.invokevirtual 30, 3) := by decide +kernel
theorem dX6_meetNeighbours_34 : decode cX6_meetNeighbours 34 = .ok (.ifCond .ne 5, 3) := by decide +kernel
theorem dX6_meetNeighbours_37 : decode cX6_meetNeighbours 37 = .ok (.iconst 0, 1) := by decide +kernel
theorem dX6_meetNeighbours_38 : decode cX6_meetNeighbours 38 = .ok (.ireturn, 1) := by decide +kernel
theorem dX6_meetNeighbours_39 : decode cX6_meetNeighbours 39 = .ok (.iinc 4 1, 3) := by decide +kernel
theorem dX6_meetNeighbours_42 : decode cX6_meetNeighbours 42 = .ok (.goto (-39), 3) := by decide +kernel
theorem dX6_meetNeighbours_45 : decode cX6_meetNeighbours 45 = .ok (.iconst 1, 1) := by decide +kernel
theorem dX6_meetNeighbours_46 : decode cX6_meetNeighbours 46 = .ok (.ireturn, 1) := by decide +kernel
def chX6_knows : List (List Cond) := [[.fieldLink RX6 20 "ShadowBench$Meetings" "slots" "[I", .methodLink RX6 50 yX6_slotFor, .instanceMethod yX6_slotFor, .selects RX6 yX6_slotFor yX6_slotFor, .initialized RX6, .code yX6_slotFor cX6_slotFor 5 (some .int), .constantLong RX6 54 (-7046029254386353131), .constant RX6 19 (32768), .methodLink RX6 56 yX6_isTakenByOther, .instanceMethod yX6_isTakenByOther, .selects RX6 yX6_isTakenByOther yX6_isTakenByOther, .code yX6_isTakenByOther cX6_isTakenByOther 5 (some .boolean), .fieldLink RX6 11 "ShadowBench$Meetings" "met" "[J"], wsX60]
set_option maxRecDepth 20000 in
theorem chX6_knows_in : ∀ c ∈ chX6_knows, ∀ w ∈ c, w ∈ wsX6_knows := (all_c (P := fun c => ∀ w ∈ c, w ∈ wsX6_knows) (fun w h => List.mem_cons_of_mem _ (List.mem_append_left _ (h))) (all_c (P := fun c => ∀ w ∈ c, w ∈ wsX6_knows) (fun w h => List.mem_cons_of_mem _ (List.mem_append_right _ (h))) (fun _ h => nomatch h)))
set_option maxRecDepth 20000 in
theorem ggX6_knows_X6_slotFor : GoodIn wsX6_knows wsX6_slotFor := goodIn_c chX6_knows chX6_knows_in _ [(0, 5), (0, 6), (0, 7), (0, 8), (0, 9), (0, 10), (0, 4), (0, 11), (0, 0), (0, 12), (1, 0), (1, 1), (1, 2)] (by rfl) (by decide +kernel)
set_option maxRecDepth 20000 in
theorem gX6_knows_X6_slotFor : GoodIn wsX6_knows (wsV RX6 50 RX6 yX6_slotFor wsX6_slotFor) := goodIn_app (goodIn_of _ (by decide +kernel)) ggX6_knows_X6_slotFor
theorem dX6_knows_0 : decode cX6_knows 0 = .ok (.aload_n 0, 1) := by decide +kernel
theorem dX6_knows_1 : decode cX6_knows 1 = .ok (.getfield 20, 3) := by decide +kernel
theorem dX6_knows_4 : decode cX6_knows 4 = .ok (.aload_n 0, 1) := by decide +kernel
theorem dX6_knows_5 : decode cX6_knows 5 = .ok (.lload_n 1, 1) := by decide +kernel
theorem dX6_knows_6 : decode cX6_knows 6 = .ok (.invokevirtual 50, 3) := by decide +kernel
theorem dX6_knows_9 : decode cX6_knows 9 = .ok (.iaload, 1) := by decide +kernel
theorem dX6_knows_10 : decode cX6_knows 10 = .ok (.ifCond .eq 7, 3) := by decide +kernel
theorem dX6_knows_13 : decode cX6_knows 13 = .ok (.iconst 1, 1) := by decide +kernel
theorem dX6_knows_14 : decode cX6_knows 14 = .ok (.goto 4, 3) := by decide +kernel
theorem dX6_knows_17 : decode cX6_knows 17 = .ok (.iconst 0, 1) := by decide +kernel
theorem dX6_knows_18 : decode cX6_knows 18 = .ok (.ireturn, 1) := by decide +kernel
def chX6_meet : List (List Cond) := [[.fieldLink RX6 20 "ShadowBench$Meetings" "slots" "[I", .fieldLink RX6 15 "ShadowBench$Meetings" "size" "I", .fieldLink RX6 11 "ShadowBench$Meetings" "met" "[J", .methodLink RX6 50 yX6_slotFor, .instanceMethod yX6_slotFor, .selects RX6 yX6_slotFor yX6_slotFor, .initialized RX6, .code yX6_slotFor cX6_slotFor 5 (some .int), .constantLong RX6 54 (-7046029254386353131), .constant RX6 19 (32768), .methodLink RX6 56 yX6_isTakenByOther, .instanceMethod yX6_isTakenByOther, .selects RX6 yX6_isTakenByOther yX6_isTakenByOther, .code yX6_isTakenByOther cX6_isTakenByOther 5 (some .boolean)], wsX60]
set_option maxRecDepth 20000 in
theorem chX6_meet_in : ∀ c ∈ chX6_meet, ∀ w ∈ c, w ∈ wsX6_meet := (all_c (P := fun c => ∀ w ∈ c, w ∈ wsX6_meet) (fun w h => List.mem_cons_of_mem _ (List.mem_append_left _ (h))) (all_c (P := fun c => ∀ w ∈ c, w ∈ wsX6_meet) (fun w h => List.mem_cons_of_mem _ (List.mem_append_right _ (h))) (fun _ h => nomatch h)))
set_option maxRecDepth 20000 in
theorem ggX6_meet_X6_slotFor : GoodIn wsX6_meet wsX6_slotFor := goodIn_c chX6_meet chX6_meet_in _ [(0, 7), (0, 8), (0, 9), (0, 10), (0, 11), (0, 12), (0, 6), (0, 13), (0, 0), (0, 2), (1, 0), (1, 1), (1, 2)] (by rfl) (by decide +kernel)
set_option maxRecDepth 20000 in
theorem gX6_meet_X6_slotFor : GoodIn wsX6_meet (wsV RX6 50 RX6 yX6_slotFor wsX6_slotFor) := goodIn_app (goodIn_of _ (by decide +kernel)) ggX6_meet_X6_slotFor
theorem dX6_meet_0 : decode cX6_meet 0 = .ok (.aload_n 0, 1) := by decide +kernel
theorem dX6_meet_1 : decode cX6_meet 1 = .ok (.lload_n 1, 1) := by decide +kernel
theorem dX6_meet_2 : decode cX6_meet 2 = .ok (.invokevirtual 50, 3) := by decide +kernel
theorem dX6_meet_5 : decode cX6_meet 5 = .ok (.istore_n 3, 1) := by decide +kernel
theorem dX6_meet_6 : decode cX6_meet 6 = .ok (.aload_n 0, 1) := by decide +kernel
theorem dX6_meet_7 : decode cX6_meet 7 = .ok (.getfield 20, 3) := by decide +kernel
theorem dX6_meet_10 : decode cX6_meet 10 = .ok (.iload_n 3, 1) := by decide +kernel
theorem dX6_meet_11 : decode cX6_meet 11 = .ok (.iaload, 1) := by decide +kernel
theorem dX6_meet_12 : decode cX6_meet 12 = .ok (.ifCond .eq 5, 3) := by decide +kernel
theorem dX6_meet_15 : decode cX6_meet 15 = .ok (.iconst 1, 1) := by decide +kernel
theorem dX6_meet_16 : decode cX6_meet 16 = .ok (.ireturn, 1) := by decide +kernel
theorem dX6_meet_17 : decode cX6_meet 17 = .ok (.aload_n 0, 1) := by decide +kernel
theorem dX6_meet_18 : decode cX6_meet 18 = .ok (.getfield 15, 3) := by decide +kernel
theorem dX6_meet_21 : decode cX6_meet 21 = .ok (.sipush 20000, 3) := by decide +kernel
theorem dX6_meet_24 : decode cX6_meet 24 = .ok (.if_icmp .lt 5, 3) := by decide +kernel
theorem dX6_meet_27 : decode cX6_meet 27 = .ok (.iconst 0, 1) := by decide +kernel
theorem dX6_meet_28 : decode cX6_meet 28 = .ok (.ireturn, 1) := by decide +kernel
theorem dX6_meet_29 : decode cX6_meet 29 = .ok (.aload_n 0, 1) := by decide +kernel
theorem dX6_meet_30 : decode cX6_meet 30 = .ok (.getfield 11, 3) := by decide +kernel
theorem dX6_meet_33 : decode cX6_meet 33 = .ok (.aload_n 0, 1) := by decide +kernel
theorem dX6_meet_34 : decode cX6_meet 34 = .ok (.getfield 15, 3) := by decide +kernel
theorem dX6_meet_37 : decode cX6_meet 37 = .ok (.lload_n 1, 1) := by decide +kernel
theorem dX6_meet_38 : decode cX6_meet 38 = .ok (.lastore, 1) := by decide +kernel
theorem dX6_meet_39 : decode cX6_meet 39 = .ok (.aload_n 0, 1) := by decide +kernel
theorem dX6_meet_40 : decode cX6_meet 40 = .ok (.dup, 1) := by decide +kernel
theorem dX6_meet_41 : decode cX6_meet 41 = .ok (.getfield 15, 3) := by decide +kernel
theorem dX6_meet_44 : decode cX6_meet 44 = .ok (.iconst 1, 1) := by decide +kernel
theorem dX6_meet_45 : decode cX6_meet 45 = .ok (.iadd, 1) := by decide +kernel
theorem dX6_meet_46 : decode cX6_meet 46 = .ok (.putfield 15, 3) := by decide +kernel
theorem dX6_meet_49 : decode cX6_meet 49 = .ok (.aload_n 0, 1) := by decide +kernel
theorem dX6_meet_50 : decode cX6_meet 50 = .ok (.getfield 20, 3) := by decide +kernel
theorem dX6_meet_53 : decode cX6_meet 53 = .ok (.iload_n 3, 1) := by decide +kernel
theorem dX6_meet_54 : decode cX6_meet 54 = .ok (.aload_n 0, 1) := by decide +kernel
theorem dX6_meet_55 : decode cX6_meet 55 = .ok (.getfield 15, 3) := by decide +kernel
theorem dX6_meet_58 : decode cX6_meet 58 = .ok (.iastore, 1) := by decide +kernel
theorem dX6_meet_59 : decode cX6_meet 59 = .ok (.iconst 1, 1) := by decide +kernel
theorem dX6_meet_60 : decode cX6_meet 60 = .ok (.ireturn, 1) := by decide +kernel
def chX6_slotFor : List (List Cond) := [[.constantLong RX6 54 (-7046029254386353131), .constant RX6 19 (32768), .methodLink RX6 56 yX6_isTakenByOther, .instanceMethod yX6_isTakenByOther, .selects RX6 yX6_isTakenByOther yX6_isTakenByOther, .initialized RX6, .code yX6_isTakenByOther cX6_isTakenByOther 5 (some .boolean), .fieldLink RX6 20 "ShadowBench$Meetings" "slots" "[I", .fieldLink RX6 11 "ShadowBench$Meetings" "met" "[J"], wsX60]
set_option maxRecDepth 20000 in
theorem chX6_slotFor_in : ∀ c ∈ chX6_slotFor, ∀ w ∈ c, w ∈ wsX6_slotFor := (all_c (P := fun c => ∀ w ∈ c, w ∈ wsX6_slotFor) (fun w h => List.mem_cons_of_mem _ (List.mem_append_left _ (h))) (all_c (P := fun c => ∀ w ∈ c, w ∈ wsX6_slotFor) (fun w h => List.mem_cons_of_mem _ (List.mem_append_right _ (h))) (fun _ h => nomatch h)))
set_option maxRecDepth 20000 in
theorem ggX6_slotFor_X6_isTakenByOther : GoodIn wsX6_slotFor wsX6_isTakenByOther := goodIn_c chX6_slotFor chX6_slotFor_in _ [(0, 6), (0, 7), (0, 8), (1, 0), (1, 1), (1, 2)] (by rfl) (by decide +kernel)
set_option maxRecDepth 20000 in
theorem gX6_slotFor_X6_isTakenByOther : GoodIn wsX6_slotFor (wsV RX6 56 RX6 yX6_isTakenByOther wsX6_isTakenByOther) := goodIn_app (goodIn_of _ (by decide +kernel)) ggX6_slotFor_X6_isTakenByOther
theorem dX6_slotFor_0 : decode cX6_slotFor 0 = .ok (.lload_n 1, 1) := by decide +kernel
theorem dX6_slotFor_1 : decode cX6_slotFor 1 = .ok (.ldc2_w 54, 3) := by decide +kernel
theorem dX6_slotFor_4 : decode cX6_slotFor 4 = .ok (.lmul, 1) := by decide +kernel
theorem dX6_slotFor_5 : decode cX6_slotFor 5 = .ok (.bipush 49, 2) := by decide +kernel
theorem dX6_slotFor_7 : decode cX6_slotFor 7 = .ok (.lushr, 1) := by decide +kernel
theorem dX6_slotFor_8 : decode cX6_slotFor 8 = .ok (.l2i, 1) := by decide +kernel
theorem dX6_slotFor_9 : decode cX6_slotFor 9 = .ok (.sipush 32767, 3) := by decide +kernel
theorem dX6_slotFor_12 : decode cX6_slotFor 12 = .ok (.iand, 1) := by decide +kernel
theorem dX6_slotFor_13 : decode cX6_slotFor 13 = .ok (.istore_n 3, 1) := by decide +kernel
theorem dX6_slotFor_14 : decode cX6_slotFor 14 = .ok (.iconst 0, 1) := by decide +kernel
theorem dX6_slotFor_15 : decode cX6_slotFor 15 = .ok (.istore 4, 2) := by decide +kernel
theorem dX6_slotFor_17 : decode cX6_slotFor 17 = .ok (.iload 4, 2) := by decide +kernel
theorem dX6_slotFor_19 : decode cX6_slotFor 19 = .ok (.ldc 19, 2) := by decide +kernel
theorem dX6_slotFor_21 : decode cX6_slotFor 21 = .ok (.if_icmp .ge 26, 3) := by decide +kernel
theorem dX6_slotFor_24 : decode cX6_slotFor 24 = .ok (.aload_n 0, 1) := by decide +kernel
theorem dX6_slotFor_25 : decode cX6_slotFor 25 = .ok (.iload_n 3, 1) := by decide +kernel
theorem dX6_slotFor_26 : decode cX6_slotFor 26 = .ok (.lload_n 1, 1) := by decide +kernel
theorem dX6_slotFor_27 : decode cX6_slotFor 27 = .ok (.invokevirtual 56, 3) := by decide +kernel
theorem dX6_slotFor_30 : decode cX6_slotFor 30 = .ok (.ifCond .eq 17, 3) := by decide +kernel
theorem dX6_slotFor_33 : decode cX6_slotFor 33 = .ok (.iload_n 3, 1) := by decide +kernel
theorem dX6_slotFor_34 : decode cX6_slotFor 34 = .ok (.iconst 1, 1) := by decide +kernel
theorem dX6_slotFor_35 : decode cX6_slotFor 35 = .ok (.iadd, 1) := by decide +kernel
theorem dX6_slotFor_36 : decode cX6_slotFor 36 = .ok (.sipush 32767, 3) := by decide +kernel
theorem dX6_slotFor_39 : decode cX6_slotFor 39 = .ok (.iand, 1) := by decide +kernel
theorem dX6_slotFor_40 : decode cX6_slotFor 40 = .ok (.istore_n 3, 1) := by decide +kernel
theorem dX6_slotFor_41 : decode cX6_slotFor 41 = .ok (.iinc 4 1, 3) := by decide +kernel
theorem dX6_slotFor_44 : decode cX6_slotFor 44 = .ok (.goto (-27), 3) := by decide +kernel
theorem dX6_slotFor_47 : decode cX6_slotFor 47 = .ok (.iload_n 3, 1) := by decide +kernel
theorem dX6_slotFor_48 : decode cX6_slotFor 48 = .ok (.ireturn, 1) := by decide +kernel
theorem dX6_isTakenByOther_0 : decode cX6_isTakenByOther 0 = .ok (.aload_n 0, 1) := by decide +kernel
theorem dX6_isTakenByOther_1 : decode cX6_isTakenByOther 1 = .ok (.getfield 20, 3) := by decide +kernel
theorem dX6_isTakenByOther_4 : decode cX6_isTakenByOther 4 = .ok (.iload_n 1, 1) := by decide +kernel
theorem dX6_isTakenByOther_5 : decode cX6_isTakenByOther 5 = .ok (.iaload, 1) := by decide +kernel
theorem dX6_isTakenByOther_6 : decode cX6_isTakenByOther 6 = .ok (.iconst 1, 1) := by decide +kernel
theorem dX6_isTakenByOther_7 : decode cX6_isTakenByOther 7 = .ok (.isub, 1) := by decide +kernel
theorem dX6_isTakenByOther_8 : decode cX6_isTakenByOther 8 = .ok (.istore 4, 2) := by decide +kernel
theorem dX6_isTakenByOther_10 : decode cX6_isTakenByOther 10 = .ok (.iload 4, 2) := by decide +kernel
theorem dX6_isTakenByOther_12 : decode cX6_isTakenByOther 12 = .ok (.ifCond .lt 27, 3) := by decide +kernel
theorem dX6_isTakenByOther_15 : decode cX6_isTakenByOther 15 = .ok (.iload 4, 2) := by decide +kernel
theorem dX6_isTakenByOther_17 : decode cX6_isTakenByOther 17 = .ok (.sipush 20000, 3) := by decide +kernel
theorem dX6_isTakenByOther_20 : decode cX6_isTakenByOther 20 = .ok (.if_icmp .ge 19, 3) := by decide +kernel
theorem dX6_isTakenByOther_23 : decode cX6_isTakenByOther 23 = .ok (.aload_n 0, 1) := by decide +kernel
theorem dX6_isTakenByOther_24 : decode cX6_isTakenByOther 24 = .ok (.getfield 11, 3) := by decide +kernel
theorem dX6_isTakenByOther_27 : decode cX6_isTakenByOther 27 = .ok (.iload 4, 2) := by decide +kernel
theorem dX6_isTakenByOther_29 : decode cX6_isTakenByOther 29 = .ok (.laload, 1) := by decide +kernel
theorem dX6_isTakenByOther_30 : decode cX6_isTakenByOther 30 = .ok (.lload_n 2, 1) := by decide +kernel
theorem dX6_isTakenByOther_31 : decode cX6_isTakenByOther 31 = .ok (.lcmp, 1) := by decide +kernel
theorem dX6_isTakenByOther_32 : decode cX6_isTakenByOther 32 = .ok (.ifCond .eq 7, 3) := by decide +kernel
theorem dX6_isTakenByOther_35 : decode cX6_isTakenByOther 35 = .ok (.iconst 1, 1) := by decide +kernel
theorem dX6_isTakenByOther_36 : decode cX6_isTakenByOther 36 = .ok (.goto 4, 3) := by decide +kernel
theorem dX6_isTakenByOther_39 : decode cX6_isTakenByOther 39 = .ok (.iconst 0, 1) := by decide +kernel
theorem dX6_isTakenByOther_40 : decode cX6_isTakenByOther 40 = .ok (.ireturn, 1) := by decide +kernel
theorem dX8_init_0 : decode cX8_init 0 = .ok (.aload_n 0, 1) := by decide +kernel
theorem dX8_init_1 : decode cX8_init 1 = .ok (.invokespecial 1, 3) := by decide +kernel
theorem dX8_init_4 : decode cX8_init 4 = .ok (.aload_n 0, 1) := by decide +kernel
theorem dX8_init_5 : decode cX8_init 5 = .ok (.aconst_null, 1) := by decide +kernel
theorem dX8_init_6 : decode cX8_init 6 = .ok (.putfield 7, 3) := by decide +kernel
theorem dX8_init_9 : decode cX8_init 9 = .ok (.aload_n 0, 1) := by decide +kernel
theorem dX8_init_10 : decode cX8_init 10 = .ok (.iconst (-1), 1) := by decide +kernel
theorem dX8_init_11 : decode cX8_init 11 = .ok (.putfield 13, 3) := by decide +kernel
theorem dX8_init_14 : decode cX8_init 14 = .ok (.aload_n 0, 1) := by decide +kernel
theorem dX8_init_15 : decode cX8_init 15 = .ok (.iconst 0, 1) := by decide +kernel
theorem dX8_init_16 : decode cX8_init 16 = .ok (.putfield 17, 3) := by decide +kernel
theorem dX8_init_19 : decode cX8_init 19 = .ok (.aload_n 0, 1) := by decide +kernel
theorem dX8_init_20 : decode cX8_init 20 = .ok (.iconst 0, 1) := by decide +kernel
theorem dX8_init_21 : decode cX8_init 21 = .ok (.putfield 20, 3) := by decide +kernel
theorem dX8_init_24 : decode cX8_init 24 = .ok (.aload_n 0, 1) := by decide +kernel
theorem dX8_init_25 : decode cX8_init 25 = .ok (.lconst 0, 1) := by decide +kernel
theorem dX8_init_26 : decode cX8_init 26 = .ok (.putfield 24, 3) := by decide +kernel
theorem dX8_init_29 : decode cX8_init 29 = .ok (.aload_n 0, 1) := by decide +kernel
theorem dX8_init_30 : decode cX8_init 30 = .ok (.bipush 6, 2) := by decide +kernel
theorem dX8_init_32 : decode cX8_init 32 = .ok (.newarray .int, 2) := by decide +kernel
theorem dX8_init_34 : decode cX8_init 34 = .ok (.putfield 30, 3) := by decide +kernel
theorem dX8_init_37 : decode cX8_init 37 = .ok (.aload_n 0, 1) := by decide +kernel
theorem dX8_init_38 : decode cX8_init 38 = .ok (.bipush 6, 2) := by decide +kernel
theorem dX8_init_40 : decode cX8_init 40 = .ok (.newarray .int, 2) := by decide +kernel
theorem dX8_init_42 : decode cX8_init 42 = .ok (.putfield 34, 3) := by decide +kernel
theorem dX8_init_45 : decode cX8_init 45 = .ok (.aload_n 0, 1) := by decide +kernel
theorem dX8_init_46 : decode cX8_init 46 = .ok (.bipush 6, 2) := by decide +kernel
theorem dX8_init_48 : decode cX8_init 48 = .ok (.newarray .int, 2) := by decide +kernel
theorem dX8_init_50 : decode cX8_init 50 = .ok (.putfield 37, 3) := by decide +kernel
theorem dX8_init_53 : decode cX8_init 53 = .ok (.aload_n 0, 1) := by decide +kernel
theorem dX8_init_54 : decode cX8_init 54 = .ok (.bipush 6, 2) := by decide +kernel
theorem dX8_init_56 : decode cX8_init 56 = .ok (.newarray .int, 2) := by decide +kernel
theorem dX8_init_58 : decode cX8_init 58 = .ok (.putfield 40, 3) := by decide +kernel
theorem dX8_init_61 : decode cX8_init 61 = .ok (.aload_n 0, 1) := by decide +kernel
theorem dX8_init_62 : decode cX8_init 62 = .ok (.bipush 6, 2) := by decide +kernel
theorem dX8_init_64 : decode cX8_init 64 = .ok (.newarray .long, 2) := by decide +kernel
theorem dX8_init_66 : decode cX8_init 66 = .ok (.putfield 43, 3) := by decide +kernel
theorem dX8_init_69 : decode cX8_init 69 = .ok (.return_, 1) := by decide +kernel
def chX8_start : List (List Cond) := [wsX8_start_r1, wsX8_start_r2, wsX8_start_r3, wsX8_start_r4, wsX80, wsX10, wsX30, wsX40, wsX50, wsX00]
set_option maxRecDepth 20000 in
theorem chX8_start_in : ∀ c ∈ chX8_start, ∀ w ∈ c, w ∈ wsX8_start := (all_c (P := fun c => ∀ w ∈ c, w ∈ wsX8_start) (fun w h => List.mem_cons_of_mem _ (List.mem_append_left _ (List.mem_append_left _ (List.mem_append_left _ (List.mem_append_left _ (List.mem_append_left _ (List.mem_append_left _ (List.mem_append_left _ (h))))))))) (all_c (P := fun c => ∀ w ∈ c, w ∈ wsX8_start) (fun w h => List.mem_cons_of_mem _ (List.mem_append_left _ (List.mem_append_left _ (List.mem_append_left _ (List.mem_append_left _ (List.mem_append_left _ (List.mem_append_left _ (List.mem_append_right _ (List.mem_append_left _ (h)))))))))) (all_c (P := fun c => ∀ w ∈ c, w ∈ wsX8_start) (fun w h => List.mem_cons_of_mem _ (List.mem_append_left _ (List.mem_append_left _ (List.mem_append_left _ (List.mem_append_left _ (List.mem_append_left _ (List.mem_append_left _ (List.mem_append_right _ (List.mem_append_right _ (List.mem_append_left _ (h))))))))))) (all_c (P := fun c => ∀ w ∈ c, w ∈ wsX8_start) (fun w h => List.mem_cons_of_mem _ (List.mem_append_left _ (List.mem_append_left _ (List.mem_append_left _ (List.mem_append_left _ (List.mem_append_left _ (List.mem_append_left _ (List.mem_append_right _ (List.mem_append_right _ (List.mem_append_right _ (h))))))))))) (all_c (P := fun c => ∀ w ∈ c, w ∈ wsX8_start) (fun w h => List.mem_cons_of_mem _ (List.mem_append_left _ (List.mem_append_left _ (List.mem_append_left _ (List.mem_append_left _ (List.mem_append_left _ (List.mem_append_right _ (h)))))))) (all_c (P := fun c => ∀ w ∈ c, w ∈ wsX8_start) (fun w h => List.mem_cons_of_mem _ (List.mem_append_left _ (List.mem_append_left _ (List.mem_append_left _ (List.mem_append_left _ (List.mem_append_right _ (h))))))) (all_c (P := fun c => ∀ w ∈ c, w ∈ wsX8_start) (fun w h => List.mem_cons_of_mem _ (List.mem_append_left _ (List.mem_append_left _ (List.mem_append_left _ (List.mem_append_right _ (h)))))) (all_c (P := fun c => ∀ w ∈ c, w ∈ wsX8_start) (fun w h => List.mem_cons_of_mem _ (List.mem_append_left _ (List.mem_append_left _ (List.mem_append_right _ (h))))) (all_c (P := fun c => ∀ w ∈ c, w ∈ wsX8_start) (fun w h => List.mem_cons_of_mem _ (List.mem_append_left _ (List.mem_append_right _ (h)))) (all_c (P := fun c => ∀ w ∈ c, w ∈ wsX8_start) (fun w h => List.mem_cons_of_mem _ (List.mem_append_right _ (h))) (fun _ h => nomatch h)))))))))))
set_option maxRecDepth 20000 in
theorem ggX8_start_X8_enterRow : GoodIn wsX8_start wsX8_enterRow := goodIn_c chX8_start chX8_start_in _ [(0, 8), (0, 9), (0, 10), (0, 11), (0, 0), (0, 12), (0, 13), (0, 14), (0, 15), (0, 16), (0, 17), (0, 7), (0, 18), (0, 19), (0, 20), (0, 21), (0, 22), (0, 23), (1, 0), (1, 1), (1, 2), (1, 3), (1, 4), (1, 5), (1, 6), (1, 7), (1, 8), (1, 9), (1, 10), (1, 11), (1, 12), (1, 13), (1, 14), (1, 15), (1, 16), (1, 17), (1, 18), (1, 19), (1, 20), (1, 21), (1, 22), (1, 23), (2, 0), (2, 1), (2, 2), (2, 3), (2, 4), (2, 5), (2, 6), (2, 7), (2, 8), (2, 9), (2, 10), (2, 11), (2, 12), (2, 13), (2, 14), (2, 15), (2, 16), (2, 17), (2, 18), (2, 19), (2, 20), (2, 21), (2, 22), (2, 23), (3, 0), (3, 1), (3, 2), (3, 3), (3, 4), (3, 5), (3, 6), (3, 7), (3, 8), (3, 9), (3, 10), (3, 11), (4, 0), (4, 1), (4, 2), (4, 3), (4, 4), (4, 5), (4, 6), (4, 7), (4, 8), (4, 9), (5, 0), (5, 1), (5, 2), (5, 3), (5, 4), (6, 0), (6, 1), (6, 2), (6, 3), (6, 4), (7, 0), (7, 1), (7, 2), (7, 3), (7, 4), (8, 0), (8, 1), (8, 2), (8, 3), (8, 4), (8, 5), (9, 0), (9, 1), (9, 2), (9, 3), (9, 4), (9, 5), (9, 6), (9, 7)] (by rfl) (by decide +kernel)
set_option maxRecDepth 20000 in
theorem gX8_start_X8_enterRow : GoodIn wsX8_start (wsV RX8 47 RX8 yX8_enterRow wsX8_enterRow) := goodIn_app (goodIn_of _ (by decide +kernel)) ggX8_start_X8_enterRow
theorem dX8_start_0 : decode cX8_start 0 = .ok (.aload_n 0, 1) := by decide +kernel
theorem dX8_start_1 : decode cX8_start 1 = .ok (.aload_n 1, 1) := by decide +kernel
theorem dX8_start_2 : decode cX8_start 2 = .ok (.putfield 7, 3) := by decide +kernel
theorem dX8_start_5 : decode cX8_start 5 = .ok (.aload_n 0, 1) := by decide +kernel
theorem dX8_start_6 : decode cX8_start 6 = .ok (.iconst 0, 1) := by decide +kernel
theorem dX8_start_7 : decode cX8_start 7 = .ok (.putfield 17, 3) := by decide +kernel
theorem dX8_start_10 : decode cX8_start 10 = .ok (.aload_n 0, 1) := by decide +kernel
theorem dX8_start_11 : decode cX8_start 11 = .ok (.iconst 0, 1) := by decide +kernel
theorem dX8_start_12 : decode cX8_start 12 = .ok (.putfield 20, 3) := by decide +kernel
theorem dX8_start_15 : decode cX8_start 15 = .ok (.aload_n 0, 1) := by decide +kernel
theorem dX8_start_16 : decode cX8_start 16 = .ok (.lconst 0, 1) := by decide +kernel
theorem dX8_start_17 : decode cX8_start 17 = .ok (.putfield 24, 3) := by decide +kernel
theorem dX8_start_20 : decode cX8_start 20 = .ok (.aload_n 0, 1) := by decide +kernel
theorem dX8_start_21 : decode cX8_start 21 = .ok (.iconst 0, 1) := by decide +kernel
theorem dX8_start_22 : decode cX8_start 22 = .ok (.lconst 0, 1) := by decide +kernel
theorem dX8_start_23 : decode cX8_start 23 = .ok (.invokevirtual 47, 3) := by decide +kernel
theorem dX8_start_26 : decode cX8_start 26 = .ok (.return_, 1) := by decide +kernel
theorem dX8_isSpent_0 : decode cX8_isSpent 0 = .ok (.aload_n 0, 1) := by decide +kernel
theorem dX8_isSpent_1 : decode cX8_isSpent 1 = .ok (.getfield 20, 3) := by decide +kernel
theorem dX8_isSpent_4 : decode cX8_isSpent 4 = .ok (.ireturn, 1) := by decide +kernel
theorem dX8_found_0 : decode cX8_found 0 = .ok (.aload_n 0, 1) := by decide +kernel
theorem dX8_found_1 : decode cX8_found 1 = .ok (.getfield 24, 3) := by decide +kernel
theorem dX8_found_4 : decode cX8_found 4 = .ok (.lreturn, 1) := by decide +kernel
def chX8_advance : List (List Cond) := [wsX8_advance_r1, wsX8_advance_r2, wsX8_advance_r3, wsX8_advance_r4, wsX8_advance_r5, wsX8_advance_r6, wsX8_advance_r7, wsX8_advance_r8, wsX80, wsX10, wsX30, wsX40, wsX50, wsX00]
set_option maxRecDepth 20000 in
theorem chX8_advance_in : ∀ c ∈ chX8_advance, ∀ w ∈ c, w ∈ wsX8_advance := (all_c (P := fun c => ∀ w ∈ c, w ∈ wsX8_advance) (fun w h => List.mem_cons_of_mem _ (List.mem_append_left _ (List.mem_append_left _ (List.mem_append_left _ (List.mem_append_left _ (List.mem_append_left _ (List.mem_append_left _ (List.mem_append_left _ (h))))))))) (all_c (P := fun c => ∀ w ∈ c, w ∈ wsX8_advance) (fun w h => List.mem_cons_of_mem _ (List.mem_append_left _ (List.mem_append_left _ (List.mem_append_left _ (List.mem_append_left _ (List.mem_append_left _ (List.mem_append_left _ (List.mem_append_right _ (List.mem_append_left _ (h)))))))))) (all_c (P := fun c => ∀ w ∈ c, w ∈ wsX8_advance) (fun w h => List.mem_cons_of_mem _ (List.mem_append_left _ (List.mem_append_left _ (List.mem_append_left _ (List.mem_append_left _ (List.mem_append_left _ (List.mem_append_left _ (List.mem_append_right _ (List.mem_append_right _ (List.mem_append_left _ (h))))))))))) (all_c (P := fun c => ∀ w ∈ c, w ∈ wsX8_advance) (fun w h => List.mem_cons_of_mem _ (List.mem_append_left _ (List.mem_append_left _ (List.mem_append_left _ (List.mem_append_left _ (List.mem_append_left _ (List.mem_append_left _ (List.mem_append_right _ (List.mem_append_right _ (List.mem_append_right _ (List.mem_append_left _ (h)))))))))))) (all_c (P := fun c => ∀ w ∈ c, w ∈ wsX8_advance) (fun w h => List.mem_cons_of_mem _ (List.mem_append_left _ (List.mem_append_left _ (List.mem_append_left _ (List.mem_append_left _ (List.mem_append_left _ (List.mem_append_left _ (List.mem_append_right _ (List.mem_append_right _ (List.mem_append_right _ (List.mem_append_right _ (List.mem_append_left _ (h))))))))))))) (all_c (P := fun c => ∀ w ∈ c, w ∈ wsX8_advance) (fun w h => List.mem_cons_of_mem _ (List.mem_append_left _ (List.mem_append_left _ (List.mem_append_left _ (List.mem_append_left _ (List.mem_append_left _ (List.mem_append_left _ (List.mem_append_right _ (List.mem_append_right _ (List.mem_append_right _ (List.mem_append_right _ (List.mem_append_right _ (List.mem_append_left _ (h)))))))))))))) (all_c (P := fun c => ∀ w ∈ c, w ∈ wsX8_advance) (fun w h => List.mem_cons_of_mem _ (List.mem_append_left _ (List.mem_append_left _ (List.mem_append_left _ (List.mem_append_left _ (List.mem_append_left _ (List.mem_append_left _ (List.mem_append_right _ (List.mem_append_right _ (List.mem_append_right _ (List.mem_append_right _ (List.mem_append_right _ (List.mem_append_right _ (List.mem_append_left _ (h))))))))))))))) (all_c (P := fun c => ∀ w ∈ c, w ∈ wsX8_advance) (fun w h => List.mem_cons_of_mem _ (List.mem_append_left _ (List.mem_append_left _ (List.mem_append_left _ (List.mem_append_left _ (List.mem_append_left _ (List.mem_append_left _ (List.mem_append_right _ (List.mem_append_right _ (List.mem_append_right _ (List.mem_append_right _ (List.mem_append_right _ (List.mem_append_right _ (List.mem_append_right _ (h))))))))))))))) (all_c (P := fun c => ∀ w ∈ c, w ∈ wsX8_advance) (fun w h => List.mem_cons_of_mem _ (List.mem_append_left _ (List.mem_append_left _ (List.mem_append_left _ (List.mem_append_left _ (List.mem_append_left _ (List.mem_append_right _ (h)))))))) (all_c (P := fun c => ∀ w ∈ c, w ∈ wsX8_advance) (fun w h => List.mem_cons_of_mem _ (List.mem_append_left _ (List.mem_append_left _ (List.mem_append_left _ (List.mem_append_left _ (List.mem_append_right _ (h))))))) (all_c (P := fun c => ∀ w ∈ c, w ∈ wsX8_advance) (fun w h => List.mem_cons_of_mem _ (List.mem_append_left _ (List.mem_append_left _ (List.mem_append_left _ (List.mem_append_right _ (h)))))) (all_c (P := fun c => ∀ w ∈ c, w ∈ wsX8_advance) (fun w h => List.mem_cons_of_mem _ (List.mem_append_left _ (List.mem_append_left _ (List.mem_append_right _ (h))))) (all_c (P := fun c => ∀ w ∈ c, w ∈ wsX8_advance) (fun w h => List.mem_cons_of_mem _ (List.mem_append_left _ (List.mem_append_right _ (h)))) (all_c (P := fun c => ∀ w ∈ c, w ∈ wsX8_advance) (fun w h => List.mem_cons_of_mem _ (List.mem_append_right _ (h))) (fun _ h => nomatch h)))))))))))))))
set_option maxRecDepth 20000 in
theorem ggX8_advance_X8_hasRow : GoodIn wsX8_advance wsX8_hasRow := goodIn_c chX8_advance chX8_advance_in _ [(0, 7), (0, 8), (0, 2), (0, 9), (0, 10), (8, 0), (8, 1), (8, 2), (8, 3), (8, 4), (8, 5), (8, 6), (8, 7), (8, 8), (8, 9), (9, 0), (9, 1), (9, 2), (9, 3), (9, 4), (10, 0), (10, 1), (10, 2), (10, 3), (10, 4), (11, 0), (11, 1), (11, 2), (11, 3), (11, 4), (12, 0), (12, 1), (12, 2), (12, 3), (12, 4), (12, 5), (13, 0), (13, 1), (13, 2), (13, 3), (13, 4), (13, 5), (13, 6), (13, 7)] (by rfl) (by decide +kernel)
set_option maxRecDepth 20000 in
theorem gX8_advance_X8_hasRow : GoodIn wsX8_advance (wsV RX8 52 RX8 yX8_hasRow wsX8_hasRow) := goodIn_app (goodIn_of _ (by decide +kernel)) ggX8_advance_X8_hasRow
set_option maxRecDepth 20000 in
theorem ggX8_advance_X8_nextGoingOn : GoodIn wsX8_advance wsX8_nextGoingOn := goodIn_c chX8_advance chX8_advance_in _ [(0, 14), (0, 8), (0, 9), (0, 15), (0, 16), (0, 2), (0, 17), (0, 18), (0, 19), (0, 20), (0, 21), (0, 1), (0, 22), (0, 23), (1, 0), (1, 1), (1, 2), (1, 3), (1, 4), (8, 0), (8, 1), (8, 2), (8, 3), (8, 4), (8, 5), (8, 6), (8, 7), (8, 8), (8, 9), (9, 0), (9, 1), (9, 2), (9, 3), (9, 4), (10, 0), (10, 1), (10, 2), (10, 3), (10, 4), (11, 0), (11, 1), (11, 2), (11, 3), (11, 4), (12, 0), (12, 1), (12, 2), (12, 3), (12, 4), (12, 5), (13, 0), (13, 1), (13, 2), (13, 3), (13, 4), (13, 5), (13, 6), (13, 7)] (by rfl) (by decide +kernel)
set_option maxRecDepth 20000 in
theorem gX8_advance_X8_nextGoingOn : GoodIn wsX8_advance (wsV RX8 56 RX8 yX8_nextGoingOn wsX8_nextGoingOn) := goodIn_app (goodIn_of _ (by decide +kernel)) ggX8_advance_X8_nextGoingOn
set_option maxRecDepth 20000 in
theorem ggX8_advance_X8_completes : GoodIn wsX8_advance wsX8_completes := goodIn_c chX8_advance chX8_advance_in _ [(1, 8), (1, 9), (0, 2), (0, 8), (0, 9), (1, 10), (0, 10), (1, 11), (1, 12), (1, 13), (1, 14), (0, 6), (1, 15), (0, 16), (0, 21), (0, 20), (0, 19), (0, 3), (0, 4), (0, 5), (0, 7), (1, 16), (1, 17), (1, 18), (1, 19), (1, 20), (1, 21), (1, 22), (1, 23), (2, 0), (2, 1), (2, 2), (2, 3), (2, 4), (2, 5), (2, 6), (2, 7), (2, 8), (2, 9), (2, 10), (2, 11), (2, 12), (2, 13), (2, 14), (2, 15), (2, 16), (2, 17), (2, 18), (2, 19), (2, 20), (2, 21), (2, 22), (2, 23), (3, 0), (3, 1), (3, 2), (3, 3), (3, 4), (3, 5), (3, 6), (3, 7), (3, 8), (3, 9), (3, 10), (3, 11), (3, 12), (3, 13), (3, 14), (3, 15), (3, 16), (3, 17), (3, 18), (3, 19), (3, 20), (3, 21), (3, 22), (3, 23), (4, 0), (4, 1), (4, 2), (4, 3), (4, 4), (4, 5), (4, 6), (4, 7), (4, 8), (4, 9), (4, 10), (4, 11), (4, 12), (4, 13), (4, 14), (4, 15), (4, 16), (4, 17), (4, 18), (4, 19), (4, 20), (4, 21), (4, 22), (4, 23), (5, 0), (5, 1), (5, 2), (5, 3), (5, 4), (5, 5), (5, 6), (5, 7), (5, 8), (5, 9), (5, 10), (5, 11), (5, 12), (5, 13), (5, 14), (5, 15), (5, 16), (5, 17), (5, 18), (5, 19), (5, 20), (5, 21), (5, 22), (5, 23), (6, 0), (6, 1), (6, 2), (6, 3), (6, 4), (6, 5), (6, 6), (6, 7), (6, 8), (6, 9), (6, 10), (6, 11), (6, 12), (6, 13), (6, 14), (6, 15), (6, 16), (6, 17), (6, 18), (6, 19), (6, 20), (6, 21), (6, 22), (6, 23), (7, 0), (7, 1), (7, 2), (7, 3), (7, 4), (7, 5), (7, 6), (8, 0), (8, 1), (8, 2), (8, 3), (8, 4), (8, 5), (8, 6), (8, 7), (8, 8), (8, 9), (9, 0), (9, 1), (9, 2), (9, 3), (9, 4), (10, 0), (10, 1), (10, 2), (10, 3), (10, 4), (11, 0), (11, 1), (11, 2), (11, 3), (11, 4), (12, 0), (12, 1), (12, 2), (12, 3), (12, 4), (12, 5), (13, 0), (13, 1), (13, 2), (13, 3), (13, 4), (13, 5), (13, 6), (13, 7)] (by rfl) (by decide +kernel)
set_option maxRecDepth 20000 in
theorem gX8_advance_X8_completes : GoodIn wsX8_advance (wsV RX8 60 RX8 yX8_completes wsX8_completes) := goodIn_app (goodIn_of _ (by decide +kernel)) ggX8_advance_X8_completes
theorem dX8_advance_0 : decode cX8_advance 0 = .ok (.iconst 0, 1) := by decide +kernel
theorem dX8_advance_1 : decode cX8_advance 1 = .ok (.istore_n 1, 1) := by decide +kernel
theorem dX8_advance_2 : decode cX8_advance 2 = .ok (.iload_n 1, 1) := by decide +kernel
theorem dX8_advance_3 : decode cX8_advance 3 = .ok (.ldc 51, 2) := by decide +kernel
theorem dX8_advance_5 : decode cX8_advance 5 = .ok (.if_icmp .ge 55, 3) := by decide +kernel
theorem dX8_advance_8 : decode cX8_advance 8 = .ok (.aload_n 0, 1) := by decide +kernel
theorem dX8_advance_9 : decode cX8_advance 9 = .ok (.invokevirtual 52, 3) := by decide +kernel
theorem dX8_advance_12 : decode cX8_advance 12 = .ok (.ifCond .eq 48, 3) := by decide +kernel
theorem dX8_advance_15 : decode cX8_advance 15 = .ok (.aload_n 0, 1) := by decide +kernel
theorem dX8_advance_16 : decode cX8_advance 16 = .ok (.getfield 20, 3) := by decide +kernel
theorem dX8_advance_19 : decode cX8_advance 19 = .ok (.ifCond .ne 41, 3) := by decide +kernel
theorem dX8_advance_22 : decode cX8_advance 22 = .ok (.aload_n 0, 1) := by decide +kernel
theorem dX8_advance_23 : decode cX8_advance 23 = .ok (.invokevirtual 56, 3) := by decide +kernel
theorem dX8_advance_26 : decode cX8_advance 26 = .ok (.istore_n 2, 1) := by decide +kernel
theorem dX8_advance_27 : decode cX8_advance 27 = .ok (.iload_n 2, 1) := by decide +kernel
theorem dX8_advance_28 : decode cX8_advance 28 = .ok (.ifCond .ge 16, 3) := by decide +kernel
theorem dX8_advance_31 : decode cX8_advance 31 = .ok (.aload_n 0, 1) := by decide +kernel
theorem dX8_advance_32 : decode cX8_advance 32 = .ok (.dup, 1) := by decide +kernel
theorem dX8_advance_33 : decode cX8_advance 33 = .ok (.getfield 13, 3) := by decide +kernel
theorem dX8_advance_36 : decode cX8_advance 36 = .ok (.iconst 1, 1) := by decide +kernel

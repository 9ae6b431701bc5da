def tyJ9 : Nat → FieldType := fun k => match k with
  | _ => .int
abbrev wsJ90 : List Cond := u_ws RJ9 TJ9 0
theorem nmJ9 : ∀ a, a < 0 → ∀ b, b < 0 → a ≠ b → (TJ9 a).2.1 ≠ (TJ9 b).2.1 := by decide +kernel
theorem tyJ9_ok : ∀ k, k < 0 → parseFieldDescriptor (TJ9 k).2.2.1 = some (tyJ9 k) := by decide +kernel
abbrev cJ9_max_7cf53 : ByteArray := prog_19_method_65_code
def yJ9_max_7cf53 : MethodName := ⟨RJ9, "max", "(II)I"⟩
abbrev cJ9_min_7cf53 : ByteArray := prog_19_method_69_code
def yJ9_min_7cf53 : MethodName := ⟨RJ9, "min", "(II)I"⟩
def RJ0 : String := "java/lang/String"
def TJ0 : u_T := fun k => match k with
  | _ => ("", "", "", false)
def tyJ0 : Nat → FieldType := fun k => match k with
  | _ => .int
abbrev wsJ00 : List Cond := u_ws RJ0 TJ0 0
theorem nmJ0 : ∀ a, a < 0 → ∀ b, b < 0 → a ≠ b → (TJ0 a).2.1 ≠ (TJ0 b).2.1 := by decide +kernel
theorem tyJ0_ok : ∀ k, k < 0 → parseFieldDescriptor (TJ0 k).2.2.1 = some (tyJ0 k) := by decide +kernel
def RJ10 : String := "java/lang/System"
def TJ10 : u_T := fun k => match k with
  | _ => ("", "", "", false)
def tyJ10 : Nat → FieldType := fun k => match k with
  | _ => .int
abbrev wsJ100 : List Cond := u_ws RJ10 TJ10 0
theorem nmJ10 : ∀ a, a < 0 → ∀ b, b < 0 → a ≠ b → (TJ10 a).2.1 ≠ (TJ10 b).2.1 := by decide +kernel
theorem tyJ10_ok : ∀ k, k < 0 → parseFieldDescriptor (TJ10 k).2.2.1 = some (tyJ10 k) := by decide +kernel
def RJ7 : String := "java/util/Arrays"
def TJ7 : u_T := fun k => match k with
  | _ => ("", "", "", false)
def tyJ7 : Nat → FieldType := fun k => match k with
  | _ => .int
abbrev wsJ70 : List Cond := u_ws RJ7 TJ7 0
theorem nmJ7 : ∀ a, a < 0 → ∀ b, b < 0 → a ≠ b → (TJ7 a).2.1 ≠ (TJ7 b).2.1 := by decide +kernel
theorem tyJ7_ok : ∀ k, k < 0 → parseFieldDescriptor (TJ7 k).2.2.1 = some (tyJ7 k) := by decide +kernel
abbrev cJ7_fill_53178 : ByteArray := prog_24_method_103_code
def yJ7_fill_53178 : MethodName := ⟨RJ7, "fill", "([II)V"⟩
def RL : String := "FailDiagnoseLaw"
abbrev cL_input : ByteArray := method_3_code
def yL_input : MethodName := ⟨RL, "input", "(LFailDiagnose;[J)I"⟩
abbrev cL_gate : ByteArray := method_4_code
def yL_gate : MethodName := ⟨RL, "gate", "(LFailDiagnose;III[J)I"⟩
abbrev cL_output : ByteArray := method_5_code
def yL_output : MethodName := ⟨RL, "output", "(LFailDiagnose;I[J)I"⟩
abbrev cL_patterns : ByteArray := method_6_code
def yL_patterns : MethodName := ⟨RL, "patterns", "(LFailDiagnose;I[J)I"⟩
abbrev cL_pattern : ByteArray := method_7_code
def yL_pattern : MethodName := ⟨RL, "pattern", "(LFailDiagnose;IJ[J)I"⟩
abbrev cL_row : ByteArray := method_8_code
def yL_row : MethodName := ⟨RL, "row", "(LFailDiagnose;I[J)I"⟩
abbrev cL_fail : ByteArray := method_9_code
def yL_fail : MethodName := ⟨RL, "fail", "(LFailDiagnose;IJ[J)I"⟩
abbrev cL_near : ByteArray := method_10_code
def yL_near : MethodName := ⟨RL, "near", "(LFailDiagnose;II[J)I"⟩
abbrev cL_shows : ByteArray := method_11_code
def yL_shows : MethodName := ⟨RL, "shows", "(LFailDiagnose;III[J)I"⟩
abbrev cL_suspect : ByteArray := method_12_code
def yL_suspect : MethodName := ⟨RL, "suspect", "(LFailDiagnose;II[J)I"⟩
abbrev cL_pair : ByteArray := method_13_code
def yL_pair : MethodName := ⟨RL, "pair", "(LFailDiagnose;I[J)I"⟩
abbrev cL_join : ByteArray := method_14_code
def yL_join : MethodName := ⟨RL, "join", "(LFailDiagnose;[J)I"⟩
abbrev cL_share : ByteArray := method_15_code
def yL_share : MethodName := ⟨RL, "share", "(LFailDiagnose;I[J)I"⟩
abbrev cL_chain : ByteArray := method_16_code
def yL_chain : MethodName := ⟨RL, "chain", "(LFailDiagnose;I)I"⟩
abbrev cL_caught : ByteArray := method_17_code
def yL_caught : MethodName := ⟨RL, "caught", "(LFailDiagnose;JJ[J)I"⟩
abbrev cL_span : ByteArray := method_18_code
def yL_span : MethodName := ⟨RL, "span", "(LFailDiagnose;II[J)I"⟩
abbrev cL_shape : ByteArray := method_19_code
def yL_shape : MethodName := ⟨RL, "shape", "(LFailDiagnose;IIIII[J)I"⟩
abbrev cL_area : ByteArray := method_20_code
def yL_area : MethodName := ⟨RL, "area", "(LFailDiagnose;II[J)I"⟩
abbrev cL_common : ByteArray := method_21_code
def yL_common : MethodName := ⟨RL, "common", "(LFailDiagnose;III[J)I"⟩
abbrev cL_count : ByteArray := method_22_code
def yL_count : MethodName := ⟨RL, "count", "(LFailDiagnose;I[J)I"⟩
abbrev cL_law : ByteArray := code
def yL_law : MethodName := ⟨RL, "law", "([I)Z"⟩
noncomputable def wsX9_init : List Cond := .code yX9_init cX9_init 1 none :: ([.methodLink RX9 1 objectInit, .instanceMethod objectInit, .code objectInit ⟨#[0xb1]⟩ 1 none])
noncomputable def wsX0_init : List Cond := .code yX0_init cX0_init 1 none :: ([.methodLink RX0 3 objectInit, .instanceMethod objectInit, .code objectInit ⟨#[0xb1]⟩ 1 none, .classLink RX0 9 RX9, .instantiable RX9 3, .initialized RX9, .fieldLink RX0 12 "FailDiagnose$BestPair" "tally" "LFailDiagnose$Tally;", .fieldLink RX0 18 "FailDiagnose$BestPair" "first" "I", .fieldLink RX0 22 "FailDiagnose$BestPair" "second" "I", .instanceMethod yX9_init, .code yX9_init cX9_init 1 none, .methodLink RX9 1 objectInit] ++ wsX90 ++ wsX00)
noncomputable def wsX0_first : List Cond := .code yX0_first cX0_first 1 (some .int) :: ([.fieldLink RX0 18 "FailDiagnose$BestPair" "first" "I"] ++ wsX00)
noncomputable def wsX0_second : List Cond := .code yX0_second cX0_second 1 (some .int) :: ([.fieldLink RX0 22 "FailDiagnose$BestPair" "second" "I"] ++ wsX00)
noncomputable def wsX0_tally : List Cond := .code yX0_tally cX0_tally 1 (some (.object "FailDiagnose$Tally")) :: ([.fieldLink RX0 12 "FailDiagnose$BestPair" "tally" "LFailDiagnose$Tally;"] ++ wsX00)
noncomputable def wsX9_sum : List Cond := .code yX9_sum cX9_sum 1 (some .int) :: ([.fieldLink RX9 13 "FailDiagnose$Tally" "missed" "I", .fieldLink RX9 16 "FailDiagnose$Tally" "wrong" "I"] ++ wsX90)
noncomputable def wsX9_copy : List Cond := .code yX9_copy cX9_copy 2 none :: ([.fieldLink RX9 7 "FailDiagnose$Tally" "explained" "I", .fieldLink RX9 13 "FailDiagnose$Tally" "missed" "I", .fieldLink RX9 16 "FailDiagnose$Tally" "wrong" "I"] ++ wsX90)
noncomputable def wsX0_offer : List Cond := .code yX0_offer cX0_offer 4 none :: ([.fieldLink RX0 18 "FailDiagnose$BestPair" "first" "I", .fieldLink RX0 12 "FailDiagnose$BestPair" "tally" "LFailDiagnose$Tally;", .fieldLink RX0 22 "FailDiagnose$BestPair" "second" "I", .methodLink RX0 25 yX9_sum, .instanceMethod yX9_sum, .selects RX9 yX9_sum yX9_sum, .initialized RX9, .code yX9_sum cX9_sum 1 (some .int), .fieldLink RX9 13 "FailDiagnose$Tally" "missed" "I", .fieldLink RX9 16 "FailDiagnose$Tally" "wrong" "I", .methodLink RX0 29 yX9_copy, .instanceMethod yX9_copy, .selects RX9 yX9_copy yX9_copy, .code yX9_copy cX9_copy 2 none, .fieldLink RX9 7 "FailDiagnose$Tally" "explained" "I"] ++ wsX00 ++ wsX90)
noncomputable def wsX9_reset : List Cond := .code yX9_reset cX9_reset 1 none :: ([.fieldLink RX9 7 "FailDiagnose$Tally" "explained" "I", .fieldLink RX9 13 "FailDiagnose$Tally" "missed" "I", .fieldLink RX9 16 "FailDiagnose$Tally" "wrong" "I"] ++ wsX90)
noncomputable def wsX0_reset : List Cond := .code yX0_reset cX0_reset 1 none :: ([.fieldLink RX0 18 "FailDiagnose$BestPair" "first" "I", .fieldLink RX0 22 "FailDiagnose$BestPair" "second" "I", .fieldLink RX0 12 "FailDiagnose$BestPair" "tally" "LFailDiagnose$Tally;", .methodLink RX0 33 yX9_reset, .instanceMethod yX9_reset, .selects RX9 yX9_reset yX9_reset, .initialized RX9, .code yX9_reset cX9_reset 1 none, .fieldLink RX9 7 "FailDiagnose$Tally" "explained" "I", .fieldLink RX9 13 "FailDiagnose$Tally" "missed" "I", .fieldLink RX9 16 "FailDiagnose$Tally" "wrong" "I"] ++ wsX00 ++ wsX90)
noncomputable def wsX1_init : List Cond := .code yX1_init cX1_init 1 none :: ([.methodLink RX1 3 objectInit, .instanceMethod objectInit, .code objectInit ⟨#[0xb1]⟩ 1 none, .arrayClass .long, .fieldLink RX1 9 "FailDiagnose$Chain" "should" "[J", .fieldLink RX1 15 "FailDiagnose$Chain" "came" "[J"] ++ wsX10)
noncomputable def wsX1_begun : List Cond := .code yX1_begun cX1_begun 1 (some .boolean) :: ([.fieldLink RX1 18 "FailDiagnose$Chain" "size" "I"] ++ wsX10)
noncomputable def wsX1_rows : List Cond := .code yX1_rows cX1_rows 1 (some .int) :: ([.fieldLink RX1 22 "FailDiagnose$Chain" "rows" "I"] ++ wsX10)
noncomputable def wsX1_begin : List Cond := .code yX1_begin cX1_begin 2 none :: ([.fieldLink RX1 18 "FailDiagnose$Chain" "size" "I", .fieldLink RX1 22 "FailDiagnose$Chain" "rows" "I"] ++ wsX10)
noncomputable def wsX1_addRow : List Cond := .code yX1_addRow cX1_addRow 5 (some .int) :: ([.fieldLink RX1 9 "FailDiagnose$Chain" "should" "[J", .fieldLink RX1 22 "FailDiagnose$Chain" "rows" "I", .fieldLink RX1 15 "FailDiagnose$Chain" "came" "[J"] ++ wsX10)
noncomputable def wsX1_upTo : List Cond := .code yX1_upTo cX1_upTo 1 (some .long) :: ([.constantLong RX1 33 (-1)])
noncomputable def wsX1_mayBeStuck : List Cond := .code yX1_mayBeStuck cX1_mayBeStuck 12 (some .boolean) :: ([.fieldLink RX1 18 "FailDiagnose$Chain" "size" "I", .fieldLink RX1 22 "FailDiagnose$Chain" "rows" "I", .fieldLink RX1 9 "FailDiagnose$Chain" "should" "[J", .constantLong RX1 33 (-1), .fieldLink RX1 15 "FailDiagnose$Chain" "came" "[J", .methodLink RX1 29 yX1_upTo, .static yX1_upTo, .initialized RX1, .code yX1_upTo cX1_upTo 1 (some .long)] ++ wsX10)
noncomputable def wsX1_leastStuckAt : List Cond := .code yX1_leastStuckAt cX1_leastStuckAt 3 (some .int) :: ([.fieldLink RX1 18 "FailDiagnose$Chain" "size" "I", .methodLink RX1 25 yX1_mayBeStuck, .instanceMethod yX1_mayBeStuck, .selects RX1 yX1_mayBeStuck yX1_mayBeStuck, .initialized RX1, .code yX1_mayBeStuck cX1_mayBeStuck 12 (some .boolean), .fieldLink RX1 22 "FailDiagnose$Chain" "rows" "I", .fieldLink RX1 9 "FailDiagnose$Chain" "should" "[J", .constantLong RX1 33 (-1), .fieldLink RX1 15 "FailDiagnose$Chain" "came" "[J", .methodLink RX1 29 yX1_upTo, .static yX1_upTo, .code yX1_upTo cX1_upTo 1 (some .long)] ++ wsX10)
noncomputable def wsX1_greatestStuckAt : List Cond := .code yX1_greatestStuckAt cX1_greatestStuckAt 3 (some .int) :: ([.fieldLink RX1 18 "FailDiagnose$Chain" "size" "I", .methodLink RX1 25 yX1_mayBeStuck, .instanceMethod yX1_mayBeStuck, .selects RX1 yX1_mayBeStuck yX1_mayBeStuck, .initialized RX1, .code yX1_mayBeStuck cX1_mayBeStuck 12 (some .boolean), .fieldLink RX1 22 "FailDiagnose$Chain" "rows" "I", .fieldLink RX1 9 "FailDiagnose$Chain" "should" "[J", .constantLong RX1 33 (-1), .fieldLink RX1 15 "FailDiagnose$Chain" "came" "[J", .methodLink RX1 29 yX1_upTo, .static yX1_upTo, .code yX1_upTo cX1_upTo 1 (some .long)] ++ wsX10)
noncomputable def wsX1_forget : List Cond := .code yX1_forget cX1_forget 1 none :: ([.fieldLink RX1 18 "FailDiagnose$Chain" "size" "I", .fieldLink RX1 22 "FailDiagnose$Chain" "rows" "I"] ++ wsX10)
noncomputable def wsX2_init : List Cond := .code yX2_init cX2_init 1 none :: ([.methodLink RX2 3 objectInit, .instanceMethod objectInit, .code objectInit ⟨#[0xb1]⟩ 1 none, .arrayClass .int, .fieldLink RX2 9 "FailDiagnose$Circuit" "kinds" "[I", .fieldLink RX2 15 "FailDiagnose$Circuit" "firsts" "[I", .fieldLink RX2 18 "FailDiagnose$Circuit" "seconds" "[I", .arrayClass .long, .fieldLink RX2 21 "FailDiagnose$Circuit" "goodRows" "[J", .fieldLink RX2 25 "FailDiagnose$Circuit" "faultyRows" "[J", .arrayClass .boolean, .fieldLink RX2 28 "FailDiagnose$Circuit" "reached" "[Z"] ++ wsX20)
noncomputable def wsX2_nets : List Cond := .code yX2_nets cX2_nets 1 (some .int) :: ([.fieldLink RX2 32 "FailDiagnose$Circuit" "nets" "I"] ++ wsX20)

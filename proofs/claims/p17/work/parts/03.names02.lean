def RX5 : String := "FailDiagnose$Outputs"
def TX5 : u_T := fun k => match k with
  | 0 => ("FailDiagnose$Outputs", "nets", "[I", true)
  | 1 => ("FailDiagnose$Outputs", "fails", "[J", true)
  | _ => ("FailDiagnose$Outputs", "size", "I", false)
def tyX5 : Nat → FieldType := fun k => match k with
  | 0 => .array .int
  | 1 => .array .long
  | _ => .int
abbrev wsX50 : List Cond := u_ws RX5 TX5 3
theorem nmX5 : ∀ a, a < 3 → ∀ b, b < 3 → a ≠ b → (TX5 a).2.1 ≠ (TX5 b).2.1 := by decide +kernel
theorem tyX5_ok : ∀ k, k < 3 → parseFieldDescriptor (TX5 k).2.2.1 = some (tyX5 k) := by decide +kernel
abbrev cX5_init : ByteArray := prog_7_method_1_code
def yX5_init : MethodName := ⟨RX5, "<init>", "()V"⟩
abbrev cX5_size : ByteArray := prog_7_method_2_code
def yX5_size : MethodName := ⟨RX5, "size", "()I"⟩
abbrev cX5_net : ByteArray := prog_7_method_3_code
def yX5_net : MethodName := ⟨RX5, "net", "(I)I"⟩
abbrev cX5_fails : ByteArray := prog_7_method_4_code
def yX5_fails : MethodName := ⟨RX5, "fails", "(I)J"⟩
abbrev cX5_add : ByteArray := prog_7_method_5_code
def yX5_add : MethodName := ⟨RX5, "add", "(I)I"⟩
abbrev cX5_putFails : ByteArray := prog_7_method_6_code
def yX5_putFails : MethodName := ⟨RX5, "putFails", "(IJ)J"⟩
abbrev cX5_forget : ByteArray := prog_7_method_7_code
def yX5_forget : MethodName := ⟨RX5, "forget", "()V"⟩
def RX6 : String := "FailDiagnose$Shapes"
def TX6 : u_T := fun k => match k with
  | 0 => ("FailDiagnose$Shapes", "nets", "[I", true)
  | 1 => ("FailDiagnose$Shapes", "lefts", "[I", true)
  | 2 => ("FailDiagnose$Shapes", "bottoms", "[I", true)
  | 3 => ("FailDiagnose$Shapes", "rights", "[I", true)
  | 4 => ("FailDiagnose$Shapes", "tops", "[I", true)
  | 5 => ("FailDiagnose$Shapes", "chosenByBottom", "[I", true)
  | 6 => ("FailDiagnose$Shapes", "edges", "[I", true)
  | 7 => ("FailDiagnose$Shapes", "size", "I", false)
  | _ => ("FailDiagnose$Shapes", "chosen", "I", false)
def tyX6 : Nat → FieldType := fun k => match k with
  | 0 => .array .int
  | 1 => .array .int
  | 2 => .array .int
  | 3 => .array .int
  | 4 => .array .int
  | 5 => .array .int
  | 6 => .array .int
  | 7 => .int
  | _ => .int
abbrev wsX60 : List Cond := u_ws RX6 TX6 9
theorem nmX6 : ∀ a, a < 9 → ∀ b, b < 9 → a ≠ b → (TX6 a).2.1 ≠ (TX6 b).2.1 := by decide +kernel
theorem tyX6_ok : ∀ k, k < 9 → parseFieldDescriptor (TX6 k).2.2.1 = some (tyX6 k) := by decide +kernel
abbrev cX6_init : ByteArray := prog_8_method_1_code
def yX6_init : MethodName := ⟨RX6, "<init>", "()V"⟩
abbrev cX6_size : ByteArray := prog_8_method_2_code
def yX6_size : MethodName := ⟨RX6, "size", "()I"⟩
abbrev cX6_add : ByteArray := prog_8_method_3_code
def yX6_add : MethodName := ⟨RX6, "add", "(IIIII)I"⟩
abbrev cX6_shapesOf : ByteArray := prog_8_method_4_code
def yX6_shapesOf : MethodName := ⟨RX6, "shapesOf", "(I)I"⟩
abbrev cX6_coveredByBoth : ByteArray := prog_8_method_5_code
def yX6_coveredByBoth : MethodName := ⟨RX6, "coveredByBoth", "(III)I"⟩
abbrev cX6_coveredByEither : ByteArray := prog_8_method_6_code
def yX6_coveredByEither : MethodName := ⟨RX6, "coveredByEither", "(III)I"⟩
abbrev cX6_choose : ByteArray := prog_8_method_7_code
def yX6_choose : MethodName := ⟨RX6, "choose", "(III)V"⟩
abbrev cX6_putEdge : ByteArray := prog_8_method_8_code
def yX6_putEdge : MethodName := ⟨RX6, "putEdge", "(II)V"⟩
abbrev cX6_putByBottom : ByteArray := prog_8_method_9_code
def yX6_putByBottom : MethodName := ⟨RX6, "putByBottom", "(I)V"⟩
abbrev cX6_heightAt : ByteArray := prog_8_method_10_code
def yX6_heightAt : MethodName := ⟨RX6, "heightAt", "(II)I"⟩
abbrev cX6_forget : ByteArray := prog_8_method_11_code
def yX6_forget : MethodName := ⟨RX6, "forget", "()V"⟩
def RX7 : String := "FailDiagnose$Shares"
def TX7 : u_T := fun k => match k with
  | 0 => ("FailDiagnose$Shares", "given", "[I", true)
  | _ => ("FailDiagnose$Shares", "chips", "I", false)
def tyX7 : Nat → FieldType := fun k => match k with
  | 0 => .array .int
  | _ => .int
abbrev wsX70 : List Cond := u_ws RX7 TX7 2
theorem nmX7 : ∀ a, a < 2 → ∀ b, b < 2 → a ≠ b → (TX7 a).2.1 ≠ (TX7 b).2.1 := by decide +kernel
theorem tyX7_ok : ∀ k, k < 2 → parseFieldDescriptor (TX7 k).2.2.1 = some (tyX7 k) := by decide +kernel
abbrev cX7_init : ByteArray := prog_9_method_1_code
def yX7_init : MethodName := ⟨RX7, "<init>", "()V"⟩
abbrev cX7_of : ByteArray := prog_9_method_2_code
def yX7_of : MethodName := ⟨RX7, "of", "(I)I"⟩
abbrev cX7_chips : ByteArray := prog_9_method_3_code
def yX7_chips : MethodName := ⟨RX7, "chips", "()I"⟩
abbrev cX7_countChip : ByteArray := prog_9_method_4_code
def yX7_countChip : MethodName := ⟨RX7, "countChip", "()V"⟩
abbrev cX7_give : ByteArray := prog_9_method_5_code
def yX7_give : MethodName := ⟨RX7, "give", "(II)V"⟩
abbrev cX7_forget : ByteArray := prog_9_method_6_code
def yX7_forget : MethodName := ⟨RX7, "forget", "()V"⟩
def RX8 : String := "FailDiagnose$Suspects"
def TX8 : u_T := fun k => match k with
  | 0 => ("FailDiagnose$Suspects", "kinds", "[I", true)
  | 1 => ("FailDiagnose$Suspects", "numbers", "[I", true)
  | 2 => ("FailDiagnose$Suspects", "explained", "[I", true)
  | 3 => ("FailDiagnose$Suspects", "missed", "[I", true)
  | 4 => ("FailDiagnose$Suspects", "wrong", "[I", true)
  | 5 => ("FailDiagnose$Suspects", "order", "[I", true)
  | _ => ("FailDiagnose$Suspects", "size", "I", false)

def RX0 : String := "AncestryNet$Queue"
def TX0 : u_T := fun k => match k with
  | 0 => ("AncestryNet$Queue", "ranks", "[I", true)
  | 1 => ("AncestryNet$Queue", "keys", "[I", true)
  | 2 => ("AncestryNet$Queue", "numbers", "[I", true)
  | _ => ("AncestryNet$Queue", "size", "I", false)
def tyX0 : Nat → FieldType := fun k => match k with
  | 0 => .array .int
  | 1 => .array .int
  | 2 => .array .int
  | _ => .int
abbrev wsX00 : List Cond := u_ws RX0 TX0 4
theorem nmX0 : ∀ a, a < 4 → ∀ b, b < 4 → a ≠ b → (TX0 a).2.1 ≠ (TX0 b).2.1 := by decide +kernel
theorem tyX0_ok : ∀ k, k < 4 → parseFieldDescriptor (TX0 k).2.2.1 = some (tyX0 k) := by decide +kernel
abbrev cX0_init : ByteArray := prog_2_method_1_code
def yX0_init : MethodName := ⟨RX0, "<init>", "()V"⟩
def RX1 : String := "AncestryNet"
def TX1 : u_T := fun k => match k with
  | 0 => ("AncestryNet", "commits", "I", false)
  | 1 => ("AncestryNet", "times", "[I", true)
  | 2 => ("AncestryNet", "keys", "[I", true)
  | 3 => ("AncestryNet", "generations", "[I", true)
  | 4 => ("AncestryNet", "parentCounts", "[I", true)
  | 5 => ("AncestryNet", "parents", "[I", true)
  | 6 => ("AncestryNet", "isParent", "[Z", true)
  | 7 => ("AncestryNet", "tips", "[I", true)
  | 8 => ("AncestryNet", "marks", "[I", true)
  | 9 => ("AncestryNet", "untoldLinks", "[I", true)
  | _ => ("AncestryNet", "queue", "LAncestryNet$Queue;", true)
def tyX1 : Nat → FieldType := fun k => match k with
  | 0 => .int
  | 1 => .array .int
  | 2 => .array .int
  | 3 => .array .int
  | 4 => .array .int
  | 5 => .array .int
  | 6 => .array .boolean
  | 7 => .array .int
  | 8 => .array .int
  | 9 => .array .int
  | _ => .object "AncestryNet$Queue"
abbrev wsX10 : List Cond := u_ws RX1 TX1 11
theorem nmX1 : ∀ a, a < 11 → ∀ b, b < 11 → a ≠ b → (TX1 a).2.1 ≠ (TX1 b).2.1 := by decide +kernel
theorem tyX1_ok : ∀ k, k < 11 → parseFieldDescriptor (TX1 k).2.2.1 = some (tyX1 k) := by decide +kernel
abbrev cX1_init : ByteArray := prog_1_method_1_code
def yX1_init : MethodName := ⟨RX1, "<init>", "()V"⟩
abbrev cX1_add : ByteArray := prog_1_method_2_code
def yX1_add : MethodName := ⟨RX1, "add", "(IIIII)I"⟩
abbrev cX1_count : ByteArray := prog_1_method_11_code
def yX1_count : MethodName := ⟨RX1, "count", "(I)I"⟩
abbrev cX1_checkCommit : ByteArray := prog_1_method_12_code
def yX1_checkCommit : MethodName := ⟨RX1, "checkCommit", "(I)V"⟩
abbrev cX1_checkParentOrNone : ByteArray := prog_1_method_13_code
def yX1_checkParentOrNone : MethodName := ⟨RX1, "checkParentOrNone", "(I)V"⟩
abbrev cX1_sideOf : ByteArray := prog_1_method_16_code
def yX1_sideOf : MethodName := ⟨RX1, "sideOf", "(I)I"⟩
abbrev cX1_parentOf : ByteArray := prog_1_method_17_code
def yX1_parentOf : MethodName := ⟨RX1, "parentOf", "(II)I"⟩
abbrev cX1_linkUnlessNone : ByteArray := prog_1_method_18_code
def yX1_linkUnlessNone : MethodName := ⟨RX1, "linkUnlessNone", "(II)V"⟩
abbrev cX1_link : ByteArray := prog_1_method_19_code
def yX1_link : MethodName := ⟨RX1, "link", "(II)V"⟩
abbrev cX1_markHeld : ByteArray := prog_1_method_22_code
def yX1_markHeld : MethodName := ⟨RX1, "markHeld", "()V"⟩
abbrev cX1_spreadMarks : ByteArray := prog_1_method_23_code
def yX1_spreadMarks : MethodName := ⟨RX1, "spreadMarks", "()V"⟩
abbrev cX1_isCommon : ByteArray := prog_1_method_24_code
def yX1_isCommon : MethodName := ⟨RX1, "isCommon", "(I)Z"⟩
abbrev cX1_tipsOf : ByteArray := prog_1_method_31_code
def yX1_tipsOf : MethodName := ⟨RX1, "tipsOf", "(I)I"⟩
abbrev cX1_greatestGeneration : ByteArray := prog_1_method_32_code
def yX1_greatestGeneration : MethodName := ⟨RX1, "greatestGeneration", "()I"⟩
abbrev cX1_childlessCommits : ByteArray := prog_1_method_33_code
def yX1_childlessCommits : MethodName := ⟨RX1, "childlessCommits", "()I"⟩
abbrev cX1_commonCommits : ByteArray := prog_1_method_34_code
def yX1_commonCommits : MethodName := ⟨RX1, "commonCommits", "()I"⟩
abbrev cX1_misplacedCommits : ByteArray := prog_1_method_35_code
def yX1_misplacedCommits : MethodName := ⟨RX1, "misplacedCommits", "()I"⟩
abbrev cX1_hasParentNotBelow : ByteArray := prog_1_method_36_code
def yX1_hasParentNotBelow : MethodName := ⟨RX1, "hasParentNotBelow", "(I)Z"⟩
def RX2 : String := "AncestryNetModel"
def TX2 : u_T := fun k => match k with
  | _ => ("", "", "", false)
def tyX2 : Nat → FieldType := fun k => match k with
  | _ => .int
abbrev wsX20 : List Cond := u_ws RX2 TX2 0
theorem nmX2 : ∀ a, a < 0 → ∀ b, b < 0 → a ≠ b → (TX2 a).2.1 ≠ (TX2 b).2.1 := by decide +kernel
theorem tyX2_ok : ∀ k, k < 0 → parseFieldDescriptor (TX2 k).2.2.1 = some (tyX2 k) := by decide +kernel
def RJ6 : String := "java/lang/Integer"
def TJ6 : u_T := fun k => match k with
  | _ => ("", "", "", false)
def tyJ6 : Nat → FieldType := fun k => match k with
  | _ => .int
abbrev wsJ60 : List Cond := u_ws RJ6 TJ6 0
theorem nmJ6 : ∀ a, a < 0 → ∀ b, b < 0 → a ≠ b → (TJ6 a).2.1 ≠ (TJ6 b).2.1 := by decide +kernel
theorem tyJ6_ok : ∀ k, k < 0 → parseFieldDescriptor (TJ6 k).2.2.1 = some (tyJ6 k) := by decide +kernel
def RJ9 : String := "java/lang/Math"
def TJ9 : u_T := fun k => match k with
  | _ => ("", "", "", false)
def tyJ9 : Nat → FieldType := fun k => match k with
  | _ => .int
abbrev wsJ90 : List Cond := u_ws RJ9 TJ9 0
theorem nmJ9 : ∀ a, a < 0 → ∀ b, b < 0 → a ≠ b → (TJ9 a).2.1 ≠ (TJ9 b).2.1 := by decide +kernel
theorem tyJ9_ok : ∀ k, k < 0 → parseFieldDescriptor (TJ9 k).2.2.1 = some (tyJ9 k) := by decide +kernel
abbrev cJ9_max_7cf53 : ByteArray := prog_9_method_65_code
def yJ9_max_7cf53 : MethodName := ⟨RJ9, "max", "(II)I"⟩
def RJ0 : String := "java/lang/String"
def TJ0 : u_T := fun k => match k with
  | _ => ("", "", "", false)
def tyJ0 : Nat → FieldType := fun k => match k with
  | _ => .int
abbrev wsJ00 : List Cond := u_ws RJ0 TJ0 0
theorem nmJ0 : ∀ a, a < 0 → ∀ b, b < 0 → a ≠ b → (TJ0 a).2.1 ≠ (TJ0 b).2.1 := by decide +kernel
theorem tyJ0_ok : ∀ k, k < 0 → parseFieldDescriptor (TJ0 k).2.2.1 = some (tyJ0 k) := by decide +kernel
def RL : String := "AncestryNetLaw"
abbrev cL_add : ByteArray := method_3_code
def yL_add : MethodName := ⟨RL, "add", "(LAncestryNet;IIIII[J)I"⟩
abbrev cL_under : ByteArray := method_4_code
def yL_under : MethodName := ⟨RL, "under", "(LAncestryNet;II[J)I"⟩
abbrev cL_law : ByteArray := code
def yL_law : MethodName := ⟨RL, "law", "([I)Z"⟩

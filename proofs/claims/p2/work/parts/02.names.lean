def RJ6 : String := "java/lang/Integer"
def RJ7 : String := "java/util/Arrays"
def RJ9 : String := "java/lang/Math"
def RJ10 : String := "java/lang/System"
def RX0 : String := "SwapPress$Book"
def RX1 : String := "SwapPress$Flows"
def RX2 : String := "SwapPress$Groups"
def RX3 : String := "SwapPress$Names"
def RX4 : String := "SwapPress$Page"
def RX5 : String := "SwapPress$Past"
def RX6 : String := "SwapPress$Reader"
def RX7 : String := "SwapPress$Rings"
def RX8 : String := "SwapPress$Row"
def RX9 : String := "SwapPress$Solver"
def RX10 : String := "SwapPress$Tape"
def RX11 : String := "SwapPress"
def RX12 : String := "SwapPressModel"
def TX0 : u_T := fun k => match k with
  | 0 => ("SwapPress$Book", "from", "[I", true)
  | 1 => ("SwapPress$Book", "to", "[I", true)
  | 2 => ("SwapPress$Book", "kind", "[I", true)
  | 3 => ("SwapPress$Book", "amount", "[J", true)
  | 4 => ("SwapPress$Book", "kept", "[Z", true)
  | 5 => ("SwapPress$Book", "caps", "[I", true)
  | 6 => ("SwapPress$Book", "size", "I", false)
  | _ => ("SwapPress$Book", "boundMode", "I", false)
def tyX0 : Nat → FieldType := fun k => match k with
  | 0 => .array .int
  | 1 => .array .int
  | 2 => .array .int
  | 3 => .array .long
  | 4 => .array .boolean
  | 5 => .array .int
  | 6 => .int
  | _ => .int
theorem nmX0 : ∀ a, a < 8 → ∀ b, b < 8 → a ≠ b → (TX0 a).2.1 ≠ (TX0 b).2.1 := by decide +kernel
theorem tyX0_ok : ∀ k, k < 8 → parseFieldDescriptor (TX0 k).2.2.1 = some (tyX0 k) := by decide +kernel
def TX1 : u_T := fun k => match k with
  | 0 => ("SwapPress$Flows", "cells", "[J", true)
  | _ => ("SwapPress$Flows", "parties", "I", false)
def tyX1 : Nat → FieldType := fun k => match k with
  | 0 => .array .long
  | _ => .int
theorem nmX1 : ∀ a, a < 2 → ∀ b, b < 2 → a ≠ b → (TX1 a).2.1 ≠ (TX1 b).2.1 := by decide +kernel
theorem tyX1_ok : ∀ k, k < 2 → parseFieldDescriptor (TX1 k).2.2.1 = some (tyX1 k) := by decide +kernel
def TX2 : u_T := fun k => match k with
  | 0 => ("SwapPress$Groups", "size", "I", false)
  | 1 => ("SwapPress$Groups", "most", "I", false)
  | 2 => ("SwapPress$Groups", "nets", "[J", true)
  | 3 => ("SwapPress$Groups", "sums", "[J", true)
  | _ => ("SwapPress$Groups", "best", "[I", true)
def tyX2 : Nat → FieldType := fun k => match k with
  | 0 => .int
  | 1 => .int
  | 2 => .array .long
  | 3 => .array .long
  | _ => .array .int
theorem nmX2 : ∀ a, a < 5 → ∀ b, b < 5 → a ≠ b → (TX2 a).2.1 ≠ (TX2 b).2.1 := by decide +kernel
theorem tyX2_ok : ∀ k, k < 5 → parseFieldDescriptor (TX2 k).2.2.1 = some (tyX2 k) := by decide +kernel
def TX3 : u_T := fun k => match k with
  | 0 => ("SwapPress$Names", "letters", "[B", true)
  | 1 => ("SwapPress$Names", "lengths", "[I", true)
  | 2 => ("SwapPress$Names", "parties", "I", false)
  | _ => ("SwapPress$Names", "kinds", "I", false)
def tyX3 : Nat → FieldType := fun k => match k with
  | 0 => .array .byte
  | 1 => .array .int
  | 2 => .int
  | _ => .int
theorem nmX3 : ∀ a, a < 4 → ∀ b, b < 4 → a ≠ b → (TX3 a).2.1 ≠ (TX3 b).2.1 := by decide +kernel
theorem tyX3_ok : ∀ k, k < 4 → parseFieldDescriptor (TX3 k).2.2.1 = some (tyX3 k) := by decide +kernel
def TX4 : u_T := fun k => match k with
  | 0 => ("SwapPress$Page", "bytes", "[B", true)
  | 1 => ("SwapPress$Page", "length", "I", false)
  | _ => ("SwapPress$Page", "digits", "[B", true)
def tyX4 : Nat → FieldType := fun k => match k with
  | 0 => .array .byte
  | 1 => .int
  | _ => .array .byte
theorem nmX4 : ∀ a, a < 3 → ∀ b, b < 3 → a ≠ b → (TX4 a).2.1 ≠ (TX4 b).2.1 := by decide +kernel
theorem tyX4_ok : ∀ k, k < 3 → parseFieldDescriptor (TX4 k).2.2.1 = some (tyX4 k) := by decide +kernel
def TX5 : u_T := fun k => match k with
  | 0 => ("SwapPress$Past", "books", "[LSwapPress$Book;", true)
  | _ => ("SwapPress$Past", "size", "I", false)
def tyX5 : Nat → FieldType := fun k => match k with
  | 0 => .array (.object "SwapPress$Book")
  | _ => .int
theorem nmX5 : ∀ a, a < 2 → ∀ b, b < 2 → a ≠ b → (TX5 a).2.1 ≠ (TX5 b).2.1 := by decide +kernel
theorem tyX5_ok : ∀ k, k < 2 → parseFieldDescriptor (TX5 k).2.2.1 = some (tyX5 k) := by decide +kernel
def TX6 : u_T := fun k => match k with
  | 0 => ("SwapPress$Reader", "fault", "I", false)
  | 1 => ("SwapPress$Reader", "place", "I", false)
  | 2 => ("SwapPress$Reader", "names", "LSwapPress$Names;", false)
  | 3 => ("SwapPress$Reader", "book", "LSwapPress$Book;", false)
  | 4 => ("SwapPress$Reader", "text", "[B", true)
  | 5 => ("SwapPress$Reader", "end", "I", false)
  | 6 => ("SwapPress$Reader", "modeTold", "Z", false)
  | 7 => ("SwapPress$Reader", "token", "I", false)
  | 8 => ("SwapPress$Reader", "tokenAt", "I", false)
  | _ => ("SwapPress$Reader", "tokenEnd", "I", false)
def tyX6 : Nat → FieldType := fun k => match k with
  | 0 => .int
  | 1 => .int
  | 2 => .object "SwapPress$Names"
  | 3 => .object "SwapPress$Book"
  | 4 => .array .byte
  | 5 => .int
  | 6 => .boolean
  | 7 => .int
  | 8 => .int
  | _ => .int
theorem nmX6 : ∀ a, a < 10 → ∀ b, b < 10 → a ≠ b → (TX6 a).2.1 ≠ (TX6 b).2.1 := by decide +kernel
theorem tyX6_ok : ∀ k, k < 10 → parseFieldDescriptor (TX6 k).2.2.1 = some (tyX6 k) := by decide +kernel
def TX7 : u_T := fun k => match k with
  | 0 => ("SwapPress$Rings", "party", "[I", true)
  | 1 => ("SwapPress$Rings", "size", "I", false)
  | 2 => ("SwapPress$Rings", "takenAmount", "J", false)
  | 3 => ("SwapPress$Rings", "takenRings", "I", false)
  | 4 => ("SwapPress$Rings", "stepsHome", "[I", true)
  | _ => ("SwapPress$Rings", "queue", "[I", true)
def tyX7 : Nat → FieldType := fun k => match k with
  | 0 => .array .int
  | 1 => .int
  | 2 => .long
  | 3 => .int
  | 4 => .array .int
  | _ => .array .int
theorem nmX7 : ∀ a, a < 6 → ∀ b, b < 6 → a ≠ b → (TX7 a).2.1 ≠ (TX7 b).2.1 := by decide +kernel
theorem tyX7_ok : ∀ k, k < 6 → parseFieldDescriptor (TX7 k).2.2.1 = some (tyX7 k) := by decide +kernel
def TX8 : u_T := fun k => match k with
  | 0 => ("SwapPress$Row", "party", "[I", true)
  | 1 => ("SwapPress$Row", "size", "I", false)
  | _ => ("SwapPress$Row", "longest", "[I", true)
def tyX8 : Nat → FieldType := fun k => match k with
  | 0 => .array .int
  | 1 => .int
  | _ => .array .int
theorem nmX8 : ∀ a, a < 3 → ∀ b, b < 3 → a ≠ b → (TX8 a).2.1 ≠ (TX8 b).2.1 := by decide +kernel
theorem tyX8_ok : ∀ k, k < 3 → parseFieldDescriptor (TX8 k).2.2.1 = some (tyX8 k) := by decide +kernel
def TX9 : u_T := fun k => match k with
  | 0 => ("SwapPress$Solver", "bounds", "[J", true)
  | 1 => ("SwapPress$Solver", "first", "[J", true)
  | 2 => ("SwapPress$Solver", "possible", "Z", false)
  | 3 => ("SwapPress$Solver", "sum", "J", false)
  | 4 => ("SwapPress$Solver", "throughBounds", "[J", true)
  | 5 => ("SwapPress$Solver", "nets", "[J", true)
  | 6 => ("SwapPress$Solver", "room", "[J", true)
  | 7 => ("SwapPress$Solver", "label", "[I", true)
  | 8 => ("SwapPress$Solver", "left", "[J", true)
  | 9 => ("SwapPress$Solver", "before", "[I", true)
  | 10 => ("SwapPress$Solver", "queue", "[I", true)
  | 11 => ("SwapPress$Solver", "parties", "I", false)
  | _ => ("SwapPress$Solver", "nodes", "I", false)
def tyX9 : Nat → FieldType := fun k => match k with
  | 0 => .array .long
  | 1 => .array .long
  | 2 => .boolean
  | 3 => .long
  | 4 => .array .long
  | 5 => .array .long
  | 6 => .array .long
  | 7 => .array .int
  | 8 => .array .long
  | 9 => .array .int
  | 10 => .array .int
  | 11 => .int
  | _ => .int
theorem nmX9 : ∀ a, a < 13 → ∀ b, b < 13 → a ≠ b → (TX9 a).2.1 ≠ (TX9 b).2.1 := by decide +kernel
theorem tyX9_ok : ∀ k, k < 13 → parseFieldDescriptor (TX9 k).2.2.1 = some (tyX9 k) := by decide +kernel
def TX10 : u_T := fun k => match k with
  | 0 => ("SwapPress$Tape", "bytes", "[B", true)
  | _ => ("SwapPress$Tape", "length", "I", false)
def tyX10 : Nat → FieldType := fun k => match k with
  | 0 => .array .byte
  | _ => .int
theorem nmX10 : ∀ a, a < 2 → ∀ b, b < 2 → a ≠ b → (TX10 a).2.1 ≠ (TX10 b).2.1 := by decide +kernel
theorem tyX10_ok : ∀ k, k < 2 → parseFieldDescriptor (TX10 k).2.2.1 = some (tyX10 k) := by decide +kernel
def TX11 : u_T := fun k => match k with
  | 0 => ("SwapPress", "tape", "LSwapPress$Tape;", true)
  | 1 => ("SwapPress", "reader", "LSwapPress$Reader;", true)
  | 2 => ("SwapPress", "past", "LSwapPress$Past;", true)
  | 3 => ("SwapPress", "flows", "LSwapPress$Flows;", true)
  | 4 => ("SwapPress", "rings", "LSwapPress$Rings;", true)
  | 5 => ("SwapPress", "row", "LSwapPress$Row;", true)
  | 6 => ("SwapPress", "solver", "LSwapPress$Solver;", true)
  | 7 => ("SwapPress", "trial", "LSwapPress$Solver;", true)
  | 8 => ("SwapPress", "groups", "LSwapPress$Groups;", true)
  | 9 => ("SwapPress", "page", "LSwapPress$Page;", true)
  | 10 => ("SwapPress", "names", "LSwapPress$Names;", false)
  | 11 => ("SwapPress", "book", "LSwapPress$Book;", false)
  | _ => ("SwapPress", "solvedKind", "I", false)
def tyX11 : Nat → FieldType := fun k => match k with
  | 0 => .object "SwapPress$Tape"
  | 1 => .object "SwapPress$Reader"
  | 2 => .object "SwapPress$Past"
  | 3 => .object "SwapPress$Flows"
  | 4 => .object "SwapPress$Rings"
  | 5 => .object "SwapPress$Row"
  | 6 => .object "SwapPress$Solver"
  | 7 => .object "SwapPress$Solver"
  | 8 => .object "SwapPress$Groups"
  | 9 => .object "SwapPress$Page"
  | 10 => .object "SwapPress$Names"
  | 11 => .object "SwapPress$Book"
  | _ => .int
theorem nmX11 : ∀ a, a < 13 → ∀ b, b < 13 → a ≠ b → (TX11 a).2.1 ≠ (TX11 b).2.1 := by decide +kernel
theorem tyX11_ok : ∀ k, k < 13 → parseFieldDescriptor (TX11 k).2.2.1 = some (tyX11 k) := by decide +kernel
def TX12 : u_T := fun k => match k with
  | 0 => ("SwapPressModel", "s", "[I", true)
  | 1 => ("SwapPressModel", "saved", "[I", true)
  | 2 => ("SwapPressModel", "acts", "[I", true)
  | 3 => ("SwapPressModel", "names", "[J", true)
  | 4 => ("SwapPressModel", "savedNames", "[J", true)
  | 5 => ("SwapPressModel", "parties", "I", false)
  | 6 => ("SwapPressModel", "kinds", "I", false)
  | 7 => ("SwapPressModel", "actMany", "I", false)
  | 8 => ("SwapPressModel", "thrown", "I", false)
  | 9 => ("SwapPressModel", "tape", "[B", true)
  | 10 => ("SwapPressModel", "taped", "I", false)
  | 11 => ("SwapPressModel", "size", "I", false)
  | 12 => ("SwapPressModel", "spot", "I", false)
  | 13 => ("SwapPressModel", "wrong", "I", false)
  | 14 => ("SwapPressModel", "wrongAt", "I", false)
  | 15 => ("SwapPressModel", "seen", "I", false)
  | 16 => ("SwapPressModel", "readAt", "I", false)
  | 17 => ("SwapPressModel", "flows", "[I", true)
  | 18 => ("SwapPressModel", "way", "[I", true)
  | 19 => ("SwapPressModel", "ringMany", "I", false)
  | 20 => ("SwapPressModel", "rowFrom", "[I", true)
  | 21 => ("SwapPressModel", "bounds", "[I", true)
  | 22 => ("SwapPressModel", "its0", "[I", true)
  | 23 => ("SwapPressModel", "may", "[I", true)
  | 24 => ("SwapPressModel", "through", "[I", true)
  | 25 => ("SwapPressModel", "needs", "[I", true)
  | 26 => ("SwapPressModel", "isFixed", "[Z", true)
  | 27 => ("SwapPressModel", "dear", "[I", true)
  | 28 => ("SwapPressModel", "by", "[I", true)
  | 29 => ("SwapPressModel", "groups", "[I", true)
  | 30 => ("SwapPressModel", "bytes", "[I", true)
  | _ => ("SwapPressModel", "byteMany", "I", false)
def tyX12 : Nat → FieldType := fun k => match k with
  | 0 => .array .int
  | 1 => .array .int
  | 2 => .array .int
  | 3 => .array .long
  | 4 => .array .long
  | 5 => .int
  | 6 => .int
  | 7 => .int
  | 8 => .int
  | 9 => .array .byte
  | 10 => .int
  | 11 => .int
  | 12 => .int
  | 13 => .int
  | 14 => .int
  | 15 => .int
  | 16 => .int
  | 17 => .array .int
  | 18 => .array .int
  | 19 => .int
  | 20 => .array .int
  | 21 => .array .int
  | 22 => .array .int
  | 23 => .array .int
  | 24 => .array .int
  | 25 => .array .int
  | 26 => .array .boolean
  | 27 => .array .int
  | 28 => .array .int
  | 29 => .array .int
  | 30 => .array .int
  | _ => .int
theorem nmX12 : ∀ a, a < 32 → ∀ b, b < 32 → a ≠ b → (TX12 a).2.1 ≠ (TX12 b).2.1 := by decide +kernel
theorem tyX12_ok : ∀ k, k < 32 → parseFieldDescriptor (TX12 k).2.2.1 = some (tyX12 k) := by decide +kernel
abbrev cJ6_bitCount_0f7a4 : ByteArray := prog_15_method_49_code
def yJ6_bitCount_0f7a4 : MethodName := ⟨RJ6, "bitCount", "(I)I"⟩
abbrev cJ7_fill_53178 : ByteArray := prog_21_method_103_code
def yJ7_fill_53178 : MethodName := ⟨RJ7, "fill", "([II)V"⟩
abbrev cJ7_fill_d0a16 : ByteArray := prog_21_method_101_code
def yJ7_fill_d0a16 : MethodName := ⟨RJ7, "fill", "([JJ)V"⟩
abbrev cX0_allFrom : ByteArray := prog_2_method_12_code
def yX0_allFrom : MethodName := ⟨RX0, "allFrom", "(II)J"⟩
abbrev cX0_allTo : ByteArray := prog_2_method_13_code
def yX0_allTo : MethodName := ⟨RX0, "allTo", "(II)J"⟩
abbrev cX0_append : ByteArray := prog_2_method_4_code
def yX0_append : MethodName := ⟨RX0, "append", "(IIJI)V"⟩
abbrev cX0_clear : ByteArray := prog_2_method_2_code
def yX0_clear : MethodName := ⟨RX0, "clear", "()V"⟩
abbrev cX0_copyFrom : ByteArray := prog_2_method_3_code
def yX0_copyFrom : MethodName := ⟨RX0, "copyFrom", "(LSwapPress$Book;)V"⟩
abbrev cX0_copyTrade : ByteArray := prog_2_method_6_code
def yX0_copyTrade : MethodName := ⟨RX0, "copyTrade", "(LSwapPress$Book;II)V"⟩
abbrev cX0_keptOf : ByteArray := prog_2_method_11_code
def yX0_keptOf : MethodName := ⟨RX0, "keptOf", "(I)J"⟩
abbrev cX0_keptTrades : ByteArray := prog_2_method_10_code
def yX0_keptTrades : MethodName := ⟨RX0, "keptTrades", "()I"⟩
abbrev cX0_lessen : ByteArray := prog_2_method_8_code
def yX0_lessen : MethodName := ⟨RX0, "lessen", "(IIIJ)V"⟩
abbrev cX0_openOf : ByteArray := prog_2_method_9_code
def yX0_openOf : MethodName := ⟨RX0, "openOf", "(I)I"⟩
abbrev cX0_othersOf : ByteArray := prog_2_method_14_code
def yX0_othersOf : MethodName := ⟨RX0, "othersOf", "(II)I"⟩
abbrev cX0_remove : ByteArray := prog_2_method_5_code
def yX0_remove : MethodName := ⟨RX0, "remove", "(I)V"⟩
abbrev cX0_removeOpen : ByteArray := prog_2_method_7_code
def yX0_removeOpen : MethodName := ⟨RX0, "removeOpen", "(I)V"⟩
abbrev cX11_boundOf : ByteArray := prog_1_method_54_code
def yX11_boundOf : MethodName := ⟨RX11, "boundOf", "(LSwapPress$Book;LSwapPress$Flows;II)J"⟩
abbrev cX11_cell : ByteArray := prog_1_method_50_code
def yX11_cell : MethodName := ⟨RX11, "cell", "(II)I"⟩
abbrev cX11_cellsAboveZero : ByteArray := prog_1_method_53_code
def yX11_cellsAboveZero : MethodName := ⟨RX11, "cellsAboveZero", "([J)I"⟩
abbrev cX11_sumIn : ByteArray := prog_1_method_52_code
def yX11_sumIn : MethodName := ⟨RX11, "sumIn", "([JI)J"⟩
abbrev cX11_sumOut : ByteArray := prog_1_method_51_code
def yX11_sumOut : MethodName := ⟨RX11, "sumOut", "([JI)J"⟩
abbrev cX1_aboveZero : ByteArray := prog_3_method_9_code
def yX1_aboveZero : MethodName := ⟨RX1, "aboveZero", "()I"⟩
abbrev cX1_gather : ByteArray := prog_3_method_2_code
def yX1_gather : MethodName := ⟨RX1, "gather", "(LSwapPress$Book;III)V"⟩
abbrev cX1_goes : ByteArray := prog_3_method_3_code
def yX1_goes : MethodName := ⟨RX1, "goes", "(II)Z"⟩
abbrev cX1_into : ByteArray := prog_3_method_5_code
def yX1_into : MethodName := ⟨RX1, "into", "(I)J"⟩
abbrev cX1_netOf : ByteArray := prog_3_method_6_code
def yX1_netOf : MethodName := ⟨RX1, "netOf", "(I)J"⟩
abbrev cX1_netsAboveZero : ByteArray := prog_3_method_10_code
def yX1_netsAboveZero : MethodName := ⟨RX1, "netsAboveZero", "()J"⟩
abbrev cX1_outOf : ByteArray := prog_3_method_4_code
def yX1_outOf : MethodName := ⟨RX1, "outOf", "(I)J"⟩
abbrev cX1_sum : ByteArray := prog_3_method_8_code
def yX1_sum : MethodName := ⟨RX1, "sum", "()J"⟩
abbrev cX1_throughOf : ByteArray := prog_3_method_7_code
def yX1_throughOf : MethodName := ⟨RX1, "throughOf", "(I)J"⟩
abbrev cX3_appendKind : ByteArray := prog_5_method_4_code
def yX3_appendKind : MethodName := ⟨RX3, "appendKind", "([BII)V"⟩
abbrev cX3_appendParty : ByteArray := prog_5_method_3_code
def yX3_appendParty : MethodName := ⟨RX3, "appendParty", "([BII)V"⟩
abbrev cX3_clear : ByteArray := prog_5_method_2_code
def yX3_clear : MethodName := ⟨RX3, "clear", "()V"⟩
abbrev cX3_find : ByteArray := prog_5_method_5_code
def yX3_find : MethodName := ⟨RX3, "find", "(II[BII)I"⟩
abbrev cX3_put : ByteArray := prog_5_method_6_code
def yX3_put : MethodName := ⟨RX3, "put", "(I[BII)V"⟩
abbrev cX3_same : ByteArray := prog_5_method_7_code
def yX3_same : MethodName := ⟨RX3, "same", "(I[BII)Z"⟩
abbrev cX4_put : ByteArray := prog_6_method_5_code
def yX4_put : MethodName := ⟨RX4, "put", "(I)V"⟩
abbrev cX4_putName : ByteArray := prog_6_method_3_code
def yX4_putName : MethodName := ⟨RX4, "putName", "(LSwapPress$Names;I)V"⟩
abbrev cX4_putNumber : ByteArray := prog_6_method_4_code
def yX4_putNumber : MethodName := ⟨RX4, "putNumber", "(J)V"⟩
abbrev cX4_write : ByteArray := prog_6_method_2_code
def yX4_write : MethodName := ⟨RX4, "write", "(LSwapPress$Names;LSwapPress$Book;I)V"⟩
abbrev cX5_forgetOldest : ByteArray := prog_7_method_4_code
def yX5_forgetOldest : MethodName := ⟨RX5, "forgetOldest", "()V"⟩
abbrev cX5_push : ByteArray := prog_7_method_2_code
def yX5_push : MethodName := ⟨RX5, "push", "(LSwapPress$Book;)V"⟩
abbrev cX5_takeBack : ByteArray := prog_7_method_3_code
def yX5_takeBack : MethodName := ⟨RX5, "takeBack", "(LSwapPress$Book;)V"⟩
abbrev cX9_carry : ByteArray := prog_11_method_14_code
def yX9_carry : MethodName := ⟨RX9, "carry", "(I)V"⟩
abbrev cX9_farthest : ByteArray := prog_11_method_7_code
def yX9_farthest : MethodName := ⟨RX9, "farthest", "(IIZ)J"⟩
abbrev cX9_findFirst : ByteArray := prog_11_method_5_code
def yX9_findFirst : MethodName := ⟨RX9, "findFirst", "()V"⟩
abbrev cX9_firstAboveZero : ByteArray := prog_11_method_6_code
def yX9_firstAboveZero : MethodName := ⟨RX9, "firstAboveZero", "()I"⟩
abbrev cX9_in : ByteArray := prog_11_method_17_code
def yX9_in : MethodName := ⟨RX9, "in", "(I)I"⟩
abbrev cX9_lift : ByteArray := prog_11_method_15_code
def yX9_lift : MethodName := ⟨RX9, "lift", "()Z"⟩
abbrev cX9_move : ByteArray := prog_11_method_9_code
def yX9_move : MethodName := ⟨RX9, "move", "(IIJ)J"⟩
abbrev cX9_nothingLeft : ByteArray := prog_11_method_4_code
def yX9_nothingLeft : MethodName := ⟨RX9, "nothingLeft", "()Z"⟩
abbrev cX9_numbersTogether : ByteArray := prog_11_method_11_code
def yX9_numbersTogether : MethodName := ⟨RX9, "numbersTogether", "()J"⟩
abbrev cX9_open : ByteArray := prog_11_method_10_code
def yX9_open : MethodName := ⟨RX9, "open", "(IIJ)V"⟩
abbrev cX9_out : ByteArray := prog_11_method_18_code
def yX9_out : MethodName := ⟨RX9, "out", "(I)I"⟩
abbrev cX9_prepare : ByteArray := prog_11_method_2_code
def yX9_prepare : MethodName := ⟨RX9, "prepare", "(LSwapPress$Book;LSwapPress$Flows;)V"⟩
abbrev cX9_price : ByteArray := prog_11_method_16_code
def yX9_price : MethodName := ⟨RX9, "price", "(II)I"⟩
abbrev cX9_search : ByteArray := prog_11_method_13_code
def yX9_search : MethodName := ⟨RX9, "search", "()I"⟩
abbrev cX9_ship : ByteArray := prog_11_method_12_code
def yX9_ship : MethodName := ⟨RX9, "ship", "(Z)V"⟩
abbrev cX9_shutFarthest : ByteArray := prog_11_method_8_code
def yX9_shutFarthest : MethodName := ⟨RX9, "shutFarthest", "(IIZ)J"⟩
abbrev cX9_solve : ByteArray := prog_11_method_3_code
def yX9_solve : MethodName := ⟨RX9, "solve", "()V"⟩
abbrev cX9_step : ByteArray := prog_11_method_19_code
def yX9_step : MethodName := ⟨RX9, "step", "(II)I"⟩
abbrev vwCl : List vw_C := [(RX0, TX0, 8), (RX1, TX1, 2), (RX2, TX2, 5), (RX3, TX3, 4), (RX4, TX4, 3), (RX5, TX5, 2), (RX6, TX6, 10), (RX7, TX7, 6), (RX8, TX8, 3), (RX9, TX9, 13), (RX10, TX10, 2), (RX11, TX11, 13), (RX12, TX12, 32)]

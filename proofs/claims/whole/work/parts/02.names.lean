/-! names: classes, their fields, the methods -/
def RX0 : String := "FallingSlates$High"
def TX0 : u_T := fun k => match k with
  | 0 => ("FallingSlates$Seller", "number", "I", true)
  | 1 => ("FallingSlates$Seller", "kind", "I", true)
  | 2 => ("FallingSlates$Seller", "m", "I", true)
  | 3 => ("FallingSlates$Seller", "cost", "I", true)
  | _ => ("FallingSlates$Seller", "makes", "I", true)
def tyX0 : Nat → FieldType := fun k => match k with
  | 0 => .int
  | 1 => .int
  | 2 => .int
  | 3 => .int
  | _ => .int
theorem nmX0 : ∀ a, a < 5 → ∀ b, b < 5 → a ≠ b → (TX0 a).2.1 ≠ (TX0 b).2.1 := by decide +kernel
theorem tyX0_ok : ∀ k, k < 5 → parseFieldDescriptor (TX0 k).2.2.1 = some (tyX0 k) := by decide +kernel
def RX1 : String := "FallingSlates$Holder"
def TX1 : u_T := fun k => match k with
  | 0 => ("FallingSlates$Seller", "number", "I", true)
  | 1 => ("FallingSlates$Seller", "kind", "I", true)
  | 2 => ("FallingSlates$Seller", "m", "I", true)
  | 3 => ("FallingSlates$Seller", "cost", "I", true)
  | _ => ("FallingSlates$Seller", "makes", "I", true)
def tyX1 : Nat → FieldType := fun k => match k with
  | 0 => .int
  | 1 => .int
  | 2 => .int
  | 3 => .int
  | _ => .int
theorem nmX1 : ∀ a, a < 5 → ∀ b, b < 5 → a ≠ b → (TX1 a).2.1 ≠ (TX1 b).2.1 := by decide +kernel
theorem tyX1_ok : ∀ k, k < 5 → parseFieldDescriptor (TX1 k).2.2.1 = some (tyX1 k) := by decide +kernel
def RX2 : String := "FallingSlates$Hurried"
def TX2 : u_T := fun k => match k with
  | 0 => ("FallingSlates$Seller", "number", "I", true)
  | 1 => ("FallingSlates$Seller", "kind", "I", true)
  | 2 => ("FallingSlates$Seller", "m", "I", true)
  | 3 => ("FallingSlates$Seller", "cost", "I", true)
  | _ => ("FallingSlates$Seller", "makes", "I", true)
def tyX2 : Nat → FieldType := fun k => match k with
  | 0 => .int
  | 1 => .int
  | 2 => .int
  | 3 => .int
  | _ => .int
theorem nmX2 : ∀ a, a < 5 → ∀ b, b < 5 → a ≠ b → (TX2 a).2.1 ≠ (TX2 b).2.1 := by decide +kernel
theorem tyX2_ok : ∀ k, k < 5 → parseFieldDescriptor (TX2 k).2.2.1 = some (tyX2 k) := by decide +kernel
def RX3 : String := "FallingSlates$Market"
def TX3 : u_T := fun k => match k with
  | 0 => ("FallingSlates$Market", "today", "I", false)
  | 1 => ("FallingSlates$Market", "season", "I", false)
  | 2 => ("FallingSlates$Market", "up", "I", false)
  | 3 => ("FallingSlates$Market", "isLawful", "Z", false)
  | 4 => ("FallingSlates$Market", "heat", "[I", true)
  | 5 => ("FallingSlates$Market", "texts", "[LFallingSlates$Text;", true)
  | 6 => ("FallingSlates$Market", "sellers", "[LFallingSlates$Seller;", true)
  | 7 => ("FallingSlates$Market", "sellerCount", "I", false)
  | 8 => ("FallingSlates$Market", "stock", "[I", true)
  | 9 => ("FallingSlates$Market", "purse", "[I", true)
  | 10 => ("FallingSlates$Market", "slate", "[I", true)
  | 11 => ("FallingSlates$Market", "ranked", "[I", true)
  | 12 => ("FallingSlates$Market", "sortCount", "I", false)
  | 13 => ("FallingSlates$Market", "come", "[I", true)
  | 14 => ("FallingSlates$Market", "worth", "[I", true)
  | 15 => ("FallingSlates$Market", "stays", "[I", true)
  | _ => ("FallingSlates$Market", "waiting", "[I", true)
def tyX3 : Nat → FieldType := fun k => match k with
  | 0 => .int
  | 1 => .int
  | 2 => .int
  | 3 => .boolean
  | 4 => .array .int
  | 5 => .array (.object "FallingSlates$Text")
  | 6 => .array (.object "FallingSlates$Seller")
  | 7 => .int
  | 8 => .array .int
  | 9 => .array .int
  | 10 => .array .int
  | 11 => .array .int
  | 12 => .int
  | 13 => .array .int
  | 14 => .array .int
  | 15 => .array .int
  | _ => .array .int
theorem nmX3 : ∀ a, a < 17 → ∀ b, b < 17 → a ≠ b → (TX3 a).2.1 ≠ (TX3 b).2.1 := by decide +kernel
theorem tyX3_ok : ∀ k, k < 17 → parseFieldDescriptor (TX3 k).2.2.1 = some (tyX3 k) := by decide +kernel
def RX4 : String := "FallingSlates$Newly"
def TX4 : u_T := fun k => match k with
  | 0 => ("FallingSlates$Seller", "number", "I", true)
  | 1 => ("FallingSlates$Seller", "kind", "I", true)
  | 2 => ("FallingSlates$Seller", "m", "I", true)
  | 3 => ("FallingSlates$Seller", "cost", "I", true)
  | _ => ("FallingSlates$Seller", "makes", "I", true)
def tyX4 : Nat → FieldType := fun k => match k with
  | 0 => .int
  | 1 => .int
  | 2 => .int
  | 3 => .int
  | _ => .int
theorem nmX4 : ∀ a, a < 5 → ∀ b, b < 5 → a ≠ b → (TX4 a).2.1 ≠ (TX4 b).2.1 := by decide +kernel
theorem tyX4_ok : ∀ k, k < 5 → parseFieldDescriptor (TX4 k).2.2.1 = some (tyX4 k) := by decide +kernel
def RX5 : String := "FallingSlates$Row"
def TX5 : u_T := fun k => match k with
  | 0 => ("FallingSlates$Row", "numbers", "[I", true)
  | _ => ("FallingSlates$Row", "size", "I", false)
def tyX5 : Nat → FieldType := fun k => match k with
  | 0 => .array .int
  | _ => .int
theorem nmX5 : ∀ a, a < 2 → ∀ b, b < 2 → a ≠ b → (TX5 a).2.1 ≠ (TX5 b).2.1 := by decide +kernel
theorem tyX5_ok : ∀ k, k < 2 → parseFieldDescriptor (TX5 k).2.2.1 = some (tyX5 k) := by decide +kernel
def RX6 : String := "FallingSlates$Seller"
def TX6 : u_T := fun k => match k with
  | 0 => ("FallingSlates$Seller", "number", "I", true)
  | 1 => ("FallingSlates$Seller", "kind", "I", true)
  | 2 => ("FallingSlates$Seller", "m", "I", true)
  | 3 => ("FallingSlates$Seller", "cost", "I", true)
  | _ => ("FallingSlates$Seller", "makes", "I", true)
def tyX6 : Nat → FieldType := fun k => match k with
  | 0 => .int
  | 1 => .int
  | 2 => .int
  | 3 => .int
  | _ => .int
theorem nmX6 : ∀ a, a < 5 → ∀ b, b < 5 → a ≠ b → (TX6 a).2.1 ≠ (TX6 b).2.1 := by decide +kernel
theorem tyX6_ok : ∀ k, k < 5 → parseFieldDescriptor (TX6 k).2.2.1 = some (tyX6 k) := by decide +kernel
def RX7 : String := "FallingSlates$Sheet"
def TX7 : u_T := fun k => match k with
  | 0 => ("FallingSlates$Sheet", "numbers", "[I", true)
  | 1 => ("FallingSlates$Sheet", "bits", "I", false)
  | _ => ("FallingSlates$Sheet", "size", "I", false)
def tyX7 : Nat → FieldType := fun k => match k with
  | 0 => .array .int
  | 1 => .int
  | _ => .int
theorem nmX7 : ∀ a, a < 3 → ∀ b, b < 3 → a ≠ b → (TX7 a).2.1 ≠ (TX7 b).2.1 := by decide +kernel
theorem tyX7_ok : ∀ k, k < 3 → parseFieldDescriptor (TX7 k).2.2.1 = some (tyX7 k) := by decide +kernel
def RX8 : String := "FallingSlates$Stepper"
def TX8 : u_T := fun k => match k with
  | 0 => ("FallingSlates$Seller", "number", "I", true)
  | 1 => ("FallingSlates$Seller", "kind", "I", true)
  | 2 => ("FallingSlates$Seller", "m", "I", true)
  | 3 => ("FallingSlates$Seller", "cost", "I", true)
  | _ => ("FallingSlates$Seller", "makes", "I", true)
def tyX8 : Nat → FieldType := fun k => match k with
  | 0 => .int
  | 1 => .int
  | 2 => .int
  | 3 => .int
  | _ => .int
theorem nmX8 : ∀ a, a < 5 → ∀ b, b < 5 → a ≠ b → (TX8 a).2.1 ≠ (TX8 b).2.1 := by decide +kernel
theorem tyX8_ok : ∀ k, k < 5 → parseFieldDescriptor (TX8 k).2.2.1 = some (tyX8 k) := by decide +kernel
def RX9 : String := "FallingSlates$Stubborn"
def TX9 : u_T := fun k => match k with
  | 0 => ("FallingSlates$Seller", "number", "I", true)
  | 1 => ("FallingSlates$Seller", "kind", "I", true)
  | 2 => ("FallingSlates$Seller", "m", "I", true)
  | 3 => ("FallingSlates$Seller", "cost", "I", true)
  | _ => ("FallingSlates$Seller", "makes", "I", true)
def tyX9 : Nat → FieldType := fun k => match k with
  | 0 => .int
  | 1 => .int
  | 2 => .int
  | 3 => .int
  | _ => .int
theorem nmX9 : ∀ a, a < 5 → ∀ b, b < 5 → a ≠ b → (TX9 a).2.1 ≠ (TX9 b).2.1 := by decide +kernel
theorem tyX9_ok : ∀ k, k < 5 → parseFieldDescriptor (TX9 k).2.2.1 = some (tyX9 k) := by decide +kernel
def RX10 : String := "FallingSlates$Text"
def TX10 : u_T := fun k => match k with
  | 0 => ("FallingSlates$Text", "source", "LFallingSlates$Row;", true)
  | 1 => ("FallingSlates$Text", "length", "I", true)
  | 2 => ("FallingSlates$Text", "names", "Ljava/lang/String;", true)
  | 3 => ("FallingSlates$Text", "at", "I", false)
  | 4 => ("FallingSlates$Text", "sign", "[I", true)
  | 5 => ("FallingSlates$Text", "left", "[I", true)
  | 6 => ("FallingSlates$Text", "next", "[I", true)
  | 7 => ("FallingSlates$Text", "value", "[I", true)
  | 8 => ("FallingSlates$Text", "size", "I", false)
  | _ => ("FallingSlates$Text", "root", "I", false)
def tyX10 : Nat → FieldType := fun k => match k with
  | 0 => .object "FallingSlates$Row"
  | 1 => .int
  | 2 => .object "java/lang/String"
  | 3 => .int
  | 4 => .array .int
  | 5 => .array .int
  | 6 => .array .int
  | 7 => .array .int
  | 8 => .int
  | _ => .int
theorem nmX10 : ∀ a, a < 10 → ∀ b, b < 10 → a ≠ b → (TX10 a).2.1 ≠ (TX10 b).2.1 := by decide +kernel
theorem tyX10_ok : ∀ k, k < 10 → parseFieldDescriptor (TX10 k).2.2.1 = some (tyX10 k) := by decide +kernel
def RX11 : String := "FallingSlates"
def TX11 : u_T := fun k => match k with
  | 0 => ("FallingSlates", "market", "LFallingSlates$Market;", true)
  | 1 => ("FallingSlates", "tape", "LFallingSlates$Row;", true)
  | 2 => ("FallingSlates", "numbers", "LFallingSlates$Row;", true)
  | 3 => ("FallingSlates", "z", "I", false)
  | 4 => ("FallingSlates", "keptMarket", "LFallingSlates$Market;", true)
  | 5 => ("FallingSlates", "keptTape", "LFallingSlates$Row;", true)
  | 6 => ("FallingSlates", "keptNumbers", "LFallingSlates$Row;", true)
  | 7 => ("FallingSlates", "keptZ", "I", false)
  | 8 => ("FallingSlates", "images", "I", false)
  | 9 => ("FallingSlates", "bodies", "LFallingSlates$Row;", true)
  | 10 => ("FallingSlates", "sheets", "[LFallingSlates$Sheet;", true)
  | 11 => ("FallingSlates", "errors", "[I", true)
  | 12 => ("FallingSlates", "scratch", "LFallingSlates$Market;", true)
  | 13 => ("FallingSlates", "cutMarkets", "[LFallingSlates$Market;", true)
  | 14 => ("FallingSlates", "cutRow", "[I", true)
  | 15 => ("FallingSlates", "bestRow", "[I", true)
  | _ => ("FallingSlates", "bestPurse", "I", false)
def tyX11 : Nat → FieldType := fun k => match k with
  | 0 => .object "FallingSlates$Market"
  | 1 => .object "FallingSlates$Row"
  | 2 => .object "FallingSlates$Row"
  | 3 => .int
  | 4 => .object "FallingSlates$Market"
  | 5 => .object "FallingSlates$Row"
  | 6 => .object "FallingSlates$Row"
  | 7 => .int
  | 8 => .int
  | 9 => .object "FallingSlates$Row"
  | 10 => .array (.object "FallingSlates$Sheet")
  | 11 => .array .int
  | 12 => .object "FallingSlates$Market"
  | 13 => .array (.object "FallingSlates$Market")
  | 14 => .array .int
  | 15 => .array .int
  | _ => .int
theorem nmX11 : ∀ a, a < 17 → ∀ b, b < 17 → a ≠ b → (TX11 a).2.1 ≠ (TX11 b).2.1 := by decide +kernel
theorem tyX11_ok : ∀ k, k < 17 → parseFieldDescriptor (TX11 k).2.2.1 = some (tyX11 k) := by decide +kernel
def RX12 : String := "FallingSlatesModel"
def TX12 : u_T := fun k => match k with
  | 0 => ("FallingSlatesModel", "d", "[I", true)
  | 1 => ("FallingSlatesModel", "e", "[I", true)
  | 2 => ("FallingSlatesModel", "kept", "[I", true)
  | 3 => ("FallingSlatesModel", "images", "I", false)
  | 4 => ("FallingSlatesModel", "found", "[I", true)
  | 5 => ("FallingSlatesModel", "base", "I", false)
  | 6 => ("FallingSlatesModel", "at", "I", false)
  | 7 => ("FallingSlatesModel", "size", "I", false)
  | 8 => ("FallingSlatesModel", "fault", "I", false)
  | 9 => ("FallingSlatesModel", "opened", "I", false)
  | 10 => ("FallingSlatesModel", "isLaw", "Z", false)
  | 11 => ("FallingSlatesModel", "names", "[I", true)
  | 12 => ("FallingSlatesModel", "code", "[I", true)
  | 13 => ("FallingSlatesModel", "coded", "I", false)
  | 14 => ("FallingSlatesModel", "pile", "[I", true)
  | 15 => ("FallingSlatesModel", "wasAt", "[Z", true)
  | 16 => ("FallingSlatesModel", "purses", "[I", true)
  | 17 => ("FallingSlatesModel", "traced", "[I", true)
  | 18 => ("FallingSlatesModel", "traceMany", "I", false)
  | 19 => ("FallingSlatesModel", "who", "I", false)
  | 20 => ("FallingSlatesModel", "bitsOf", "[I", true)
  | 21 => ("FallingSlatesModel", "sizeOf", "[I", true)
  | 22 => ("FallingSlatesModel", "number", "[I", true)
  | _ => ("FallingSlatesModel", "lifted", "[I", true)
def tyX12 : Nat → FieldType := fun k => match k with
  | 0 => .array .int
  | 1 => .array .int
  | 2 => .array .int
  | 3 => .int
  | 4 => .array .int
  | 5 => .int
  | 6 => .int
  | 7 => .int
  | 8 => .int
  | 9 => .int
  | 10 => .boolean
  | 11 => .array .int
  | 12 => .array .int
  | 13 => .int
  | 14 => .array .int
  | 15 => .array .boolean
  | 16 => .array .int
  | 17 => .array .int
  | 18 => .int
  | 19 => .int
  | 20 => .array .int
  | 21 => .array .int
  | 22 => .array .int
  | _ => .array .int
theorem nmX12 : ∀ a, a < 24 → ∀ b, b < 24 → a ≠ b → (TX12 a).2.1 ≠ (TX12 b).2.1 := by decide +kernel
theorem tyX12_ok : ∀ k, k < 24 → parseFieldDescriptor (TX12 k).2.2.1 = some (tyX12 k) := by decide +kernel
abbrev vwCl : List vw_C := [(RX0, TX0, 5), (RX1, TX1, 5), (RX2, TX2, 5), (RX3, TX3, 17), (RX4, TX4, 5), (RX5, TX5, 2), (RX6, TX6, 5), (RX7, TX7, 3), (RX8, TX8, 5), (RX9, TX9, 5), (RX10, TX10, 10), (RX11, TX11, 17), (RX12, TX12, 24)]
def mx_tyL : List (Nat → FieldType) := [tyX0, tyX1, tyX2, tyX3, tyX4, tyX5, tyX6, tyX7, tyX8, tyX9, tyX10, tyX11, tyX12]
def mx_cnL : List String := ["FallingSlates$High", "FallingSlates$Holder", "FallingSlates$Hurried", "FallingSlates$Market", "FallingSlates$Newly", "FallingSlates$Row", "FallingSlates$Seller", "FallingSlates$Sheet", "FallingSlates$Stepper", "FallingSlates$Stubborn", "FallingSlates$Text", "FallingSlates", "FallingSlatesModel", "java/lang/Character", "java/lang/Math", "java/lang/String", "java/lang/StringLatin1", "java/lang/StringUTF16", "java/lang/System", "java/util/Arrays", "jdk/internal/util/Preconditions", "FallingSlatesLaw"]
def mx_cn (o : Nat) : String := mx_cnL.getD o ""

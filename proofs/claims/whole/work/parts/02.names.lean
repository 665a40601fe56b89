def RX0 : String := "StormPipes$Area"
def TX0 : u_T := fun k => match k with
  | 0 => ("StormPipes$Area", "node", "LStormPipes$Node;", true)
  | 1 => ("StormPipes$Area", "catching", "J", true)
  | _ => ("StormPipes$Area", "rest", "J", false)
def tyX0 : Nat → FieldType := fun k => match k with
  | 0 => .object "StormPipes$Node"
  | 1 => .long
  | _ => .long
abbrev wsX00 : List Cond := u_ws RX0 TX0 3
theorem nmX0 : ∀ a, a < 3 → ∀ b, b < 3 → a ≠ b → (TX0 a).2.1 ≠ (TX0 b).2.1 := by decide +kernel
theorem tyX0_ok : ∀ k, k < 3 → parseFieldDescriptor (TX0 k).2.2.1 = some (tyX0 k) := by decide +kernel
abbrev cX0_init : ByteArray := prog_2_method_1_code
def yX0_init : MethodName := ⟨RX0, "<init>", "(LStormPipes$Node;II)V"⟩
abbrev cX0_takeRain : ByteArray := prog_2_method_2_code
def yX0_takeRain : MethodName := ⟨RX0, "takeRain", "(I)J"⟩
def RX1 : String := "StormPipes$Entry"
def TX1 : u_T := fun k => match k with
  | 0 => ("StormPipes$Entry", "width", "I", true)
  | _ => ("StormPipes$Entry", "price", "I", true)
def tyX1 : Nat → FieldType := fun k => match k with
  | 0 => .int
  | _ => .int
abbrev wsX10 : List Cond := u_ws RX1 TX1 2
theorem nmX1 : ∀ a, a < 2 → ∀ b, b < 2 → a ≠ b → (TX1 a).2.1 ≠ (TX1 b).2.1 := by decide +kernel
theorem tyX1_ok : ∀ k, k < 2 → parseFieldDescriptor (TX1 k).2.2.1 = some (tyX1 k) := by decide +kernel
abbrev cX1_init : ByteArray := prog_3_method_1_code
def yX1_init : MethodName := ⟨RX1, "<init>", "(II)V"⟩
def RX2 : String := "StormPipes$Gate"
def TX2 : u_T := fun k => match k with
  | 0 => ("StormPipes$Gate", "node", "LStormPipes$Node;", true)
  | 1 => ("StormPipes$Gate", "sill", "J", true)
  | _ => ("StormPipes$Gate", "rate", "I", true)
def tyX2 : Nat → FieldType := fun k => match k with
  | 0 => .object "StormPipes$Node"
  | 1 => .long
  | _ => .int
abbrev wsX20 : List Cond := u_ws RX2 TX2 3
theorem nmX2 : ∀ a, a < 3 → ∀ b, b < 3 → a ≠ b → (TX2 a).2.1 ≠ (TX2 b).2.1 := by decide +kernel
theorem tyX2_ok : ∀ k, k < 3 → parseFieldDescriptor (TX2 k).2.2.1 = some (tyX2 k) := by decide +kernel
abbrev cX2_init : ByteArray := prog_4_method_1_code
def yX2_init : MethodName := ⟨RX2, "<init>", "(LStormPipes$Node;II)V"⟩
abbrev cX2_letOut : ByteArray := prog_4_method_2_code
def yX2_letOut : MethodName := ⟨RX2, "letOut", "()J"⟩
def RX3 : String := "StormPipes$Gully"
def TX3 : u_T := fun k => match k with
  | 0 => ("StormPipes$Gully", "cell", "I", true)
  | 1 => ("StormPipes$Gully", "node", "LStormPipes$Node;", true)
  | _ => ("StormPipes$Gully", "rate", "I", true)
def tyX3 : Nat → FieldType := fun k => match k with
  | 0 => .int
  | 1 => .object "StormPipes$Node"
  | _ => .int
abbrev wsX30 : List Cond := u_ws RX3 TX3 3
theorem nmX3 : ∀ a, a < 3 → ∀ b, b < 3 → a ≠ b → (TX3 a).2.1 ≠ (TX3 b).2.1 := by decide +kernel
theorem tyX3_ok : ∀ k, k < 3 → parseFieldDescriptor (TX3 k).2.2.1 = some (tyX3 k) := by decide +kernel
abbrev cX3_init : ByteArray := prog_5_method_1_code
def yX3_init : MethodName := ⟨RX3, "<init>", "(ILStormPipes$Node;I)V"⟩
abbrev cX3_drain : ByteArray := prog_5_method_2_code
def yX3_drain : MethodName := ⟨RX3, "drain", "(J)J"⟩
def RX4 : String := "StormPipes$Line"
def TX4 : u_T := fun k => match k with
  | 0 => ("StormPipes$Line", "entries", "Ljava/util/ArrayList;", true)
  | 1 => ("StormPipes$Line", "pieces", "Ljava/util/ArrayList;", true)
  | 2 => ("StormPipes$Line", "costAtEnd", "[J", true)
  | 3 => ("StormPipes$Line", "pieceCount", "I", false)
  | 4 => ("StormPipes$Line", "hasBegun", "Z", false)
  | 5 => ("StormPipes$Line", "isLaid", "Z", false)
  | 6 => ("StormPipes$Line", "ground", "I", false)
  | 7 => ("StormPipes$Line", "bottom", "I", false)
  | 8 => ("StormPipes$Line", "cover", "I", false)
  | _ => ("StormPipes$Line", "dig", "I", false)
def tyX4 : Nat → FieldType := fun k => match k with
  | 0 => .object "java/util/ArrayList"
  | 1 => .object "java/util/ArrayList"
  | 2 => .array .long
  | 3 => .int
  | 4 => .boolean
  | 5 => .boolean
  | 6 => .int
  | 7 => .int
  | 8 => .int
  | _ => .int
abbrev wsX40 : List Cond := u_ws RX4 TX4 10
theorem nmX4 : ∀ a, a < 10 → ∀ b, b < 10 → a ≠ b → (TX4 a).2.1 ≠ (TX4 b).2.1 := by decide +kernel
theorem tyX4_ok : ∀ k, k < 10 → parseFieldDescriptor (TX4 k).2.2.1 = some (tyX4 k) := by decide +kernel
abbrev cX4_init : ByteArray := prog_6_method_1_code
def yX4_init : MethodName := ⟨RX4, "<init>", "()V"⟩
abbrev cX4_addEntry : ByteArray := prog_6_method_2_code
def yX4_addEntry : MethodName := ⟨RX4, "addEntry", "(II)I"⟩
abbrev cX4_beginAnew : ByteArray := prog_6_method_3_code
def yX4_beginAnew : MethodName := ⟨RX4, "beginAnew", "(II)V"⟩
abbrev cX4_addPiece : ByteArray := prog_6_method_4_code
def yX4_addPiece : MethodName := ⟨RX4, "addPiece", "(III)I"⟩
abbrev cX4_layBest : ByteArray := prog_6_method_5_code
def yX4_layBest : MethodName := ⟨RX4, "layBest", "(II)J"⟩
abbrev cX4_tellLaid : ByteArray := prog_6_method_6_code
def yX4_tellLaid : MethodName := ⟨RX4, "tellLaid", "(II)I"⟩
abbrev cX4_weighPiece : ByteArray := prog_6_method_7_code
def yX4_weighPiece : MethodName := ⟨RX4, "weighPiece", "(I)V"⟩
abbrev cX4_weighEnds : ByteArray := prog_6_method_8_code
def yX4_weighEnds : MethodName := ⟨RX4, "weighEnds", "(II)V"⟩
abbrev cX4_cheapestEnd : ByteArray := prog_6_method_9_code
def yX4_cheapestEnd : MethodName := ⟨RX4, "cheapestEnd", "(III)I"⟩
abbrev cX4_costFrom : ByteArray := prog_6_method_10_code
def yX4_costFrom : MethodName := ⟨RX4, "costFrom", "(III)J"⟩
abbrev cX4_isCoveredAtBegin : ByteArray := prog_6_method_11_code
def yX4_isCoveredAtBegin : MethodName := ⟨RX4, "isCoveredAtBegin", "(III)Z"⟩
abbrev cX4_leastFall : ByteArray := prog_6_method_12_code
def yX4_leastFall : MethodName := ⟨RX4, "leastFall", "(II)I"⟩
abbrev cX4_followBest : ByteArray := prog_6_method_13_code
def yX4_followBest : MethodName := ⟨RX4, "followBest", "()V"⟩
abbrev cX4_layPiece : ByteArray := prog_6_method_14_code
def yX4_layPiece : MethodName := ⟨RX4, "layPiece", "(III)V"⟩
abbrev cX4_fallThatCosts : ByteArray := prog_6_method_15_code
def yX4_fallThatCosts : MethodName := ⟨RX4, "fallThatCosts", "(JIII)I"⟩
def RX5 : String := "StormPipes$Node"
def TX5 : u_T := fun k => match k with
  | 0 => ("StormPipes$Node", "bottom", "I", true)
  | 1 => ("StormPipes$Node", "room", "I", true)
  | 2 => ("StormPipes$Node", "full", "J", true)
  | 3 => ("StormPipes$Node", "litres", "J", false)
  | 4 => ("StormPipes$Node", "markedLevel", "J", false)
  | 5 => ("StormPipes$Node", "overfull", "J", false)
  | 6 => ("StormPipes$Node", "gated", "J", false)
  | _ => ("StormPipes$Node", "street", "I", false)
def tyX5 : Nat → FieldType := fun k => match k with
  | 0 => .int
  | 1 => .int
  | 2 => .long
  | 3 => .long
  | 4 => .long
  | 5 => .long
  | 6 => .long
  | _ => .int
abbrev wsX50 : List Cond := u_ws RX5 TX5 8
theorem nmX5 : ∀ a, a < 8 → ∀ b, b < 8 → a ≠ b → (TX5 a).2.1 ≠ (TX5 b).2.1 := by decide +kernel
theorem tyX5_ok : ∀ k, k < 8 → parseFieldDescriptor (TX5 k).2.2.1 = some (tyX5 k) := by decide +kernel
abbrev cX5_init : ByteArray := prog_7_method_1_code
def yX5_init : MethodName := ⟨RX5, "<init>", "(III)V"⟩
abbrev cX5_levelNow : ByteArray := prog_7_method_2_code
def yX5_levelNow : MethodName := ⟨RX5, "levelNow", "()J"⟩
abbrev cX5_markLevel : ByteArray := prog_7_method_3_code
def yX5_markLevel : MethodName := ⟨RX5, "markLevel", "()V"⟩
abbrev cX5_giveTo : ByteArray := prog_7_method_4_code
def yX5_giveTo : MethodName := ⟨RX5, "giveTo", "(LStormPipes$Node;J)J"⟩
abbrev cX5_spill : ByteArray := prog_7_method_5_code
def yX5_spill : MethodName := ⟨RX5, "spill", "()J"⟩
def RX6 : String := "StormPipes$Piece"
def TX6 : u_T := fun k => match k with
  | 0 => ("StormPipes$Piece", "least", "[J", true)
  | 1 => ("StormPipes$Piece", "ground", "I", false)
  | 2 => ("StormPipes$Piece", "length", "I", false)
  | 3 => ("StormPipes$Piece", "need", "I", false)
  | 4 => ("StormPipes$Piece", "laidEntry", "I", false)
  | 5 => ("StormPipes$Piece", "laidFall", "I", false)
  | _ => ("StormPipes$Piece", "laidBottom", "I", false)
def tyX6 : Nat → FieldType := fun k => match k with
  | 0 => .array .long
  | 1 => .int
  | 2 => .int
  | 3 => .int
  | 4 => .int
  | 5 => .int
  | _ => .int
abbrev wsX60 : List Cond := u_ws RX6 TX6 7
theorem nmX6 : ∀ a, a < 7 → ∀ b, b < 7 → a ≠ b → (TX6 a).2.1 ≠ (TX6 b).2.1 := by decide +kernel
theorem tyX6_ok : ∀ k, k < 7 → parseFieldDescriptor (TX6 k).2.2.1 = some (tyX6 k) := by decide +kernel
abbrev cX6_init : ByteArray := prog_8_method_1_code
def yX6_init : MethodName := ⟨RX6, "<init>", "(I)V"⟩
def RX7 : String := "StormPipes$Pipe"
def TX7 : u_T := fun k => match k with
  | 0 => ("StormPipes$Pipe", "from", "LStormPipes$Node;", true)
  | 1 => ("StormPipes$Pipe", "to", "LStormPipes$Node;", true)
  | 2 => ("StormPipes$Pipe", "square", "J", true)
  | 3 => ("StormPipes$Pipe", "resistance", "J", true)
  | 4 => ("StormPipes$Pipe", "rest", "J", false)
  | 5 => ("StormPipes$Pipe", "movedLast", "J", false)
  | _ => ("StormPipes$Pipe", "movedInAll", "J", false)
def tyX7 : Nat → FieldType := fun k => match k with
  | 0 => .object "StormPipes$Node"
  | 1 => .object "StormPipes$Node"
  | 2 => .long
  | 3 => .long
  | 4 => .long
  | 5 => .long
  | _ => .long
abbrev wsX70 : List Cond := u_ws RX7 TX7 7
theorem nmX7 : ∀ a, a < 7 → ∀ b, b < 7 → a ≠ b → (TX7 a).2.1 ≠ (TX7 b).2.1 := by decide +kernel
theorem tyX7_ok : ∀ k, k < 7 → parseFieldDescriptor (TX7 k).2.2.1 = some (tyX7 k) := by decide +kernel
abbrev cX7_init : ByteArray := prog_9_method_1_code
def yX7_init : MethodName := ⟨RX7, "<init>", "(LStormPipes$Node;LStormPipes$Node;II)V"⟩
abbrev cX7_carry : ByteArray := prog_9_method_2_code
def yX7_carry : MethodName := ⟨RX7, "carry", "()V"⟩
def RX8 : String := "StormPipes$Pump"
def TX8 : u_T := fun k => match k with
  | 0 => ("StormPipes$Pump", "node", "LStormPipes$Node;", true)
  | 1 => ("StormPipes$Pump", "to", "LStormPipes$Node;", true)
  | 2 => ("StormPipes$Pump", "on", "I", true)
  | 3 => ("StormPipes$Pump", "off", "I", true)
  | 4 => ("StormPipes$Pump", "rate", "I", true)
  | _ => ("StormPipes$Pump", "isOn", "Z", false)
def tyX8 : Nat → FieldType := fun k => match k with
  | 0 => .object "StormPipes$Node"
  | 1 => .object "StormPipes$Node"
  | 2 => .int
  | 3 => .int
  | 4 => .int
  | _ => .boolean
abbrev wsX80 : List Cond := u_ws RX8 TX8 6
theorem nmX8 : ∀ a, a < 6 → ∀ b, b < 6 → a ≠ b → (TX8 a).2.1 ≠ (TX8 b).2.1 := by decide +kernel
theorem tyX8_ok : ∀ k, k < 6 → parseFieldDescriptor (TX8 k).2.2.1 = some (tyX8 k) := by decide +kernel
abbrev cX8_init : ByteArray := prog_10_method_1_code
def yX8_init : MethodName := ⟨RX8, "<init>", "(LStormPipes$Node;LStormPipes$Node;III)V"⟩
abbrev cX8_lift : ByteArray := prog_10_method_2_code
def yX8_lift : MethodName := ⟨RX8, "lift", "()V"⟩
def RX9 : String := "StormPipes"
def TX9 : u_T := fun k => match k with
  | 0 => ("StormPipes", "nodeLimit", "I", true)
  | 1 => ("StormPipes", "nodes", "Ljava/util/ArrayList;", true)
  | 2 => ("StormPipes", "pipes", "Ljava/util/ArrayList;", true)
  | 3 => ("StormPipes", "areas", "Ljava/util/ArrayList;", true)
  | 4 => ("StormPipes", "pumps", "Ljava/util/ArrayList;", true)
  | 5 => ("StormPipes", "gates", "Ljava/util/ArrayList;", true)
  | 6 => ("StormPipes", "gullies", "Ljava/util/ArrayList;", true)
  | 7 => ("StormPipes", "rains", "[I", true)
  | 8 => ("StormPipes", "cells", "[J", true)
  | 9 => ("StormPipes", "line", "LStormPipes$Line;", true)
  | 10 => ("StormPipes", "seconds", "I", false)
  | 11 => ("StormPipes", "rained", "J", false)
  | 12 => ("StormPipes", "out", "J", false)
  | _ => ("StormPipes", "outside", "J", false)
def tyX9 : Nat → FieldType := fun k => match k with
  | 0 => .int
  | 1 => .object "java/util/ArrayList"
  | 2 => .object "java/util/ArrayList"
  | 3 => .object "java/util/ArrayList"
  | 4 => .object "java/util/ArrayList"
  | 5 => .object "java/util/ArrayList"
  | 6 => .object "java/util/ArrayList"
  | 7 => .array .int
  | 8 => .array .long
  | 9 => .object "StormPipes$Line"
  | 10 => .int
  | 11 => .long
  | 12 => .long
  | _ => .long
abbrev wsX90 : List Cond := u_ws RX9 TX9 14
theorem nmX9 : ∀ a, a < 14 → ∀ b, b < 14 → a ≠ b → (TX9 a).2.1 ≠ (TX9 b).2.1 := by decide +kernel
theorem tyX9_ok : ∀ k, k < 14 → parseFieldDescriptor (TX9 k).2.2.1 = some (tyX9 k) := by decide +kernel
abbrev cX9_init : ByteArray := prog_1_method_1_code
def yX9_init : MethodName := ⟨RX9, "<init>", "(I)V"⟩
abbrev cX9_node : ByteArray := prog_1_method_2_code
def yX9_node : MethodName := ⟨RX9, "node", "(III)I"⟩
abbrev cX9_pipe : ByteArray := prog_1_method_3_code
def yX9_pipe : MethodName := ⟨RX9, "pipe", "(IIII)I"⟩
abbrev cX9_area : ByteArray := prog_1_method_4_code
def yX9_area : MethodName := ⟨RX9, "area", "(III)I"⟩
abbrev cX9_rain : ByteArray := prog_1_method_5_code
def yX9_rain : MethodName := ⟨RX9, "rain", "(II)I"⟩
abbrev cX9_pump : ByteArray := prog_1_method_6_code
def yX9_pump : MethodName := ⟨RX9, "pump", "(IIIII)I"⟩
abbrev cX9_gate : ByteArray := prog_1_method_7_code
def yX9_gate : MethodName := ⟨RX9, "gate", "(III)I"⟩
abbrev cX9_gully : ByteArray := prog_1_method_8_code
def yX9_gully : MethodName := ⟨RX9, "gully", "(III)I"⟩
abbrev cX9_street : ByteArray := prog_1_method_9_code
def yX9_street : MethodName := ⟨RX9, "street", "(II)I"⟩
abbrev cX9_run : ByteArray := prog_1_method_10_code
def yX9_run : MethodName := ⟨RX9, "run", "(I)I"⟩
abbrev cX9_told : ByteArray := prog_1_method_11_code
def yX9_told : MethodName := ⟨RX9, "told", "(II)J"⟩
abbrev cX9_flow : ByteArray := prog_1_method_12_code
def yX9_flow : MethodName := ⟨RX9, "flow", "(II)J"⟩
abbrev cX9_cell : ByteArray := prog_1_method_13_code
def yX9_cell : MethodName := ⟨RX9, "cell", "(I)J"⟩
abbrev cX9_pumps : ByteArray := prog_1_method_14_code
def yX9_pumps : MethodName := ⟨RX9, "pumps", "(I)I"⟩
abbrev cX9_litres : ByteArray := prog_1_method_15_code
def yX9_litres : MethodName := ⟨RX9, "litres", "(I)J"⟩
abbrev cX9_keeps : ByteArray := prog_1_method_16_code
def yX9_keeps : MethodName := ⟨RX9, "keeps", "()Z"⟩
abbrev cX9_list : ByteArray := prog_1_method_17_code
def yX9_list : MethodName := ⟨RX9, "list", "(II)I"⟩
abbrev cX9_begin : ByteArray := prog_1_method_18_code
def yX9_begin : MethodName := ⟨RX9, "begin", "(II)Z"⟩
abbrev cX9_piece : ByteArray := prog_1_method_19_code
def yX9_piece : MethodName := ⟨RX9, "piece", "(III)I"⟩
abbrev cX9_lay : ByteArray := prog_1_method_20_code
def yX9_lay : MethodName := ⟨RX9, "lay", "(II)J"⟩
abbrev cX9_laid : ByteArray := prog_1_method_21_code
def yX9_laid : MethodName := ⟨RX9, "laid", "(II)I"⟩
abbrev cX9_count : ByteArray := prog_1_method_22_code
def yX9_count : MethodName := ⟨RX9, "count", "(I)I"⟩
abbrev cX9_isWithin : ByteArray := prog_1_method_23_code
def yX9_isWithin : MethodName := ⟨RX9, "isWithin", "(III)Z"⟩
abbrev cX9_isHeight : ByteArray := prog_1_method_24_code
def yX9_isHeight : MethodName := ⟨RX9, "isHeight", "(I)Z"⟩
abbrev cX9_isCell : ByteArray := prog_1_method_25_code
def yX9_isCell : MethodName := ⟨RX9, "isCell", "(I)Z"⟩
abbrev cX9_isNode : ByteArray := prog_1_method_26_code
def yX9_isNode : MethodName := ⟨RX9, "isNode", "(I)Z"⟩
abbrev cX9_areTwoNodes : ByteArray := prog_1_method_27_code
def yX9_areTwoNodes : MethodName := ⟨RX9, "areTwoNodes", "(II)Z"⟩
abbrev cX9_litresInNodes : ByteArray := prog_1_method_28_code
def yX9_litresInNodes : MethodName := ⟨RX9, "litresInNodes", "()J"⟩
abbrev cX9_litresInCells : ByteArray := prog_1_method_29_code
def yX9_litresInCells : MethodName := ⟨RX9, "litresInCells", "()J"⟩
abbrev cX9_passSecond : ByteArray := prog_1_method_30_code
def yX9_passSecond : MethodName := ⟨RX9, "passSecond", "()V"⟩
abbrev cX9_rainOnAreas : ByteArray := prog_1_method_31_code
def yX9_rainOnAreas : MethodName := ⟨RX9, "rainOnAreas", "()V"⟩
abbrev cX9_carryByPipes : ByteArray := prog_1_method_32_code
def yX9_carryByPipes : MethodName := ⟨RX9, "carryByPipes", "()V"⟩
abbrev cX9_drainCells : ByteArray := prog_1_method_33_code
def yX9_drainCells : MethodName := ⟨RX9, "drainCells", "()V"⟩
abbrev cX9_spillNodes : ByteArray := prog_1_method_34_code
def yX9_spillNodes : MethodName := ⟨RX9, "spillNodes", "()V"⟩
def RX10 : String := "StormPipesModel"
def TX10 : u_T := fun k => match k with
  | 0 => ("StormPipesModel", "most", "I", true)
  | 1 => ("StormPipesModel", "nodes", "I", false)
  | 2 => ("StormPipesModel", "ground", "[I", true)
  | 3 => ("StormPipesModel", "bottom", "[I", true)
  | 4 => ("StormPipesModel", "room", "[I", true)
  | 5 => ("StormPipesModel", "street", "[I", true)
  | 6 => ("StormPipesModel", "water", "[J", true)
  | 7 => ("StormPipesModel", "spilt", "[J", true)
  | 8 => ("StormPipesModel", "gone", "[J", true)
  | 9 => ("StormPipesModel", "level", "[J", true)
  | 10 => ("StormPipesModel", "pipes", "I", false)
  | 11 => ("StormPipesModel", "pipeFrom", "[I", true)
  | 12 => ("StormPipesModel", "pipeTo", "[I", true)
  | 13 => ("StormPipesModel", "pipeLength", "[I", true)
  | 14 => ("StormPipesModel", "pipeWidth", "[I", true)
  | 15 => ("StormPipesModel", "pipeRest", "[J", true)
  | 16 => ("StormPipesModel", "pipeLast", "[J", true)
  | 17 => ("StormPipesModel", "pipeAll", "[J", true)
  | 18 => ("StormPipesModel", "areas", "I", false)
  | 19 => ("StormPipesModel", "areaNode", "[I", true)
  | 20 => ("StormPipesModel", "squares", "[I", true)
  | 21 => ("StormPipesModel", "loss", "[I", true)
  | 22 => ("StormPipesModel", "areaRest", "[J", true)
  | 23 => ("StormPipesModel", "rains", "[I", true)
  | 24 => ("StormPipesModel", "pumps", "I", false)
  | 25 => ("StormPipesModel", "pumpNode", "[I", true)
  | 26 => ("StormPipesModel", "pumpTo", "[I", true)
  | 27 => ("StormPipesModel", "pumpOn", "[I", true)
  | 28 => ("StormPipesModel", "pumpOff", "[I", true)
  | 29 => ("StormPipesModel", "pumpRate", "[I", true)
  | 30 => ("StormPipesModel", "goes", "[Z", true)
  | 31 => ("StormPipesModel", "gates", "I", false)
  | 32 => ("StormPipesModel", "gateNode", "[I", true)
  | 33 => ("StormPipesModel", "gateHeight", "[I", true)
  | 34 => ("StormPipesModel", "gateRate", "[I", true)
  | 35 => ("StormPipesModel", "gullies", "I", false)
  | 36 => ("StormPipesModel", "gullyCell", "[I", true)
  | 37 => ("StormPipesModel", "gullyNode", "[I", true)
  | 38 => ("StormPipesModel", "gullyRate", "[I", true)
  | 39 => ("StormPipesModel", "cells", "[J", true)
  | 40 => ("StormPipesModel", "second", "I", false)
  | 41 => ("StormPipesModel", "rained", "J", false)
  | 42 => ("StormPipesModel", "out", "J", false)
  | 43 => ("StormPipesModel", "outside", "J", false)
  | 44 => ("StormPipesModel", "entries", "I", false)
  | 45 => ("StormPipesModel", "width", "[I", true)
  | 46 => ("StormPipesModel", "price", "[I", true)
  | 47 => ("StormPipesModel", "begun", "Z", false)
  | 48 => ("StormPipesModel", "lineGround", "I", false)
  | 49 => ("StormPipesModel", "lineBottom", "I", false)
  | 50 => ("StormPipesModel", "pieces", "I", false)
  | 51 => ("StormPipesModel", "pieceGround", "[I", true)
  | 52 => ("StormPipesModel", "pieceLength", "[I", true)
  | 53 => ("StormPipesModel", "pieceNeed", "[I", true)
  | 54 => ("StormPipesModel", "costs", "[J", true)
  | 55 => ("StormPipesModel", "isLaid", "Z", false)
  | 56 => ("StormPipesModel", "laidEntry", "[I", true)
  | 57 => ("StormPipesModel", "laidFall", "[I", true)
  | _ => ("StormPipesModel", "laidBottom", "[I", true)
def tyX10 : Nat → FieldType := fun k => match k with
  | 0 => .int
  | 1 => .int
  | 2 => .array .int
  | 3 => .array .int
  | 4 => .array .int
  | 5 => .array .int
  | 6 => .array .long
  | 7 => .array .long
  | 8 => .array .long
  | 9 => .array .long
  | 10 => .int
  | 11 => .array .int
  | 12 => .array .int
  | 13 => .array .int
  | 14 => .array .int
  | 15 => .array .long
  | 16 => .array .long
  | 17 => .array .long
  | 18 => .int
  | 19 => .array .int
  | 20 => .array .int
  | 21 => .array .int
  | 22 => .array .long
  | 23 => .array .int
  | 24 => .int
  | 25 => .array .int
  | 26 => .array .int
  | 27 => .array .int
  | 28 => .array .int
  | 29 => .array .int
  | 30 => .array .boolean
  | 31 => .int
  | 32 => .array .int
  | 33 => .array .int
  | 34 => .array .int
  | 35 => .int
  | 36 => .array .int
  | 37 => .array .int
  | 38 => .array .int
  | 39 => .array .long
  | 40 => .int
  | 41 => .long
  | 42 => .long
  | 43 => .long
  | 44 => .int
  | 45 => .array .int
  | 46 => .array .int
  | 47 => .boolean
  | 48 => .int
  | 49 => .int
  | 50 => .int
  | 51 => .array .int
  | 52 => .array .int
  | 53 => .array .int
  | 54 => .array .long
  | 55 => .boolean
  | 56 => .array .int
  | 57 => .array .int
  | _ => .array .int
abbrev wsX100 : List Cond := u_ws RX10 TX10 59
theorem nmX10 : ∀ a, a < 59 → ∀ b, b < 59 → a ≠ b → (TX10 a).2.1 ≠ (TX10 b).2.1 := by decide +kernel
theorem tyX10_ok : ∀ k, k < 59 → parseFieldDescriptor (TX10 k).2.2.1 = some (tyX10 k) := by decide +kernel
abbrev cX10_init : ByteArray := prog_12_method_1_code
def yX10_init : MethodName := ⟨RX10, "<init>", "(I)V"⟩
abbrev cX10_is : ByteArray := prog_12_method_2_code
def yX10_is : MethodName := ⟨RX10, "is", "(III)Z"⟩
abbrev cX10_isNode : ByteArray := prog_12_method_3_code
def yX10_isNode : MethodName := ⟨RX10, "isNode", "(I)Z"⟩
abbrev cX10_node : ByteArray := prog_12_method_4_code
def yX10_node : MethodName := ⟨RX10, "node", "(III)I"⟩
abbrev cX10_pipe : ByteArray := prog_12_method_5_code
def yX10_pipe : MethodName := ⟨RX10, "pipe", "(IIII)I"⟩
abbrev cX10_area : ByteArray := prog_12_method_6_code
def yX10_area : MethodName := ⟨RX10, "area", "(III)I"⟩
abbrev cX10_rain : ByteArray := prog_12_method_7_code
def yX10_rain : MethodName := ⟨RX10, "rain", "(II)I"⟩
abbrev cX10_pump : ByteArray := prog_12_method_8_code
def yX10_pump : MethodName := ⟨RX10, "pump", "(IIIII)I"⟩
abbrev cX10_gate : ByteArray := prog_12_method_9_code
def yX10_gate : MethodName := ⟨RX10, "gate", "(III)I"⟩
abbrev cX10_gully : ByteArray := prog_12_method_10_code
def yX10_gully : MethodName := ⟨RX10, "gully", "(III)I"⟩
abbrev cX10_street : ByteArray := prog_12_method_11_code
def yX10_street : MethodName := ⟨RX10, "street", "(II)I"⟩
abbrev cX10_levelOf : ByteArray := prog_12_method_12_code
def yX10_levelOf : MethodName := ⟨RX10, "levelOf", "(I)J"⟩
abbrev cX10_fullOf : ByteArray := prog_12_method_13_code
def yX10_fullOf : MethodName := ⟨RX10, "fullOf", "(I)J"⟩
abbrev cX10_less : ByteArray := prog_12_method_14_code
def yX10_less : MethodName := ⟨RX10, "less", "(JJ)J"⟩
abbrev cX10_rainOf : ByteArray := prog_12_method_15_code
def yX10_rainOf : MethodName := ⟨RX10, "rainOf", "(II)V"⟩
abbrev cX10_flowOf : ByteArray := prog_12_method_16_code
def yX10_flowOf : MethodName := ⟨RX10, "flowOf", "(I)V"⟩
abbrev cX10_pumpOf : ByteArray := prog_12_method_17_code
def yX10_pumpOf : MethodName := ⟨RX10, "pumpOf", "(I)V"⟩
abbrev cX10_gateOf : ByteArray := prog_12_method_18_code
def yX10_gateOf : MethodName := ⟨RX10, "gateOf", "(I)V"⟩
abbrev cX10_gullyOf : ByteArray := prog_12_method_19_code
def yX10_gullyOf : MethodName := ⟨RX10, "gullyOf", "(I)V"⟩
abbrev cX10_nodeOf : ByteArray := prog_12_method_20_code
def yX10_nodeOf : MethodName := ⟨RX10, "nodeOf", "(I)V"⟩
abbrev cX10_run : ByteArray := prog_12_method_21_code
def yX10_run : MethodName := ⟨RX10, "run", "(I)I"⟩
abbrev cX10_told : ByteArray := prog_12_method_22_code
def yX10_told : MethodName := ⟨RX10, "told", "(II)J"⟩
abbrev cX10_flow : ByteArray := prog_12_method_23_code
def yX10_flow : MethodName := ⟨RX10, "flow", "(II)J"⟩
abbrev cX10_cell : ByteArray := prog_12_method_24_code
def yX10_cell : MethodName := ⟨RX10, "cell", "(I)J"⟩
abbrev cX10_pumps : ByteArray := prog_12_method_25_code
def yX10_pumps : MethodName := ⟨RX10, "pumps", "(I)I"⟩
abbrev cX10_inNodes : ByteArray := prog_12_method_26_code
def yX10_inNodes : MethodName := ⟨RX10, "inNodes", "()J"⟩
abbrev cX10_inCells : ByteArray := prog_12_method_27_code
def yX10_inCells : MethodName := ⟨RX10, "inCells", "()J"⟩
abbrev cX10_litres : ByteArray := prog_12_method_28_code
def yX10_litres : MethodName := ⟨RX10, "litres", "(I)J"⟩
abbrev cX10_keeps : ByteArray := prog_12_method_29_code
def yX10_keeps : MethodName := ⟨RX10, "keeps", "()Z"⟩
abbrev cX10_list : ByteArray := prog_12_method_30_code
def yX10_list : MethodName := ⟨RX10, "list", "(II)I"⟩
abbrev cX10_begin : ByteArray := prog_12_method_31_code
def yX10_begin : MethodName := ⟨RX10, "begin", "(II)Z"⟩
abbrev cX10_piece : ByteArray := prog_12_method_32_code
def yX10_piece : MethodName := ⟨RX10, "piece", "(III)I"⟩
abbrev cX10_place : ByteArray := prog_12_method_33_code
def yX10_place : MethodName := ⟨RX10, "place", "(III)I"⟩
abbrev cX10_with : ByteArray := prog_12_method_34_code
def yX10_with : MethodName := ⟨RX10, "with", "(IIIIII)J"⟩
abbrev cX10_lay : ByteArray := prog_12_method_35_code
def yX10_lay : MethodName := ⟨RX10, "lay", "(II)J"⟩
abbrev cX10_laid : ByteArray := prog_12_method_36_code
def yX10_laid : MethodName := ⟨RX10, "laid", "(II)I"⟩
abbrev cX10_count : ByteArray := prog_12_method_37_code
def yX10_count : MethodName := ⟨RX10, "count", "(I)I"⟩
def RJx145de : String := "java/io/Serializable"
def TJx145de : u_T := fun k => match k with
  | _ => ("", "", "", false)
def tyJx145de : Nat → FieldType := fun k => match k with
  | _ => .int
abbrev wsJx145de0 : List Cond := u_ws RJx145de TJx145de 0
theorem nmJx145de : ∀ a, a < 0 → ∀ b, b < 0 → a ≠ b → (TJx145de a).2.1 ≠ (TJx145de b).2.1 := by decide +kernel
theorem tyJx145de_ok : ∀ k, k < 0 → parseFieldDescriptor (TJx145de k).2.2.1 = some (tyJx145de k) := by decide +kernel
def RJx8e188 : String := "java/lang/Cloneable"
def TJx8e188 : u_T := fun k => match k with
  | _ => ("", "", "", false)
def tyJx8e188 : Nat → FieldType := fun k => match k with
  | _ => .int
abbrev wsJx8e1880 : List Cond := u_ws RJx8e188 TJx8e188 0
theorem nmJx8e188 : ∀ a, a < 0 → ∀ b, b < 0 → a ≠ b → (TJx8e188 a).2.1 ≠ (TJx8e188 b).2.1 := by decide +kernel
theorem tyJx8e188_ok : ∀ k, k < 0 → parseFieldDescriptor (TJx8e188 k).2.2.1 = some (tyJx8e188 k) := by decide +kernel
def RJxab1ab : String := "java/lang/Iterable"
def TJxab1ab : u_T := fun k => match k with
  | _ => ("", "", "", false)
def tyJxab1ab : Nat → FieldType := fun k => match k with
  | _ => .int
abbrev wsJxab1ab0 : List Cond := u_ws RJxab1ab TJxab1ab 0
theorem nmJxab1ab : ∀ a, a < 0 → ∀ b, b < 0 → a ≠ b → (TJxab1ab a).2.1 ≠ (TJxab1ab b).2.1 := by decide +kernel
theorem tyJxab1ab_ok : ∀ k, k < 0 → parseFieldDescriptor (TJxab1ab k).2.2.1 = some (tyJxab1ab k) := by decide +kernel
def RJ9 : String := "java/lang/Math"
def TJ9 : u_T := fun k => match k with
  | _ => ("", "", "", false)
def tyJ9 : Nat → FieldType := fun k => match k with
  | _ => .int
abbrev wsJ90 : List Cond := u_ws RJ9 TJ9 0
theorem nmJ9 : ∀ a, a < 0 → ∀ b, b < 0 → a ≠ b → (TJ9 a).2.1 ≠ (TJ9 b).2.1 := by decide +kernel
theorem tyJ9_ok : ∀ k, k < 0 → parseFieldDescriptor (TJ9 k).2.2.1 = some (tyJ9 k) := by decide +kernel
abbrev cJ9_max_7cf53 : ByteArray := prog_16_method_65_code
def yJ9_max_7cf53 : MethodName := ⟨RJ9, "max", "(II)I"⟩
abbrev cJ9_max_f86c9 : ByteArray := prog_16_method_66_code
def yJ9_max_f86c9 : MethodName := ⟨RJ9, "max", "(JJ)J"⟩
abbrev cJ9_min_7cf53 : ByteArray := prog_16_method_69_code
def yJ9_min_7cf53 : MethodName := ⟨RJ9, "min", "(II)I"⟩
abbrev cJ9_min_f86c9 : ByteArray := prog_16_method_70_code
def yJ9_min_f86c9 : MethodName := ⟨RJ9, "min", "(JJ)J"⟩
def RJ10 : String := "java/lang/System"
def TJ10 : u_T := fun k => match k with
  | _ => ("", "", "", false)
def tyJ10 : Nat → FieldType := fun k => match k with
  | _ => .int
abbrev wsJ100 : List Cond := u_ws RJ10 TJ10 0
theorem nmJ10 : ∀ a, a < 0 → ∀ b, b < 0 → a ≠ b → (TJ10 a).2.1 ≠ (TJ10 b).2.1 := by decide +kernel
theorem tyJ10_ok : ∀ k, k < 0 → parseFieldDescriptor (TJ10 k).2.2.1 = some (tyJ10 k) := by decide +kernel
def RJxa1e45 : String := "java/util/AbstractCollection"
def TJxa1e45 : u_T := fun k => match k with
  | _ => ("", "", "", false)
def tyJxa1e45 : Nat → FieldType := fun k => match k with
  | _ => .int
abbrev wsJxa1e450 : List Cond := u_ws RJxa1e45 TJxa1e45 0
theorem nmJxa1e45 : ∀ a, a < 0 → ∀ b, b < 0 → a ≠ b → (TJxa1e45 a).2.1 ≠ (TJxa1e45 b).2.1 := by decide +kernel
theorem tyJxa1e45_ok : ∀ k, k < 0 → parseFieldDescriptor (TJxa1e45 k).2.2.1 = some (tyJxa1e45 k) := by decide +kernel
abbrev cJxa1e45_init_da8c8 : ByteArray := prog_18_method_1_code
def yJxa1e45_init_da8c8 : MethodName := ⟨RJxa1e45, "<init>", "()V"⟩
def RJxc12de : String := "java/util/AbstractList"
def TJxc12de : u_T := fun k => match k with
  | _ => ("", "", "", false)
def tyJxc12de : Nat → FieldType := fun k => match k with
  | _ => .int
abbrev wsJxc12de0 : List Cond := u_ws RJxc12de TJxc12de 0
theorem nmJxc12de : ∀ a, a < 0 → ∀ b, b < 0 → a ≠ b → (TJxc12de a).2.1 ≠ (TJxc12de b).2.1 := by decide +kernel
theorem tyJxc12de_ok : ∀ k, k < 0 → parseFieldDescriptor (TJxc12de k).2.2.1 = some (tyJxc12de k) := by decide +kernel
abbrev cJxc12de_init_da8c8 : ByteArray := prog_19_method_1_code
def yJxc12de_init_da8c8 : MethodName := ⟨RJxc12de, "<init>", "()V"⟩
def RJx4a65c : String := "java/util/ArrayList"
def TJx4a65c : u_T := fun k => match k with
  | 0 => ("java/util/AbstractList", "modCount", "I", false)
  | 1 => ("java/util/ArrayList", "elementData", "[Ljava/lang/Object;", false)
  | _ => ("java/util/ArrayList", "size", "I", false)
def tyJx4a65c : Nat → FieldType := fun k => match k with
  | 0 => .int
  | 1 => .array (.object "java/lang/Object")
  | _ => .int
abbrev wsJx4a65c0 : List Cond := u_ws RJx4a65c TJx4a65c 3
theorem nmJx4a65c : ∀ a, a < 3 → ∀ b, b < 3 → a ≠ b → (TJx4a65c a).2.1 ≠ (TJx4a65c b).2.1 := by decide +kernel
theorem tyJx4a65c_ok : ∀ k, k < 3 → parseFieldDescriptor (TJx4a65c k).2.2.1 = some (tyJx4a65c k) := by decide +kernel
abbrev cJx4a65c_init_da8c8 : ByteArray := prog_20_method_2_code
def yJx4a65c_init_da8c8 : MethodName := ⟨RJx4a65c, "<init>", "()V"⟩
abbrev cJx4a65c_grow_92f84 : ByteArray := prog_20_method_6_code
def yJx4a65c_grow_92f84 : MethodName := ⟨RJx4a65c, "grow", "(I)[Ljava/lang/Object;"⟩
abbrev cJx4a65c_grow_d5877 : ByteArray := prog_20_method_7_code
def yJx4a65c_grow_d5877 : MethodName := ⟨RJx4a65c, "grow", "()[Ljava/lang/Object;"⟩
abbrev cJx4a65c_size_8abf5 : ByteArray := prog_20_method_8_code
def yJx4a65c_size_8abf5 : MethodName := ⟨RJx4a65c, "size", "()I"⟩
abbrev cJx4a65c_isEmpty_aae02 : ByteArray := prog_20_method_9_code
def yJx4a65c_isEmpty_aae02 : MethodName := ⟨RJx4a65c, "isEmpty", "()Z"⟩
abbrev cJx4a65c_elementData_915e3 : ByteArray := prog_20_method_18_code
def yJx4a65c_elementData_915e3 : MethodName := ⟨RJx4a65c, "elementData", "(I)Ljava/lang/Object;"⟩
abbrev cJx4a65c_get_915e3 : ByteArray := prog_20_method_20_code
def yJx4a65c_get_915e3 : MethodName := ⟨RJx4a65c, "get", "(I)Ljava/lang/Object;"⟩
abbrev cJx4a65c_add_72be8 : ByteArray := prog_20_method_24_code
def yJx4a65c_add_72be8 : MethodName := ⟨RJx4a65c, "add", "(Ljava/lang/Object;[Ljava/lang/Object;I)V"⟩
abbrev cJx4a65c_add_9ea2d : ByteArray := prog_20_method_25_code
def yJx4a65c_add_9ea2d : MethodName := ⟨RJx4a65c, "add", "(Ljava/lang/Object;)Z"⟩
def RJ7 : String := "java/util/Arrays"
def TJ7 : u_T := fun k => match k with
  | _ => ("", "", "", false)
def tyJ7 : Nat → FieldType := fun k => match k with
  | _ => .int
abbrev wsJ70 : List Cond := u_ws RJ7 TJ7 0
theorem nmJ7 : ∀ a, a < 0 → ∀ b, b < 0 → a ≠ b → (TJ7 a).2.1 ≠ (TJ7 b).2.1 := by decide +kernel
theorem tyJ7_ok : ∀ k, k < 0 → parseFieldDescriptor (TJ7 k).2.2.1 = some (tyJ7 k) := by decide +kernel
abbrev cJ7_copyOf_1904c : ByteArray := prog_21_method_119_code
def yJ7_copyOf_1904c : MethodName := ⟨RJ7, "copyOf", "([Ljava/lang/Object;I)[Ljava/lang/Object;"⟩
abbrev cJ7_copyOf_6403c : ByteArray := prog_21_method_120_code
def yJ7_copyOf_6403c : MethodName := ⟨RJ7, "copyOf", "([Ljava/lang/Object;ILjava/lang/Class;)[Ljava/lang/Object;"⟩
def RJx5ef63 : String := "java/util/Collection"
def TJx5ef63 : u_T := fun k => match k with
  | _ => ("", "", "", false)
def tyJx5ef63 : Nat → FieldType := fun k => match k with
  | _ => .int
abbrev wsJx5ef630 : List Cond := u_ws RJx5ef63 TJx5ef63 0
theorem nmJx5ef63 : ∀ a, a < 0 → ∀ b, b < 0 → a ≠ b → (TJx5ef63 a).2.1 ≠ (TJx5ef63 b).2.1 := by decide +kernel
theorem tyJx5ef63_ok : ∀ k, k < 0 → parseFieldDescriptor (TJx5ef63 k).2.2.1 = some (tyJx5ef63 k) := by decide +kernel
def RJxbd725 : String := "java/util/List"
def TJxbd725 : u_T := fun k => match k with
  | _ => ("", "", "", false)
def tyJxbd725 : Nat → FieldType := fun k => match k with
  | _ => .int
abbrev wsJxbd7250 : List Cond := u_ws RJxbd725 TJxbd725 0
theorem nmJxbd725 : ∀ a, a < 0 → ∀ b, b < 0 → a ≠ b → (TJxbd725 a).2.1 ≠ (TJxbd725 b).2.1 := by decide +kernel
theorem tyJxbd725_ok : ∀ k, k < 0 → parseFieldDescriptor (TJxbd725 k).2.2.1 = some (tyJxbd725 k) := by decide +kernel
def RJ15 : String := "java/util/Objects"
def TJ15 : u_T := fun k => match k with
  | _ => ("", "", "", false)
def tyJ15 : Nat → FieldType := fun k => match k with
  | _ => .int
abbrev wsJ150 : List Cond := u_ws RJ15 TJ15 0
theorem nmJ15 : ∀ a, a < 0 → ∀ b, b < 0 → a ≠ b → (TJ15 a).2.1 ≠ (TJ15 b).2.1 := by decide +kernel
theorem tyJ15_ok : ∀ k, k < 0 → parseFieldDescriptor (TJ15 k).2.2.1 = some (tyJ15 k) := by decide +kernel
abbrev cJ15_checkIndex_7cf53 : ByteArray := prog_24_method_17_code
def yJ15_checkIndex_7cf53 : MethodName := ⟨RJ15, "checkIndex", "(II)I"⟩
def RJxf0a74 : String := "java/util/RandomAccess"
def TJxf0a74 : u_T := fun k => match k with
  | _ => ("", "", "", false)
def tyJxf0a74 : Nat → FieldType := fun k => match k with
  | _ => .int
abbrev wsJxf0a740 : List Cond := u_ws RJxf0a74 TJxf0a74 0
theorem nmJxf0a74 : ∀ a, a < 0 → ∀ b, b < 0 → a ≠ b → (TJxf0a74 a).2.1 ≠ (TJxf0a74 b).2.1 := by decide +kernel
theorem tyJxf0a74_ok : ∀ k, k < 0 → parseFieldDescriptor (TJxf0a74 k).2.2.1 = some (tyJxf0a74 k) := by decide +kernel
def RJxa66e6 : String := "java/util/SequencedCollection"
def TJxa66e6 : u_T := fun k => match k with
  | _ => ("", "", "", false)
def tyJxa66e6 : Nat → FieldType := fun k => match k with
  | _ => .int
abbrev wsJxa66e60 : List Cond := u_ws RJxa66e6 TJxa66e6 0
theorem nmJxa66e6 : ∀ a, a < 0 → ∀ b, b < 0 → a ≠ b → (TJxa66e6 a).2.1 ≠ (TJxa66e6 b).2.1 := by decide +kernel
theorem tyJxa66e6_ok : ∀ k, k < 0 → parseFieldDescriptor (TJxa66e6 k).2.2.1 = some (tyJxa66e6 k) := by decide +kernel
def RJ8 : String := "jdk/internal/util/ArraysSupport"
def TJ8 : u_T := fun k => match k with
  | _ => ("", "", "", false)
def tyJ8 : Nat → FieldType := fun k => match k with
  | _ => .int
abbrev wsJ80 : List Cond := u_ws RJ8 TJ8 0
theorem nmJ8 : ∀ a, a < 0 → ∀ b, b < 0 → a ≠ b → (TJ8 a).2.1 ≠ (TJ8 b).2.1 := by decide +kernel
theorem tyJ8_ok : ∀ k, k < 0 → parseFieldDescriptor (TJ8 k).2.2.1 = some (tyJ8 k) := by decide +kernel
abbrev cJ8_newLength_cabcc : ByteArray := prog_27_method_27_code
def yJ8_newLength_cabcc : MethodName := ⟨RJ8, "newLength", "(III)I"⟩
abbrev cJ8_hugeLength_7cf53 : ByteArray := prog_27_method_28_code
def yJ8_hugeLength_7cf53 : MethodName := ⟨RJ8, "hugeLength", "(II)I"⟩
def RJ3 : String := "jdk/internal/util/Preconditions"
def TJ3 : u_T := fun k => match k with
  | _ => ("", "", "", false)
def tyJ3 : Nat → FieldType := fun k => match k with
  | _ => .int
abbrev wsJ30 : List Cond := u_ws RJ3 TJ3 0
theorem nmJ3 : ∀ a, a < 0 → ∀ b, b < 0 → a ≠ b → (TJ3 a).2.1 ≠ (TJ3 b).2.1 := by decide +kernel
theorem tyJ3_ok : ∀ k, k < 0 → parseFieldDescriptor (TJ3 k).2.2.1 = some (tyJ3 k) := by decide +kernel
abbrev cJ3_checkIndex_8e157 : ByteArray := prog_28_method_11_code
def yJ3_checkIndex_8e157 : MethodName := ⟨RJ3, "checkIndex", "(IILjava/util/function/BiFunction;)I"⟩
def RL : String := "StormPipesLaw"
abbrev cL_cell : ByteArray := method_2_code
def yL_cell : MethodName := ⟨RL, "cell", "([II)I"⟩
abbrev cL_law : ByteArray := code
def yL_law : MethodName := ⟨RL, "law", "([I)Z"⟩
abbrev vwCl : List vw_C := [(RJx4a65c, TJx4a65c, 3), (RX0, TX0, 3), (RX1, TX1, 2), (RX2, TX2, 3), (RX3, TX3, 3), (RX4, TX4, 10), (RX5, TX5, 8), (RX6, TX6, 7), (RX7, TX7, 7), (RX8, TX8, 6), (RX9, TX9, 14), (RX10, TX10, 59)]

section
-- ===== PART A: goes FIRST, ahead of the names: the tables' words, and 'selects' of the private methods out of them =====
/-- a private method of a class that the tables say can be made, by its rows of tables_1 -/
def lw_okq (q : MethodName × Nat) : Prop := (q.1.cls ≠ "java/lang/invoke/MethodHandle" ∧ q.1.cls ≠ "java/lang/invoke/VarHandle") ∧ Cond.instantiable q.1.cls q.2 ∈ tables_1 ∧ Cond.privateMethod q.1 ∈ tables_1 ∧ Cond.instanceMethod q.1 ∈ tables_1
theorem lw_p0 : lw_okq (⟨"java/util/ArrayList", "add", "(Ljava/lang/Object;[Ljava/lang/Object;I)V"⟩, 3) := ⟨⟨by decide +kernel, by decide +kernel⟩, List.mem_of_getElem? (i := 30) (by decide +kernel), List.mem_of_getElem? (i := 209) (by decide +kernel), List.mem_of_getElem? (i := 210) (by decide +kernel)⟩
theorem lw_p1 : lw_okq (⟨"java/util/ArrayList", "grow", "()[Ljava/lang/Object;"⟩, 3) := ⟨⟨by decide +kernel, by decide +kernel⟩, List.mem_of_getElem? (i := 30) (by decide +kernel), List.mem_of_getElem? (i := 213) (by decide +kernel), List.mem_of_getElem? (i := 214) (by decide +kernel)⟩
theorem lw_p2 : lw_okq (⟨"java/util/ArrayList", "grow", "(I)[Ljava/lang/Object;"⟩, 3) := ⟨⟨by decide +kernel, by decide +kernel⟩, List.mem_of_getElem? (i := 30) (by decide +kernel), List.mem_of_getElem? (i := 217) (by decide +kernel), List.mem_of_getElem? (i := 218) (by decide +kernel)⟩
theorem lw_p3 : lw_okq (⟨"StormPipes", "areTwoNodes", "(II)Z"⟩, 14) := ⟨⟨by decide +kernel, by decide +kernel⟩, List.mem_of_getElem? (i := 22) (by decide +kernel), List.mem_of_getElem? (i := 264) (by decide +kernel), List.mem_of_getElem? (i := 265) (by decide +kernel)⟩
theorem lw_p4 : lw_okq (⟨"StormPipes", "isNode", "(I)Z"⟩, 14) := ⟨⟨by decide +kernel, by decide +kernel⟩, List.mem_of_getElem? (i := 22) (by decide +kernel), List.mem_of_getElem? (i := 268) (by decide +kernel), List.mem_of_getElem? (i := 269) (by decide +kernel)⟩
theorem lw_p5 : lw_okq (⟨"StormPipes", "passSecond", "()V"⟩, 14) := ⟨⟨by decide +kernel, by decide +kernel⟩, List.mem_of_getElem? (i := 22) (by decide +kernel), List.mem_of_getElem? (i := 427) (by decide +kernel), List.mem_of_getElem? (i := 428) (by decide +kernel)⟩
theorem lw_p6 : lw_okq (⟨"StormPipes", "rainOnAreas", "()V"⟩, 14) := ⟨⟨by decide +kernel, by decide +kernel⟩, List.mem_of_getElem? (i := 22) (by decide +kernel), List.mem_of_getElem? (i := 431) (by decide +kernel), List.mem_of_getElem? (i := 432) (by decide +kernel)⟩
theorem lw_p7 : lw_okq (⟨"StormPipes", "carryByPipes", "()V"⟩, 14) := ⟨⟨by decide +kernel, by decide +kernel⟩, List.mem_of_getElem? (i := 22) (by decide +kernel), List.mem_of_getElem? (i := 440) (by decide +kernel), List.mem_of_getElem? (i := 441) (by decide +kernel)⟩
theorem lw_p8 : lw_okq (⟨"StormPipes", "drainCells", "()V"⟩, 14) := ⟨⟨by decide +kernel, by decide +kernel⟩, List.mem_of_getElem? (i := 22) (by decide +kernel), List.mem_of_getElem? (i := 477) (by decide +kernel), List.mem_of_getElem? (i := 478) (by decide +kernel)⟩
theorem lw_p9 : lw_okq (⟨"StormPipes", "spillNodes", "()V"⟩, 14) := ⟨⟨by decide +kernel, by decide +kernel⟩, List.mem_of_getElem? (i := 22) (by decide +kernel), List.mem_of_getElem? (i := 487) (by decide +kernel), List.mem_of_getElem? (i := 488) (by decide +kernel)⟩
theorem lw_p10 : lw_okq (⟨"StormPipes", "litresInNodes", "()J"⟩, 14) := ⟨⟨by decide +kernel, by decide +kernel⟩, List.mem_of_getElem? (i := 22) (by decide +kernel), List.mem_of_getElem? (i := 520) (by decide +kernel), List.mem_of_getElem? (i := 521) (by decide +kernel)⟩
theorem lw_p11 : lw_okq (⟨"StormPipes", "litresInCells", "()J"⟩, 14) := ⟨⟨by decide +kernel, by decide +kernel⟩, List.mem_of_getElem? (i := 22) (by decide +kernel), List.mem_of_getElem? (i := 524) (by decide +kernel), List.mem_of_getElem? (i := 525) (by decide +kernel)⟩
theorem lw_p12 : lw_okq (⟨"StormPipes$Line", "weighPiece", "(I)V"⟩, 10) := ⟨⟨by decide +kernel, by decide +kernel⟩, List.mem_of_getElem? (i := 56) (by decide +kernel), List.mem_of_getElem? (i := 617) (by decide +kernel), List.mem_of_getElem? (i := 618) (by decide +kernel)⟩
theorem lw_p13 : lw_okq (⟨"StormPipes$Line", "leastFall", "(II)I"⟩, 10) := ⟨⟨by decide +kernel, by decide +kernel⟩, List.mem_of_getElem? (i := 56) (by decide +kernel), List.mem_of_getElem? (i := 621) (by decide +kernel), List.mem_of_getElem? (i := 622) (by decide +kernel)⟩
theorem lw_p14 : lw_okq (⟨"StormPipes$Line", "weighEnds", "(II)V"⟩, 10) := ⟨⟨by decide +kernel, by decide +kernel⟩, List.mem_of_getElem? (i := 56) (by decide +kernel), List.mem_of_getElem? (i := 629) (by decide +kernel), List.mem_of_getElem? (i := 630) (by decide +kernel)⟩
theorem lw_p15 : lw_okq (⟨"StormPipes$Line", "costFrom", "(III)J"⟩, 10) := ⟨⟨by decide +kernel, by decide +kernel⟩, List.mem_of_getElem? (i := 56) (by decide +kernel), List.mem_of_getElem? (i := 633) (by decide +kernel), List.mem_of_getElem? (i := 634) (by decide +kernel)⟩
def lw_privs_1 : List (MethodName × Nat) := [(⟨"java/util/ArrayList", "add", "(Ljava/lang/Object;[Ljava/lang/Object;I)V"⟩, 3), (⟨"java/util/ArrayList", "grow", "()[Ljava/lang/Object;"⟩, 3), (⟨"java/util/ArrayList", "grow", "(I)[Ljava/lang/Object;"⟩, 3), (⟨"StormPipes", "areTwoNodes", "(II)Z"⟩, 14), (⟨"StormPipes", "isNode", "(I)Z"⟩, 14), (⟨"StormPipes", "passSecond", "()V"⟩, 14), (⟨"StormPipes", "rainOnAreas", "()V"⟩, 14), (⟨"StormPipes", "carryByPipes", "()V"⟩, 14), (⟨"StormPipes", "drainCells", "()V"⟩, 14), (⟨"StormPipes", "spillNodes", "()V"⟩, 14), (⟨"StormPipes", "litresInNodes", "()J"⟩, 14), (⟨"StormPipes", "litresInCells", "()J"⟩, 14), (⟨"StormPipes$Line", "weighPiece", "(I)V"⟩, 10), (⟨"StormPipes$Line", "leastFall", "(II)I"⟩, 10), (⟨"StormPipes$Line", "weighEnds", "(II)V"⟩, 10), (⟨"StormPipes$Line", "costFrom", "(III)J"⟩, 10)]
theorem lw_r1 : ∀ q ∈ lw_privs_1, lw_okq q := List.forall_mem_cons.mpr ⟨lw_p0, List.forall_mem_cons.mpr ⟨lw_p1, List.forall_mem_cons.mpr ⟨lw_p2, List.forall_mem_cons.mpr ⟨lw_p3, List.forall_mem_cons.mpr ⟨lw_p4, List.forall_mem_cons.mpr ⟨lw_p5, List.forall_mem_cons.mpr ⟨lw_p6, List.forall_mem_cons.mpr ⟨lw_p7, List.forall_mem_cons.mpr ⟨lw_p8, List.forall_mem_cons.mpr ⟨lw_p9, List.forall_mem_cons.mpr ⟨lw_p10, List.forall_mem_cons.mpr ⟨lw_p11, List.forall_mem_cons.mpr ⟨lw_p12, List.forall_mem_cons.mpr ⟨lw_p13, List.forall_mem_cons.mpr ⟨lw_p14, List.forall_mem_cons.mpr ⟨lw_p15, fun _ h => absurd h List.not_mem_nil⟩⟩⟩⟩⟩⟩⟩⟩⟩⟩⟩⟩⟩⟩⟩⟩
theorem lw_p16 : lw_okq (⟨"StormPipes$Line", "cheapestEnd", "(III)I"⟩, 10) := ⟨⟨by decide +kernel, by decide +kernel⟩, List.mem_of_getElem? (i := 56) (by decide +kernel), List.mem_of_getElem? (i := 639) (by decide +kernel), List.mem_of_getElem? (i := 640) (by decide +kernel)⟩
theorem lw_p17 : lw_okq (⟨"StormPipes$Line", "isCoveredAtBegin", "(III)Z"⟩, 10) := ⟨⟨by decide +kernel, by decide +kernel⟩, List.mem_of_getElem? (i := 56) (by decide +kernel), List.mem_of_getElem? (i := 643) (by decide +kernel), List.mem_of_getElem? (i := 644) (by decide +kernel)⟩
theorem lw_p18 : lw_okq (⟨"StormPipes$Line", "followBest", "()V"⟩, 10) := ⟨⟨by decide +kernel, by decide +kernel⟩, List.mem_of_getElem? (i := 56) (by decide +kernel), List.mem_of_getElem? (i := 647) (by decide +kernel), List.mem_of_getElem? (i := 648) (by decide +kernel)⟩
theorem lw_p19 : lw_okq (⟨"StormPipes$Line", "layPiece", "(III)V"⟩, 10) := ⟨⟨by decide +kernel, by decide +kernel⟩, List.mem_of_getElem? (i := 56) (by decide +kernel), List.mem_of_getElem? (i := 651) (by decide +kernel), List.mem_of_getElem? (i := 652) (by decide +kernel)⟩
theorem lw_p20 : lw_okq (⟨"StormPipes$Line", "fallThatCosts", "(JIII)I"⟩, 10) := ⟨⟨by decide +kernel, by decide +kernel⟩, List.mem_of_getElem? (i := 56) (by decide +kernel), List.mem_of_getElem? (i := 655) (by decide +kernel), List.mem_of_getElem? (i := 656) (by decide +kernel)⟩
theorem lw_p21 : lw_okq (⟨"StormPipesModel", "isNode", "(I)Z"⟩, 59) := ⟨⟨by decide +kernel, by decide +kernel⟩, List.mem_of_getElem? (i := 676) (by decide +kernel), List.mem_of_getElem? (i := 874) (by decide +kernel), List.mem_of_getElem? (i := 875) (by decide +kernel)⟩
theorem lw_p22 : lw_okq (⟨"StormPipesModel", "rainOf", "(II)V"⟩, 59) := ⟨⟨by decide +kernel, by decide +kernel⟩, List.mem_of_getElem? (i := 676) (by decide +kernel), List.mem_of_getElem? (i := 909) (by decide +kernel), List.mem_of_getElem? (i := 910) (by decide +kernel)⟩
theorem lw_p23 : lw_okq (⟨"StormPipesModel", "levelOf", "(I)J"⟩, 59) := ⟨⟨by decide +kernel, by decide +kernel⟩, List.mem_of_getElem? (i := 676) (by decide +kernel), List.mem_of_getElem? (i := 914) (by decide +kernel), List.mem_of_getElem? (i := 915) (by decide +kernel)⟩
theorem lw_p24 : lw_okq (⟨"StormPipesModel", "flowOf", "(I)V"⟩, 59) := ⟨⟨by decide +kernel, by decide +kernel⟩, List.mem_of_getElem? (i := 676) (by decide +kernel), List.mem_of_getElem? (i := 918) (by decide +kernel), List.mem_of_getElem? (i := 919) (by decide +kernel)⟩
theorem lw_p25 : lw_okq (⟨"StormPipesModel", "pumpOf", "(I)V"⟩, 59) := ⟨⟨by decide +kernel, by decide +kernel⟩, List.mem_of_getElem? (i := 676) (by decide +kernel), List.mem_of_getElem? (i := 926) (by decide +kernel), List.mem_of_getElem? (i := 927) (by decide +kernel)⟩
theorem lw_p26 : lw_okq (⟨"StormPipesModel", "gateOf", "(I)V"⟩, 59) := ⟨⟨by decide +kernel, by decide +kernel⟩, List.mem_of_getElem? (i := 676) (by decide +kernel), List.mem_of_getElem? (i := 930) (by decide +kernel), List.mem_of_getElem? (i := 931) (by decide +kernel)⟩
theorem lw_p27 : lw_okq (⟨"StormPipesModel", "gullyOf", "(I)V"⟩, 59) := ⟨⟨by decide +kernel, by decide +kernel⟩, List.mem_of_getElem? (i := 676) (by decide +kernel), List.mem_of_getElem? (i := 934) (by decide +kernel), List.mem_of_getElem? (i := 935) (by decide +kernel)⟩
theorem lw_p28 : lw_okq (⟨"StormPipesModel", "fullOf", "(I)J"⟩, 59) := ⟨⟨by decide +kernel, by decide +kernel⟩, List.mem_of_getElem? (i := 676) (by decide +kernel), List.mem_of_getElem? (i := 938) (by decide +kernel), List.mem_of_getElem? (i := 939) (by decide +kernel)⟩
theorem lw_p29 : lw_okq (⟨"StormPipesModel", "nodeOf", "(I)V"⟩, 59) := ⟨⟨by decide +kernel, by decide +kernel⟩, List.mem_of_getElem? (i := 676) (by decide +kernel), List.mem_of_getElem? (i := 942) (by decide +kernel), List.mem_of_getElem? (i := 943) (by decide +kernel)⟩
theorem lw_p30 : lw_okq (⟨"StormPipesModel", "inNodes", "()J"⟩, 59) := ⟨⟨by decide +kernel, by decide +kernel⟩, List.mem_of_getElem? (i := 676) (by decide +kernel), List.mem_of_getElem? (i := 969) (by decide +kernel), List.mem_of_getElem? (i := 970) (by decide +kernel)⟩
theorem lw_p31 : lw_okq (⟨"StormPipesModel", "inCells", "()J"⟩, 59) := ⟨⟨by decide +kernel, by decide +kernel⟩, List.mem_of_getElem? (i := 676) (by decide +kernel), List.mem_of_getElem? (i := 973) (by decide +kernel), List.mem_of_getElem? (i := 974) (by decide +kernel)⟩
def lw_privs_2 : List (MethodName × Nat) := [(⟨"StormPipes$Line", "cheapestEnd", "(III)I"⟩, 10), (⟨"StormPipes$Line", "isCoveredAtBegin", "(III)Z"⟩, 10), (⟨"StormPipes$Line", "followBest", "()V"⟩, 10), (⟨"StormPipes$Line", "layPiece", "(III)V"⟩, 10), (⟨"StormPipes$Line", "fallThatCosts", "(JIII)I"⟩, 10), (⟨"StormPipesModel", "isNode", "(I)Z"⟩, 59), (⟨"StormPipesModel", "rainOf", "(II)V"⟩, 59), (⟨"StormPipesModel", "levelOf", "(I)J"⟩, 59), (⟨"StormPipesModel", "flowOf", "(I)V"⟩, 59), (⟨"StormPipesModel", "pumpOf", "(I)V"⟩, 59), (⟨"StormPipesModel", "gateOf", "(I)V"⟩, 59), (⟨"StormPipesModel", "gullyOf", "(I)V"⟩, 59), (⟨"StormPipesModel", "fullOf", "(I)J"⟩, 59), (⟨"StormPipesModel", "nodeOf", "(I)V"⟩, 59), (⟨"StormPipesModel", "inNodes", "()J"⟩, 59), (⟨"StormPipesModel", "inCells", "()J"⟩, 59)]
theorem lw_r2 : ∀ q ∈ lw_privs_2, lw_okq q := List.forall_mem_cons.mpr ⟨lw_p16, List.forall_mem_cons.mpr ⟨lw_p17, List.forall_mem_cons.mpr ⟨lw_p18, List.forall_mem_cons.mpr ⟨lw_p19, List.forall_mem_cons.mpr ⟨lw_p20, List.forall_mem_cons.mpr ⟨lw_p21, List.forall_mem_cons.mpr ⟨lw_p22, List.forall_mem_cons.mpr ⟨lw_p23, List.forall_mem_cons.mpr ⟨lw_p24, List.forall_mem_cons.mpr ⟨lw_p25, List.forall_mem_cons.mpr ⟨lw_p26, List.forall_mem_cons.mpr ⟨lw_p27, List.forall_mem_cons.mpr ⟨lw_p28, List.forall_mem_cons.mpr ⟨lw_p29, List.forall_mem_cons.mpr ⟨lw_p30, List.forall_mem_cons.mpr ⟨lw_p31, fun _ h => absurd h List.not_mem_nil⟩⟩⟩⟩⟩⟩⟩⟩⟩⟩⟩⟩⟩⟩⟩⟩
theorem lw_p32 : lw_okq (⟨"StormPipesModel", "with", "(IIIIII)J"⟩, 59) := ⟨⟨by decide +kernel, by decide +kernel⟩, List.mem_of_getElem? (i := 676) (by decide +kernel), List.mem_of_getElem? (i := 998) (by decide +kernel), List.mem_of_getElem? (i := 999) (by decide +kernel)⟩
theorem lw_p33 : lw_okq (⟨"StormPipesModel", "place", "(III)I"⟩, 59) := ⟨⟨by decide +kernel, by decide +kernel⟩, List.mem_of_getElem? (i := 676) (by decide +kernel), List.mem_of_getElem? (i := 1002) (by decide +kernel), List.mem_of_getElem? (i := 1003) (by decide +kernel)⟩
def lw_privs_3 : List (MethodName × Nat) := [(⟨"StormPipesModel", "with", "(IIIIII)J"⟩, 59), (⟨"StormPipesModel", "place", "(III)I"⟩, 59)]
theorem lw_r3 : ∀ q ∈ lw_privs_3, lw_okq q := List.forall_mem_cons.mpr ⟨lw_p32, List.forall_mem_cons.mpr ⟨lw_p33, fun _ h => absurd h List.not_mem_nil⟩⟩
def lw_privs : List (MethodName × Nat) := lw_privs_1 ++ (lw_privs_2 ++ (lw_privs_3))
def lw_tbl : List Cond := k2_sels lw_privs ++ tables_1
theorem lw_privs_ok : ∀ q ∈ lw_privs, lw_okq q := by
  show ∀ q ∈ lw_privs_1 ++ (lw_privs_2 ++ (lw_privs_3)), lw_okq q
  exact List.forall_mem_append.mpr ⟨lw_r1, List.forall_mem_append.mpr ⟨lw_r2, lw_r3⟩⟩
end
section
def RX0 : String := "StormPipes$Area"
def TX0 : u_T := fun k => match k with
  | 0 => ("StormPipes$Area", "node", "LStormPipes$Node;", true)
  | 1 => ("StormPipes$Area", "catching", "J", true)
  | _ => ("StormPipes$Area", "rest", "J", false)
def tyX0 : Nat → FieldType := fun k => match k with
  | 0 => .object "StormPipes$Node"
  | 1 => .long
  | _ => .long
abbrev wsX00 : List Cond := u_ws RX0 TX0 3
theorem nmX0 : ∀ a, a < 3 → ∀ b, b < 3 → a ≠ b → (TX0 a).2.1 ≠ (TX0 b).2.1 := by decide +kernel
theorem tyX0_ok : ∀ k, k < 3 → parseFieldDescriptor (TX0 k).2.2.1 = some (tyX0 k) := by decide +kernel
abbrev cX0_init : ByteArray := prog_2_method_1_code
def yX0_init : MethodName := ⟨RX0, "<init>", "(LStormPipes$Node;II)V"⟩
abbrev cX0_takeRain : ByteArray := prog_2_method_2_code
def yX0_takeRain : MethodName := ⟨RX0, "takeRain", "(I)J"⟩
def RX1 : String := "StormPipes$Entry"
def TX1 : u_T := fun k => match k with
  | 0 => ("StormPipes$Entry", "width", "I", true)
  | _ => ("StormPipes$Entry", "price", "I", true)
def tyX1 : Nat → FieldType := fun k => match k with
  | 0 => .int
  | _ => .int
abbrev wsX10 : List Cond := u_ws RX1 TX1 2
theorem nmX1 : ∀ a, a < 2 → ∀ b, b < 2 → a ≠ b → (TX1 a).2.1 ≠ (TX1 b).2.1 := by decide +kernel
theorem tyX1_ok : ∀ k, k < 2 → parseFieldDescriptor (TX1 k).2.2.1 = some (tyX1 k) := by decide +kernel
abbrev cX1_init : ByteArray := prog_3_method_1_code
def yX1_init : MethodName := ⟨RX1, "<init>", "(II)V"⟩
def RX2 : String := "StormPipes$Gate"
def TX2 : u_T := fun k => match k with
  | 0 => ("StormPipes$Gate", "node", "LStormPipes$Node;", true)
  | 1 => ("StormPipes$Gate", "sill", "J", true)
  | _ => ("StormPipes$Gate", "rate", "I", true)
def tyX2 : Nat → FieldType := fun k => match k with
  | 0 => .object "StormPipes$Node"
  | 1 => .long
  | _ => .int
abbrev wsX20 : List Cond := u_ws RX2 TX2 3
theorem nmX2 : ∀ a, a < 3 → ∀ b, b < 3 → a ≠ b → (TX2 a).2.1 ≠ (TX2 b).2.1 := by decide +kernel
theorem tyX2_ok : ∀ k, k < 3 → parseFieldDescriptor (TX2 k).2.2.1 = some (tyX2 k) := by decide +kernel
abbrev cX2_init : ByteArray := prog_4_method_1_code
def yX2_init : MethodName := ⟨RX2, "<init>", "(LStormPipes$Node;II)V"⟩
abbrev cX2_letOut : ByteArray := prog_4_method_2_code
def yX2_letOut : MethodName := ⟨RX2, "letOut", "()J"⟩
def RX3 : String := "StormPipes$Gully"
def TX3 : u_T := fun k => match k with
  | 0 => ("StormPipes$Gully", "cell", "I", true)
  | 1 => ("StormPipes$Gully", "node", "LStormPipes$Node;", true)
  | _ => ("StormPipes$Gully", "rate", "I", true)
def tyX3 : Nat → FieldType := fun k => match k with
  | 0 => .int
  | 1 => .object "StormPipes$Node"
  | _ => .int
abbrev wsX30 : List Cond := u_ws RX3 TX3 3
theorem nmX3 : ∀ a, a < 3 → ∀ b, b < 3 → a ≠ b → (TX3 a).2.1 ≠ (TX3 b).2.1 := by decide +kernel
theorem tyX3_ok : ∀ k, k < 3 → parseFieldDescriptor (TX3 k).2.2.1 = some (tyX3 k) := by decide +kernel
abbrev cX3_init : ByteArray := prog_5_method_1_code
def yX3_init : MethodName := ⟨RX3, "<init>", "(ILStormPipes$Node;I)V"⟩
abbrev cX3_drain : ByteArray := prog_5_method_2_code
def yX3_drain : MethodName := ⟨RX3, "drain", "(J)J"⟩
def RX4 : String := "StormPipes$Line"
def TX4 : u_T := fun k => match k with
  | 0 => ("StormPipes$Line", "entries", "Ljava/util/ArrayList;", true)
  | 1 => ("StormPipes$Line", "pieces", "Ljava/util/ArrayList;", true)
  | 2 => ("StormPipes$Line", "costAtEnd", "[J", true)
  | 3 => ("StormPipes$Line", "pieceCount", "I", false)
  | 4 => ("StormPipes$Line", "hasBegun", "Z", false)
  | 5 => ("StormPipes$Line", "isLaid", "Z", false)
  | 6 => ("StormPipes$Line", "ground", "I", false)
  | 7 => ("StormPipes$Line", "bottom", "I", false)
  | 8 => ("StormPipes$Line", "cover", "I", false)
  | _ => ("StormPipes$Line", "dig", "I", false)
def tyX4 : Nat → FieldType := fun k => match k with
  | 0 => .object "java/util/ArrayList"
  | 1 => .object "java/util/ArrayList"
  | 2 => .array .long
  | 3 => .int
  | 4 => .boolean
  | 5 => .boolean
  | 6 => .int
  | 7 => .int
  | 8 => .int
  | _ => .int
abbrev wsX40 : List Cond := u_ws RX4 TX4 10
theorem nmX4 : ∀ a, a < 10 → ∀ b, b < 10 → a ≠ b → (TX4 a).2.1 ≠ (TX4 b).2.1 := by decide +kernel
theorem tyX4_ok : ∀ k, k < 10 → parseFieldDescriptor (TX4 k).2.2.1 = some (tyX4 k) := by decide +kernel
abbrev cX4_init : ByteArray := prog_6_method_1_code
def yX4_init : MethodName := ⟨RX4, "<init>", "()V"⟩
abbrev cX4_addEntry : ByteArray := prog_6_method_2_code
def yX4_addEntry : MethodName := ⟨RX4, "addEntry", "(II)I"⟩
abbrev cX4_beginAnew : ByteArray := prog_6_method_3_code
def yX4_beginAnew : MethodName := ⟨RX4, "beginAnew", "(II)V"⟩
abbrev cX4_addPiece : ByteArray := prog_6_method_4_code
def yX4_addPiece : MethodName := ⟨RX4, "addPiece", "(III)I"⟩
abbrev cX4_layBest : ByteArray := prog_6_method_5_code
def yX4_layBest : MethodName := ⟨RX4, "layBest", "(II)J"⟩
abbrev cX4_tellLaid : ByteArray := prog_6_method_6_code
def yX4_tellLaid : MethodName := ⟨RX4, "tellLaid", "(II)I"⟩
abbrev cX4_weighPiece : ByteArray := prog_6_method_7_code
def yX4_weighPiece : MethodName := ⟨RX4, "weighPiece", "(I)V"⟩
abbrev cX4_weighEnds : ByteArray := prog_6_method_8_code
def yX4_weighEnds : MethodName := ⟨RX4, "weighEnds", "(II)V"⟩
abbrev cX4_cheapestEnd : ByteArray := prog_6_method_9_code
def yX4_cheapestEnd : MethodName := ⟨RX4, "cheapestEnd", "(III)I"⟩
abbrev cX4_costFrom : ByteArray := prog_6_method_10_code
def yX4_costFrom : MethodName := ⟨RX4, "costFrom", "(III)J"⟩
abbrev cX4_isCoveredAtBegin : ByteArray := prog_6_method_11_code
def yX4_isCoveredAtBegin : MethodName := ⟨RX4, "isCoveredAtBegin", "(III)Z"⟩
abbrev cX4_leastFall : ByteArray := prog_6_method_12_code
def yX4_leastFall : MethodName := ⟨RX4, "leastFall", "(II)I"⟩
abbrev cX4_followBest : ByteArray := prog_6_method_13_code
def yX4_followBest : MethodName := ⟨RX4, "followBest", "()V"⟩
abbrev cX4_layPiece : ByteArray := prog_6_method_14_code
def yX4_layPiece : MethodName := ⟨RX4, "layPiece", "(III)V"⟩
abbrev cX4_fallThatCosts : ByteArray := prog_6_method_15_code
def yX4_fallThatCosts : MethodName := ⟨RX4, "fallThatCosts", "(JIII)I"⟩
def RX5 : String := "StormPipes$Node"
def TX5 : u_T := fun k => match k with
  | 0 => ("StormPipes$Node", "bottom", "I", true)
  | 1 => ("StormPipes$Node", "room", "I", true)
  | 2 => ("StormPipes$Node", "full", "J", true)
  | 3 => ("StormPipes$Node", "litres", "J", false)
  | 4 => ("StormPipes$Node", "markedLevel", "J", false)
  | 5 => ("StormPipes$Node", "overfull", "J", false)
  | 6 => ("StormPipes$Node", "gated", "J", false)
  | _ => ("StormPipes$Node", "street", "I", false)
def tyX5 : Nat → FieldType := fun k => match k with
  | 0 => .int
  | 1 => .int
  | 2 => .long
  | 3 => .long
  | 4 => .long
  | 5 => .long
  | 6 => .long
  | _ => .int
abbrev wsX50 : List Cond := u_ws RX5 TX5 8
theorem nmX5 : ∀ a, a < 8 → ∀ b, b < 8 → a ≠ b → (TX5 a).2.1 ≠ (TX5 b).2.1 := by decide +kernel
theorem tyX5_ok : ∀ k, k < 8 → parseFieldDescriptor (TX5 k).2.2.1 = some (tyX5 k) := by decide +kernel
abbrev cX5_init : ByteArray := prog_7_method_1_code
def yX5_init : MethodName := ⟨RX5, "<init>", "(III)V"⟩
abbrev cX5_levelNow : ByteArray := prog_7_method_2_code
def yX5_levelNow : MethodName := ⟨RX5, "levelNow", "()J"⟩
abbrev cX5_markLevel : ByteArray := prog_7_method_3_code
def yX5_markLevel : MethodName := ⟨RX5, "markLevel", "()V"⟩
abbrev cX5_giveTo : ByteArray := prog_7_method_4_code
def yX5_giveTo : MethodName := ⟨RX5, "giveTo", "(LStormPipes$Node;J)J"⟩
abbrev cX5_spill : ByteArray := prog_7_method_5_code
def yX5_spill : MethodName := ⟨RX5, "spill", "()J"⟩
def RX6 : String := "StormPipes$Piece"
def TX6 : u_T := fun k => match k with
  | 0 => ("StormPipes$Piece", "least", "[J", true)
  | 1 => ("StormPipes$Piece", "ground", "I", false)
  | 2 => ("StormPipes$Piece", "length", "I", false)
  | 3 => ("StormPipes$Piece", "need", "I", false)
  | 4 => ("StormPipes$Piece", "laidEntry", "I", false)
  | 5 => ("StormPipes$Piece", "laidFall", "I", false)
  | _ => ("StormPipes$Piece", "laidBottom", "I", false)
def tyX6 : Nat → FieldType := fun k => match k with
  | 0 => .array .long
  | 1 => .int
  | 2 => .int
  | 3 => .int
  | 4 => .int
  | 5 => .int
  | _ => .int
abbrev wsX60 : List Cond := u_ws RX6 TX6 7
theorem nmX6 : ∀ a, a < 7 → ∀ b, b < 7 → a ≠ b → (TX6 a).2.1 ≠ (TX6 b).2.1 := by decide +kernel
theorem tyX6_ok : ∀ k, k < 7 → parseFieldDescriptor (TX6 k).2.2.1 = some (tyX6 k) := by decide +kernel
abbrev cX6_init : ByteArray := prog_8_method_1_code
def yX6_init : MethodName := ⟨RX6, "<init>", "(I)V"⟩
def RX7 : String := "StormPipes$Pipe"
def TX7 : u_T := fun k => match k with
  | 0 => ("StormPipes$Pipe", "from", "LStormPipes$Node;", true)
  | 1 => ("StormPipes$Pipe", "to", "LStormPipes$Node;", true)
  | 2 => ("StormPipes$Pipe", "square", "J", true)
  | 3 => ("StormPipes$Pipe", "resistance", "J", true)
  | 4 => ("StormPipes$Pipe", "rest", "J", false)
  | 5 => ("StormPipes$Pipe", "movedLast", "J", false)
  | _ => ("StormPipes$Pipe", "movedInAll", "J", false)
def tyX7 : Nat → FieldType := fun k => match k with
  | 0 => .object "StormPipes$Node"
  | 1 => .object "StormPipes$Node"
  | 2 => .long
  | 3 => .long
  | 4 => .long
  | 5 => .long
  | _ => .long
abbrev wsX70 : List Cond := u_ws RX7 TX7 7
theorem nmX7 : ∀ a, a < 7 → ∀ b, b < 7 → a ≠ b → (TX7 a).2.1 ≠ (TX7 b).2.1 := by decide +kernel
theorem tyX7_ok : ∀ k, k < 7 → parseFieldDescriptor (TX7 k).2.2.1 = some (tyX7 k) := by decide +kernel
abbrev cX7_init : ByteArray := prog_9_method_1_code
def yX7_init : MethodName := ⟨RX7, "<init>", "(LStormPipes$Node;LStormPipes$Node;II)V"⟩
abbrev cX7_carry : ByteArray := prog_9_method_2_code
def yX7_carry : MethodName := ⟨RX7, "carry", "()V"⟩
def RX8 : String := "StormPipes$Pump"
def TX8 : u_T := fun k => match k with
  | 0 => ("StormPipes$Pump", "node", "LStormPipes$Node;", true)
  | 1 => ("StormPipes$Pump", "to", "LStormPipes$Node;", true)
  | 2 => ("StormPipes$Pump", "on", "I", true)
  | 3 => ("StormPipes$Pump", "off", "I", true)
  | 4 => ("StormPipes$Pump", "rate", "I", true)
  | _ => ("StormPipes$Pump", "isOn", "Z", false)
def tyX8 : Nat → FieldType := fun k => match k with
  | 0 => .object "StormPipes$Node"
  | 1 => .object "StormPipes$Node"
  | 2 => .int
  | 3 => .int
  | 4 => .int
  | _ => .boolean
abbrev wsX80 : List Cond := u_ws RX8 TX8 6
theorem nmX8 : ∀ a, a < 6 → ∀ b, b < 6 → a ≠ b → (TX8 a).2.1 ≠ (TX8 b).2.1 := by decide +kernel
theorem tyX8_ok : ∀ k, k < 6 → parseFieldDescriptor (TX8 k).2.2.1 = some (tyX8 k) := by decide +kernel
abbrev cX8_init : ByteArray := prog_10_method_1_code
def yX8_init : MethodName := ⟨RX8, "<init>", "(LStormPipes$Node;LStormPipes$Node;III)V"⟩
abbrev cX8_lift : ByteArray := prog_10_method_2_code
def yX8_lift : MethodName := ⟨RX8, "lift", "()V"⟩
def RX9 : String := "StormPipes"
def TX9 : u_T := fun k => match k with
  | 0 => ("StormPipes", "nodeLimit", "I", true)
  | 1 => ("StormPipes", "nodes", "Ljava/util/ArrayList;", true)
  | 2 => ("StormPipes", "pipes", "Ljava/util/ArrayList;", true)
  | 3 => ("StormPipes", "areas", "Ljava/util/ArrayList;", true)
  | 4 => ("StormPipes", "pumps", "Ljava/util/ArrayList;", true)
  | 5 => ("StormPipes", "gates", "Ljava/util/ArrayList;", true)
  | 6 => ("StormPipes", "gullies", "Ljava/util/ArrayList;", true)
  | 7 => ("StormPipes", "rains", "[I", true)
  | 8 => ("StormPipes", "cells", "[J", true)
  | 9 => ("StormPipes", "line", "LStormPipes$Line;", true)
  | 10 => ("StormPipes", "seconds", "I", false)
  | 11 => ("StormPipes", "rained", "J", false)
  | 12 => ("StormPipes", "out", "J", false)
  | _ => ("StormPipes", "outside", "J", false)
def tyX9 : Nat → FieldType := fun k => match k with
  | 0 => .int
  | 1 => .object "java/util/ArrayList"
  | 2 => .object "java/util/ArrayList"
  | 3 => .object "java/util/ArrayList"
  | 4 => .object "java/util/ArrayList"
  | 5 => .object "java/util/ArrayList"
  | 6 => .object "java/util/ArrayList"
  | 7 => .array .int
  | 8 => .array .long
  | 9 => .object "StormPipes$Line"
  | 10 => .int
  | 11 => .long
  | 12 => .long
  | _ => .long
abbrev wsX90 : List Cond := u_ws RX9 TX9 14
theorem nmX9 : ∀ a, a < 14 → ∀ b, b < 14 → a ≠ b → (TX9 a).2.1 ≠ (TX9 b).2.1 := by decide +kernel
theorem tyX9_ok : ∀ k, k < 14 → parseFieldDescriptor (TX9 k).2.2.1 = some (tyX9 k) := by decide +kernel
abbrev cX9_init : ByteArray := prog_1_method_1_code
def yX9_init : MethodName := ⟨RX9, "<init>", "(I)V"⟩
abbrev cX9_node : ByteArray := prog_1_method_2_code
def yX9_node : MethodName := ⟨RX9, "node", "(III)I"⟩
abbrev cX9_pipe : ByteArray := prog_1_method_3_code
def yX9_pipe : MethodName := ⟨RX9, "pipe", "(IIII)I"⟩
abbrev cX9_area : ByteArray := prog_1_method_4_code
def yX9_area : MethodName := ⟨RX9, "area", "(III)I"⟩
abbrev cX9_rain : ByteArray := prog_1_method_5_code
def yX9_rain : MethodName := ⟨RX9, "rain", "(II)I"⟩
abbrev cX9_pump : ByteArray := prog_1_method_6_code
def yX9_pump : MethodName := ⟨RX9, "pump", "(IIIII)I"⟩
abbrev cX9_gate : ByteArray := prog_1_method_7_code
def yX9_gate : MethodName := ⟨RX9, "gate", "(III)I"⟩
abbrev cX9_gully : ByteArray := prog_1_method_8_code
def yX9_gully : MethodName := ⟨RX9, "gully", "(III)I"⟩
abbrev cX9_street : ByteArray := prog_1_method_9_code
def yX9_street : MethodName := ⟨RX9, "street", "(II)I"⟩
abbrev cX9_run : ByteArray := prog_1_method_10_code
def yX9_run : MethodName := ⟨RX9, "run", "(I)I"⟩
abbrev cX9_told : ByteArray := prog_1_method_11_code
def yX9_told : MethodName := ⟨RX9, "told", "(II)J"⟩
abbrev cX9_flow : ByteArray := prog_1_method_12_code
def yX9_flow : MethodName := ⟨RX9, "flow", "(II)J"⟩
abbrev cX9_cell : ByteArray := prog_1_method_13_code
def yX9_cell : MethodName := ⟨RX9, "cell", "(I)J"⟩
abbrev cX9_pumps : ByteArray := prog_1_method_14_code
def yX9_pumps : MethodName := ⟨RX9, "pumps", "(I)I"⟩
abbrev cX9_litres : ByteArray := prog_1_method_15_code
def yX9_litres : MethodName := ⟨RX9, "litres", "(I)J"⟩
abbrev cX9_keeps : ByteArray := prog_1_method_16_code
def yX9_keeps : MethodName := ⟨RX9, "keeps", "()Z"⟩
abbrev cX9_list : ByteArray := prog_1_method_17_code
def yX9_list : MethodName := ⟨RX9, "list", "(II)I"⟩
abbrev cX9_begin : ByteArray := prog_1_method_18_code
def yX9_begin : MethodName := ⟨RX9, "begin", "(II)Z"⟩
abbrev cX9_piece : ByteArray := prog_1_method_19_code
def yX9_piece : MethodName := ⟨RX9, "piece", "(III)I"⟩
abbrev cX9_lay : ByteArray := prog_1_method_20_code
def yX9_lay : MethodName := ⟨RX9, "lay", "(II)J"⟩
abbrev cX9_laid : ByteArray := prog_1_method_21_code
def yX9_laid : MethodName := ⟨RX9, "laid", "(II)I"⟩
abbrev cX9_count : ByteArray := prog_1_method_22_code
def yX9_count : MethodName := ⟨RX9, "count", "(I)I"⟩
abbrev cX9_isWithin : ByteArray := prog_1_method_23_code
def yX9_isWithin : MethodName := ⟨RX9, "isWithin", "(III)Z"⟩
abbrev cX9_isHeight : ByteArray := prog_1_method_24_code
def yX9_isHeight : MethodName := ⟨RX9, "isHeight", "(I)Z"⟩
abbrev cX9_isCell : ByteArray := prog_1_method_25_code
def yX9_isCell : MethodName := ⟨RX9, "isCell", "(I)Z"⟩
abbrev cX9_isNode : ByteArray := prog_1_method_26_code
def yX9_isNode : MethodName := ⟨RX9, "isNode", "(I)Z"⟩
abbrev cX9_areTwoNodes : ByteArray := prog_1_method_27_code
def yX9_areTwoNodes : MethodName := ⟨RX9, "areTwoNodes", "(II)Z"⟩
abbrev cX9_litresInNodes : ByteArray := prog_1_method_28_code
def yX9_litresInNodes : MethodName := ⟨RX9, "litresInNodes", "()J"⟩
abbrev cX9_litresInCells : ByteArray := prog_1_method_29_code
def yX9_litresInCells : MethodName := ⟨RX9, "litresInCells", "()J"⟩
abbrev cX9_passSecond : ByteArray := prog_1_method_30_code
def yX9_passSecond : MethodName := ⟨RX9, "passSecond", "()V"⟩
abbrev cX9_rainOnAreas : ByteArray := prog_1_method_31_code
def yX9_rainOnAreas : MethodName := ⟨RX9, "rainOnAreas", "()V"⟩
abbrev cX9_carryByPipes : ByteArray := prog_1_method_32_code
def yX9_carryByPipes : MethodName := ⟨RX9, "carryByPipes", "()V"⟩
abbrev cX9_drainCells : ByteArray := prog_1_method_33_code
def yX9_drainCells : MethodName := ⟨RX9, "drainCells", "()V"⟩
abbrev cX9_spillNodes : ByteArray := prog_1_method_34_code
def yX9_spillNodes : MethodName := ⟨RX9, "spillNodes", "()V"⟩
def RX10 : String := "StormPipesModel"
def TX10 : u_T := fun k => match k with
  | 0 => ("StormPipesModel", "most", "I", true)
  | 1 => ("StormPipesModel", "nodes", "I", false)
  | 2 => ("StormPipesModel", "ground", "[I", true)
  | 3 => ("StormPipesModel", "bottom", "[I", true)
  | 4 => ("StormPipesModel", "room", "[I", true)
  | 5 => ("StormPipesModel", "street", "[I", true)
  | 6 => ("StormPipesModel", "water", "[J", true)
  | 7 => ("StormPipesModel", "spilt", "[J", true)
  | 8 => ("StormPipesModel", "gone", "[J", true)
  | 9 => ("StormPipesModel", "level", "[J", true)
  | 10 => ("StormPipesModel", "pipes", "I", false)
  | 11 => ("StormPipesModel", "pipeFrom", "[I", true)
  | 12 => ("StormPipesModel", "pipeTo", "[I", true)
  | 13 => ("StormPipesModel", "pipeLength", "[I", true)
  | 14 => ("StormPipesModel", "pipeWidth", "[I", true)
  | 15 => ("StormPipesModel", "pipeRest", "[J", true)
  | 16 => ("StormPipesModel", "pipeLast", "[J", true)
  | 17 => ("StormPipesModel", "pipeAll", "[J", true)
  | 18 => ("StormPipesModel", "areas", "I", false)
  | 19 => ("StormPipesModel", "areaNode", "[I", true)
  | 20 => ("StormPipesModel", "squares", "[I", true)
  | 21 => ("StormPipesModel", "loss", "[I", true)
  | 22 => ("StormPipesModel", "areaRest", "[J", true)
  | 23 => ("StormPipesModel", "rains", "[I", true)
  | 24 => ("StormPipesModel", "pumps", "I", false)
  | 25 => ("StormPipesModel", "pumpNode", "[I", true)
  | 26 => ("StormPipesModel", "pumpTo", "[I", true)
  | 27 => ("StormPipesModel", "pumpOn", "[I", true)
  | 28 => ("StormPipesModel", "pumpOff", "[I", true)
  | 29 => ("StormPipesModel", "pumpRate", "[I", true)
  | 30 => ("StormPipesModel", "goes", "[Z", true)
  | 31 => ("StormPipesModel", "gates", "I", false)
  | 32 => ("StormPipesModel", "gateNode", "[I", true)
  | 33 => ("StormPipesModel", "gateHeight", "[I", true)
  | 34 => ("StormPipesModel", "gateRate", "[I", true)
  | 35 => ("StormPipesModel", "gullies", "I", false)
  | 36 => ("StormPipesModel", "gullyCell", "[I", true)
  | 37 => ("StormPipesModel", "gullyNode", "[I", true)
  | 38 => ("StormPipesModel", "gullyRate", "[I", true)
  | 39 => ("StormPipesModel", "cells", "[J", true)
  | 40 => ("StormPipesModel", "second", "I", false)
  | 41 => ("StormPipesModel", "rained", "J", false)
  | 42 => ("StormPipesModel", "out", "J", false)
  | 43 => ("StormPipesModel", "outside", "J", false)
  | 44 => ("StormPipesModel", "entries", "I", false)
  | 45 => ("StormPipesModel", "width", "[I", true)
  | 46 => ("StormPipesModel", "price", "[I", true)
  | 47 => ("StormPipesModel", "begun", "Z", false)
  | 48 => ("StormPipesModel", "lineGround", "I", false)
  | 49 => ("StormPipesModel", "lineBottom", "I", false)
  | 50 => ("StormPipesModel", "pieces", "I", false)
  | 51 => ("StormPipesModel", "pieceGround", "[I", true)
  | 52 => ("StormPipesModel", "pieceLength", "[I", true)
  | 53 => ("StormPipesModel", "pieceNeed", "[I", true)
  | 54 => ("StormPipesModel", "costs", "[J", true)
  | 55 => ("StormPipesModel", "isLaid", "Z", false)
  | 56 => ("StormPipesModel", "laidEntry", "[I", true)
  | 57 => ("StormPipesModel", "laidFall", "[I", true)
  | _ => ("StormPipesModel", "laidBottom", "[I", true)
def tyX10 : Nat → FieldType := fun k => match k with
  | 0 => .int
  | 1 => .int
  | 2 => .array .int
  | 3 => .array .int
  | 4 => .array .int
  | 5 => .array .int
  | 6 => .array .long
  | 7 => .array .long
  | 8 => .array .long
  | 9 => .array .long
  | 10 => .int
  | 11 => .array .int
  | 12 => .array .int
  | 13 => .array .int
  | 14 => .array .int
  | 15 => .array .long
  | 16 => .array .long
  | 17 => .array .long
  | 18 => .int
  | 19 => .array .int
  | 20 => .array .int
  | 21 => .array .int
  | 22 => .array .long
  | 23 => .array .int
  | 24 => .int
  | 25 => .array .int
  | 26 => .array .int
  | 27 => .array .int
  | 28 => .array .int
  | 29 => .array .int
  | 30 => .array .boolean
  | 31 => .int
  | 32 => .array .int
  | 33 => .array .int
  | 34 => .array .int
  | 35 => .int
  | 36 => .array .int
  | 37 => .array .int
  | 38 => .array .int
  | 39 => .array .long
  | 40 => .int
  | 41 => .long
  | 42 => .long
  | 43 => .long
  | 44 => .int
  | 45 => .array .int
  | 46 => .array .int
  | 47 => .boolean
  | 48 => .int
  | 49 => .int
  | 50 => .int
  | 51 => .array .int
  | 52 => .array .int
  | 53 => .array .int
  | 54 => .array .long
  | 55 => .boolean
  | 56 => .array .int
  | 57 => .array .int
  | _ => .array .int
abbrev wsX100 : List Cond := u_ws RX10 TX10 59
theorem nmX10 : ∀ a, a < 59 → ∀ b, b < 59 → a ≠ b → (TX10 a).2.1 ≠ (TX10 b).2.1 := by decide +kernel
theorem tyX10_ok : ∀ k, k < 59 → parseFieldDescriptor (TX10 k).2.2.1 = some (tyX10 k) := by decide +kernel
abbrev cX10_init : ByteArray := prog_12_method_1_code
def yX10_init : MethodName := ⟨RX10, "<init>", "(I)V"⟩
abbrev cX10_is : ByteArray := prog_12_method_2_code
def yX10_is : MethodName := ⟨RX10, "is", "(III)Z"⟩
abbrev cX10_isNode : ByteArray := prog_12_method_3_code
def yX10_isNode : MethodName := ⟨RX10, "isNode", "(I)Z"⟩
abbrev cX10_node : ByteArray := prog_12_method_4_code
def yX10_node : MethodName := ⟨RX10, "node", "(III)I"⟩
abbrev cX10_pipe : ByteArray := prog_12_method_5_code
def yX10_pipe : MethodName := ⟨RX10, "pipe", "(IIII)I"⟩
abbrev cX10_area : ByteArray := prog_12_method_6_code
def yX10_area : MethodName := ⟨RX10, "area", "(III)I"⟩
abbrev cX10_rain : ByteArray := prog_12_method_7_code
def yX10_rain : MethodName := ⟨RX10, "rain", "(II)I"⟩
abbrev cX10_pump : ByteArray := prog_12_method_8_code
def yX10_pump : MethodName := ⟨RX10, "pump", "(IIIII)I"⟩
abbrev cX10_gate : ByteArray := prog_12_method_9_code
def yX10_gate : MethodName := ⟨RX10, "gate", "(III)I"⟩
abbrev cX10_gully : ByteArray := prog_12_method_10_code
def yX10_gully : MethodName := ⟨RX10, "gully", "(III)I"⟩
abbrev cX10_street : ByteArray := prog_12_method_11_code
def yX10_street : MethodName := ⟨RX10, "street", "(II)I"⟩
abbrev cX10_levelOf : ByteArray := prog_12_method_12_code
def yX10_levelOf : MethodName := ⟨RX10, "levelOf", "(I)J"⟩
abbrev cX10_fullOf : ByteArray := prog_12_method_13_code
def yX10_fullOf : MethodName := ⟨RX10, "fullOf", "(I)J"⟩
abbrev cX10_less : ByteArray := prog_12_method_14_code
def yX10_less : MethodName := ⟨RX10, "less", "(JJ)J"⟩
abbrev cX10_rainOf : ByteArray := prog_12_method_15_code
def yX10_rainOf : MethodName := ⟨RX10, "rainOf", "(II)V"⟩
abbrev cX10_flowOf : ByteArray := prog_12_method_16_code
def yX10_flowOf : MethodName := ⟨RX10, "flowOf", "(I)V"⟩
abbrev cX10_pumpOf : ByteArray := prog_12_method_17_code
def yX10_pumpOf : MethodName := ⟨RX10, "pumpOf", "(I)V"⟩
abbrev cX10_gateOf : ByteArray := prog_12_method_18_code
def yX10_gateOf : MethodName := ⟨RX10, "gateOf", "(I)V"⟩
abbrev cX10_gullyOf : ByteArray := prog_12_method_19_code
def yX10_gullyOf : MethodName := ⟨RX10, "gullyOf", "(I)V"⟩
abbrev cX10_nodeOf : ByteArray := prog_12_method_20_code
def yX10_nodeOf : MethodName := ⟨RX10, "nodeOf", "(I)V"⟩
abbrev cX10_run : ByteArray := prog_12_method_21_code
def yX10_run : MethodName := ⟨RX10, "run", "(I)I"⟩
abbrev cX10_told : ByteArray := prog_12_method_22_code
def yX10_told : MethodName := ⟨RX10, "told", "(II)J"⟩
abbrev cX10_flow : ByteArray := prog_12_method_23_code
def yX10_flow : MethodName := ⟨RX10, "flow", "(II)J"⟩
abbrev cX10_cell : ByteArray := prog_12_method_24_code
def yX10_cell : MethodName := ⟨RX10, "cell", "(I)J"⟩
abbrev cX10_pumps : ByteArray := prog_12_method_25_code
def yX10_pumps : MethodName := ⟨RX10, "pumps", "(I)I"⟩
abbrev cX10_inNodes : ByteArray := prog_12_method_26_code
def yX10_inNodes : MethodName := ⟨RX10, "inNodes", "()J"⟩
abbrev cX10_inCells : ByteArray := prog_12_method_27_code
def yX10_inCells : MethodName := ⟨RX10, "inCells", "()J"⟩
abbrev cX10_litres : ByteArray := prog_12_method_28_code
def yX10_litres : MethodName := ⟨RX10, "litres", "(I)J"⟩
abbrev cX10_keeps : ByteArray := prog_12_method_29_code
def yX10_keeps : MethodName := ⟨RX10, "keeps", "()Z"⟩
abbrev cX10_list : ByteArray := prog_12_method_30_code
def yX10_list : MethodName := ⟨RX10, "list", "(II)I"⟩
abbrev cX10_begin : ByteArray := prog_12_method_31_code
def yX10_begin : MethodName := ⟨RX10, "begin", "(II)Z"⟩
abbrev cX10_piece : ByteArray := prog_12_method_32_code
def yX10_piece : MethodName := ⟨RX10, "piece", "(III)I"⟩
abbrev cX10_place : ByteArray := prog_12_method_33_code
def yX10_place : MethodName := ⟨RX10, "place", "(III)I"⟩
abbrev cX10_with : ByteArray := prog_12_method_34_code
def yX10_with : MethodName := ⟨RX10, "with", "(IIIIII)J"⟩
abbrev cX10_lay : ByteArray := prog_12_method_35_code
def yX10_lay : MethodName := ⟨RX10, "lay", "(II)J"⟩
abbrev cX10_laid : ByteArray := prog_12_method_36_code
def yX10_laid : MethodName := ⟨RX10, "laid", "(II)I"⟩
abbrev cX10_count : ByteArray := prog_12_method_37_code
def yX10_count : MethodName := ⟨RX10, "count", "(I)I"⟩
def RJx145de : String := "java/io/Serializable"
def TJx145de : u_T := fun k => match k with
  | _ => ("", "", "", false)
def tyJx145de : Nat → FieldType := fun k => match k with
  | _ => .int
abbrev wsJx145de0 : List Cond := u_ws RJx145de TJx145de 0
theorem nmJx145de : ∀ a, a < 0 → ∀ b, b < 0 → a ≠ b → (TJx145de a).2.1 ≠ (TJx145de b).2.1 := by decide +kernel
theorem tyJx145de_ok : ∀ k, k < 0 → parseFieldDescriptor (TJx145de k).2.2.1 = some (tyJx145de k) := by decide +kernel
def RJx8e188 : String := "java/lang/Cloneable"
def TJx8e188 : u_T := fun k => match k with
  | _ => ("", "", "", false)
def tyJx8e188 : Nat → FieldType := fun k => match k with
  | _ => .int
abbrev wsJx8e1880 : List Cond := u_ws RJx8e188 TJx8e188 0
theorem nmJx8e188 : ∀ a, a < 0 → ∀ b, b < 0 → a ≠ b → (TJx8e188 a).2.1 ≠ (TJx8e188 b).2.1 := by decide +kernel
theorem tyJx8e188_ok : ∀ k, k < 0 → parseFieldDescriptor (TJx8e188 k).2.2.1 = some (tyJx8e188 k) := by decide +kernel
def RJxab1ab : String := "java/lang/Iterable"
def TJxab1ab : u_T := fun k => match k with
  | _ => ("", "", "", false)
def tyJxab1ab : Nat → FieldType := fun k => match k with
  | _ => .int
abbrev wsJxab1ab0 : List Cond := u_ws RJxab1ab TJxab1ab 0
theorem nmJxab1ab : ∀ a, a < 0 → ∀ b, b < 0 → a ≠ b → (TJxab1ab a).2.1 ≠ (TJxab1ab b).2.1 := by decide +kernel
theorem tyJxab1ab_ok : ∀ k, k < 0 → parseFieldDescriptor (TJxab1ab k).2.2.1 = some (tyJxab1ab k) := by decide +kernel
def RJ9 : String := "java/lang/Math"
def TJ9 : u_T := fun k => match k with
  | _ => ("", "", "", false)
def tyJ9 : Nat → FieldType := fun k => match k with
  | _ => .int
abbrev wsJ90 : List Cond := u_ws RJ9 TJ9 0
theorem nmJ9 : ∀ a, a < 0 → ∀ b, b < 0 → a ≠ b → (TJ9 a).2.1 ≠ (TJ9 b).2.1 := by decide +kernel
theorem tyJ9_ok : ∀ k, k < 0 → parseFieldDescriptor (TJ9 k).2.2.1 = some (tyJ9 k) := by decide +kernel
abbrev cJ9_max_7cf53 : ByteArray := prog_16_method_65_code
def yJ9_max_7cf53 : MethodName := ⟨RJ9, "max", "(II)I"⟩
abbrev cJ9_max_f86c9 : ByteArray := prog_16_method_66_code
def yJ9_max_f86c9 : MethodName := ⟨RJ9, "max", "(JJ)J"⟩
abbrev cJ9_min_7cf53 : ByteArray := prog_16_method_69_code
def yJ9_min_7cf53 : MethodName := ⟨RJ9, "min", "(II)I"⟩
abbrev cJ9_min_f86c9 : ByteArray := prog_16_method_70_code
def yJ9_min_f86c9 : MethodName := ⟨RJ9, "min", "(JJ)J"⟩
def RJ10 : String := "java/lang/System"
def TJ10 : u_T := fun k => match k with
  | _ => ("", "", "", false)
def tyJ10 : Nat → FieldType := fun k => match k with
  | _ => .int
abbrev wsJ100 : List Cond := u_ws RJ10 TJ10 0
theorem nmJ10 : ∀ a, a < 0 → ∀ b, b < 0 → a ≠ b → (TJ10 a).2.1 ≠ (TJ10 b).2.1 := by decide +kernel
theorem tyJ10_ok : ∀ k, k < 0 → parseFieldDescriptor (TJ10 k).2.2.1 = some (tyJ10 k) := by decide +kernel
def RJxa1e45 : String := "java/util/AbstractCollection"
def TJxa1e45 : u_T := fun k => match k with
  | _ => ("", "", "", false)
def tyJxa1e45 : Nat → FieldType := fun k => match k with
  | _ => .int
abbrev wsJxa1e450 : List Cond := u_ws RJxa1e45 TJxa1e45 0
theorem nmJxa1e45 : ∀ a, a < 0 → ∀ b, b < 0 → a ≠ b → (TJxa1e45 a).2.1 ≠ (TJxa1e45 b).2.1 := by decide +kernel
theorem tyJxa1e45_ok : ∀ k, k < 0 → parseFieldDescriptor (TJxa1e45 k).2.2.1 = some (tyJxa1e45 k) := by decide +kernel
abbrev cJxa1e45_init_da8c8 : ByteArray := prog_18_method_1_code
def yJxa1e45_init_da8c8 : MethodName := ⟨RJxa1e45, "<init>", "()V"⟩
def RJxc12de : String := "java/util/AbstractList"
def TJxc12de : u_T := fun k => match k with
  | _ => ("", "", "", false)
def tyJxc12de : Nat → FieldType := fun k => match k with
  | _ => .int
abbrev wsJxc12de0 : List Cond := u_ws RJxc12de TJxc12de 0
theorem nmJxc12de : ∀ a, a < 0 → ∀ b, b < 0 → a ≠ b → (TJxc12de a).2.1 ≠ (TJxc12de b).2.1 := by decide +kernel
theorem tyJxc12de_ok : ∀ k, k < 0 → parseFieldDescriptor (TJxc12de k).2.2.1 = some (tyJxc12de k) := by decide +kernel
abbrev cJxc12de_init_da8c8 : ByteArray := prog_19_method_1_code
def yJxc12de_init_da8c8 : MethodName := ⟨RJxc12de, "<init>", "()V"⟩
def RJx4a65c : String := "java/util/ArrayList"
def TJx4a65c : u_T := fun k => match k with
  | 0 => ("java/util/AbstractList", "modCount", "I", false)
  | 1 => ("java/util/ArrayList", "elementData", "[Ljava/lang/Object;", false)
  | _ => ("java/util/ArrayList", "size", "I", false)
def tyJx4a65c : Nat → FieldType := fun k => match k with
  | 0 => .int
  | 1 => .array (.object "java/lang/Object")
  | _ => .int
abbrev wsJx4a65c0 : List Cond := u_ws RJx4a65c TJx4a65c 3
theorem nmJx4a65c : ∀ a, a < 3 → ∀ b, b < 3 → a ≠ b → (TJx4a65c a).2.1 ≠ (TJx4a65c b).2.1 := by decide +kernel
theorem tyJx4a65c_ok : ∀ k, k < 3 → parseFieldDescriptor (TJx4a65c k).2.2.1 = some (tyJx4a65c k) := by decide +kernel
abbrev cJx4a65c_init_da8c8 : ByteArray := prog_20_method_2_code
def yJx4a65c_init_da8c8 : MethodName := ⟨RJx4a65c, "<init>", "()V"⟩
abbrev cJx4a65c_grow_92f84 : ByteArray := prog_20_method_6_code
def yJx4a65c_grow_92f84 : MethodName := ⟨RJx4a65c, "grow", "(I)[Ljava/lang/Object;"⟩
abbrev cJx4a65c_grow_d5877 : ByteArray := prog_20_method_7_code
def yJx4a65c_grow_d5877 : MethodName := ⟨RJx4a65c, "grow", "()[Ljava/lang/Object;"⟩
abbrev cJx4a65c_size_8abf5 : ByteArray := prog_20_method_8_code
def yJx4a65c_size_8abf5 : MethodName := ⟨RJx4a65c, "size", "()I"⟩
abbrev cJx4a65c_isEmpty_aae02 : ByteArray := prog_20_method_9_code
def yJx4a65c_isEmpty_aae02 : MethodName := ⟨RJx4a65c, "isEmpty", "()Z"⟩
abbrev cJx4a65c_elementData_915e3 : ByteArray := prog_20_method_18_code
def yJx4a65c_elementData_915e3 : MethodName := ⟨RJx4a65c, "elementData", "(I)Ljava/lang/Object;"⟩
abbrev cJx4a65c_get_915e3 : ByteArray := prog_20_method_20_code
def yJx4a65c_get_915e3 : MethodName := ⟨RJx4a65c, "get", "(I)Ljava/lang/Object;"⟩
abbrev cJx4a65c_add_72be8 : ByteArray := prog_20_method_24_code
def yJx4a65c_add_72be8 : MethodName := ⟨RJx4a65c, "add", "(Ljava/lang/Object;[Ljava/lang/Object;I)V"⟩
abbrev cJx4a65c_add_9ea2d : ByteArray := prog_20_method_25_code
def yJx4a65c_add_9ea2d : MethodName := ⟨RJx4a65c, "add", "(Ljava/lang/Object;)Z"⟩
def RJ7 : String := "java/util/Arrays"
def TJ7 : u_T := fun k => match k with
  | _ => ("", "", "", false)
def tyJ7 : Nat → FieldType := fun k => match k with
  | _ => .int
abbrev wsJ70 : List Cond := u_ws RJ7 TJ7 0
theorem nmJ7 : ∀ a, a < 0 → ∀ b, b < 0 → a ≠ b → (TJ7 a).2.1 ≠ (TJ7 b).2.1 := by decide +kernel
theorem tyJ7_ok : ∀ k, k < 0 → parseFieldDescriptor (TJ7 k).2.2.1 = some (tyJ7 k) := by decide +kernel
abbrev cJ7_copyOf_1904c : ByteArray := prog_21_method_119_code
def yJ7_copyOf_1904c : MethodName := ⟨RJ7, "copyOf", "([Ljava/lang/Object;I)[Ljava/lang/Object;"⟩
abbrev cJ7_copyOf_6403c : ByteArray := prog_21_method_120_code
def yJ7_copyOf_6403c : MethodName := ⟨RJ7, "copyOf", "([Ljava/lang/Object;ILjava/lang/Class;)[Ljava/lang/Object;"⟩
def RJx5ef63 : String := "java/util/Collection"
def TJx5ef63 : u_T := fun k => match k with
  | _ => ("", "", "", false)
def tyJx5ef63 : Nat → FieldType := fun k => match k with
  | _ => .int
abbrev wsJx5ef630 : List Cond := u_ws RJx5ef63 TJx5ef63 0
theorem nmJx5ef63 : ∀ a, a < 0 → ∀ b, b < 0 → a ≠ b → (TJx5ef63 a).2.1 ≠ (TJx5ef63 b).2.1 := by decide +kernel
theorem tyJx5ef63_ok : ∀ k, k < 0 → parseFieldDescriptor (TJx5ef63 k).2.2.1 = some (tyJx5ef63 k) := by decide +kernel
def RJxbd725 : String := "java/util/List"
def TJxbd725 : u_T := fun k => match k with
  | _ => ("", "", "", false)
def tyJxbd725 : Nat → FieldType := fun k => match k with
  | _ => .int
abbrev wsJxbd7250 : List Cond := u_ws RJxbd725 TJxbd725 0
theorem nmJxbd725 : ∀ a, a < 0 → ∀ b, b < 0 → a ≠ b → (TJxbd725 a).2.1 ≠ (TJxbd725 b).2.1 := by decide +kernel
theorem tyJxbd725_ok : ∀ k, k < 0 → parseFieldDescriptor (TJxbd725 k).2.2.1 = some (tyJxbd725 k) := by decide +kernel
def RJ15 : String := "java/util/Objects"
def TJ15 : u_T := fun k => match k with
  | _ => ("", "", "", false)
def tyJ15 : Nat → FieldType := fun k => match k with
  | _ => .int
abbrev wsJ150 : List Cond := u_ws RJ15 TJ15 0
theorem nmJ15 : ∀ a, a < 0 → ∀ b, b < 0 → a ≠ b → (TJ15 a).2.1 ≠ (TJ15 b).2.1 := by decide +kernel
theorem tyJ15_ok : ∀ k, k < 0 → parseFieldDescriptor (TJ15 k).2.2.1 = some (tyJ15 k) := by decide +kernel
abbrev cJ15_checkIndex_7cf53 : ByteArray := prog_24_method_17_code
def yJ15_checkIndex_7cf53 : MethodName := ⟨RJ15, "checkIndex", "(II)I"⟩
def RJxf0a74 : String := "java/util/RandomAccess"
def TJxf0a74 : u_T := fun k => match k with
  | _ => ("", "", "", false)
def tyJxf0a74 : Nat → FieldType := fun k => match k with
  | _ => .int
abbrev wsJxf0a740 : List Cond := u_ws RJxf0a74 TJxf0a74 0
theorem nmJxf0a74 : ∀ a, a < 0 → ∀ b, b < 0 → a ≠ b → (TJxf0a74 a).2.1 ≠ (TJxf0a74 b).2.1 := by decide +kernel
theorem tyJxf0a74_ok : ∀ k, k < 0 → parseFieldDescriptor (TJxf0a74 k).2.2.1 = some (tyJxf0a74 k) := by decide +kernel
def RJxa66e6 : String := "java/util/SequencedCollection"
def TJxa66e6 : u_T := fun k => match k with
  | _ => ("", "", "", false)
def tyJxa66e6 : Nat → FieldType := fun k => match k with
  | _ => .int
abbrev wsJxa66e60 : List Cond := u_ws RJxa66e6 TJxa66e6 0
theorem nmJxa66e6 : ∀ a, a < 0 → ∀ b, b < 0 → a ≠ b → (TJxa66e6 a).2.1 ≠ (TJxa66e6 b).2.1 := by decide +kernel
theorem tyJxa66e6_ok : ∀ k, k < 0 → parseFieldDescriptor (TJxa66e6 k).2.2.1 = some (tyJxa66e6 k) := by decide +kernel
def RJ8 : String := "jdk/internal/util/ArraysSupport"
def TJ8 : u_T := fun k => match k with
  | _ => ("", "", "", false)
def tyJ8 : Nat → FieldType := fun k => match k with
  | _ => .int
abbrev wsJ80 : List Cond := u_ws RJ8 TJ8 0
theorem nmJ8 : ∀ a, a < 0 → ∀ b, b < 0 → a ≠ b → (TJ8 a).2.1 ≠ (TJ8 b).2.1 := by decide +kernel
theorem tyJ8_ok : ∀ k, k < 0 → parseFieldDescriptor (TJ8 k).2.2.1 = some (tyJ8 k) := by decide +kernel
abbrev cJ8_newLength_cabcc : ByteArray := prog_27_method_27_code
def yJ8_newLength_cabcc : MethodName := ⟨RJ8, "newLength", "(III)I"⟩
abbrev cJ8_hugeLength_7cf53 : ByteArray := prog_27_method_28_code
def yJ8_hugeLength_7cf53 : MethodName := ⟨RJ8, "hugeLength", "(II)I"⟩
def RJ3 : String := "jdk/internal/util/Preconditions"
def TJ3 : u_T := fun k => match k with
  | _ => ("", "", "", false)
def tyJ3 : Nat → FieldType := fun k => match k with
  | _ => .int
abbrev wsJ30 : List Cond := u_ws RJ3 TJ3 0
theorem nmJ3 : ∀ a, a < 0 → ∀ b, b < 0 → a ≠ b → (TJ3 a).2.1 ≠ (TJ3 b).2.1 := by decide +kernel
theorem tyJ3_ok : ∀ k, k < 0 → parseFieldDescriptor (TJ3 k).2.2.1 = some (tyJ3 k) := by decide +kernel
abbrev cJ3_checkIndex_8e157 : ByteArray := prog_28_method_11_code
def yJ3_checkIndex_8e157 : MethodName := ⟨RJ3, "checkIndex", "(IILjava/util/function/BiFunction;)I"⟩
def RL : String := "StormPipesLaw"
abbrev cL_cell : ByteArray := method_2_code
def yL_cell : MethodName := ⟨RL, "cell", "([II)I"⟩
abbrev cL_law : ByteArray := code
def yL_law : MethodName := ⟨RL, "law", "([I)Z"⟩
abbrev vwCl : List vw_C := [(RJx4a65c, TJx4a65c, 3), (RX0, TX0, 3), (RX1, TX1, 2), (RX2, TX2, 3), (RX3, TX3, 3), (RX4, TX4, 10), (RX5, TX5, 8), (RX6, TX6, 7), (RX7, TX7, 7), (RX8, TX8, 6), (RX9, TX9, 14), (RX10, TX10, 59)]
end
section
theorem dX0_init_0 : decode cX0_init 0 = .ok (.aload_n 0, 1) := by decide +kernel
theorem dX0_init_1 : decode cX0_init 1 = .ok (.invokespecial 3, 3) := by decide +kernel
theorem dX0_init_4 : decode cX0_init 4 = .ok (.aload_n 0, 1) := by decide +kernel
theorem dX0_init_5 : decode cX0_init 5 = .ok (.aload_n 1, 1) := by decide +kernel
theorem dX0_init_6 : decode cX0_init 6 = .ok (.putfield 9, 3) := by decide +kernel
theorem dX0_init_9 : decode cX0_init 9 = .ok (.aload_n 0, 1) := by decide +kernel
theorem dX0_init_10 : decode cX0_init 10 = .ok (.iload_n 2, 1) := by decide +kernel
theorem dX0_init_11 : decode cX0_init 11 = .ok (.i2l, 1) := by decide +kernel
theorem dX0_init_12 : decode cX0_init 12 = .ok (.sipush 1000, 3) := by decide +kernel
theorem dX0_init_15 : decode cX0_init 15 = .ok (.iload_n 3, 1) := by decide +kernel
theorem dX0_init_16 : decode cX0_init 16 = .ok (.isub, 1) := by decide +kernel
theorem dX0_init_17 : decode cX0_init 17 = .ok (.i2l, 1) := by decide +kernel
theorem dX0_init_18 : decode cX0_init 18 = .ok (.lmul, 1) := by decide +kernel
theorem dX0_init_19 : decode cX0_init 19 = .ok (.putfield 15, 3) := by decide +kernel
theorem dX0_init_22 : decode cX0_init 22 = .ok (.return_, 1) := by decide +kernel
theorem dX0_takeRain_0 : decode cX0_takeRain 0 = .ok (.aload_n 0, 1) := by decide +kernel
theorem dX0_takeRain_1 : decode cX0_takeRain 1 = .ok (.dup, 1) := by decide +kernel
theorem dX0_takeRain_2 : decode cX0_takeRain 2 = .ok (.getfield 19, 3) := by decide +kernel
theorem dX0_takeRain_5 : decode cX0_takeRain 5 = .ok (.aload_n 0, 1) := by decide +kernel
theorem dX0_takeRain_6 : decode cX0_takeRain 6 = .ok (.getfield 15, 3) := by decide +kernel
theorem dX0_takeRain_9 : decode cX0_takeRain 9 = .ok (.iload_n 1, 1) := by decide +kernel
theorem dX0_takeRain_10 : decode cX0_takeRain 10 = .ok (.i2l, 1) := by decide +kernel
theorem dX0_takeRain_11 : decode cX0_takeRain 11 = .ok (.lmul, 1) := by decide +kernel
theorem dX0_takeRain_12 : decode cX0_takeRain 12 = .ok (.ladd, 1) := by decide +kernel
theorem dX0_takeRain_13 : decode cX0_takeRain 13 = .ok (.putfield 19, 3) := by decide +kernel
theorem dX0_takeRain_16 : decode cX0_takeRain 16 = .ok (.aload_n 0, 1) := by decide +kernel
theorem dX0_takeRain_17 : decode cX0_takeRain 17 = .ok (.getfield 19, 3) := by decide +kernel
theorem dX0_takeRain_20 : decode cX0_takeRain 20 = .ok (.ldc2_w 22, 3) := by decide +kernel
theorem dX0_takeRain_23 : decode cX0_takeRain 23 = .ok (.ldiv, 1) := by decide +kernel
theorem dX0_takeRain_24 : decode cX0_takeRain 24 = .ok (.lstore_n 2, 1) := by decide +kernel
theorem dX0_takeRain_25 : decode cX0_takeRain 25 = .ok (.aload_n 0, 1) := by decide +kernel
theorem dX0_takeRain_26 : decode cX0_takeRain 26 = .ok (.dup, 1) := by decide +kernel
theorem dX0_takeRain_27 : decode cX0_takeRain 27 = .ok (.getfield 19, 3) := by decide +kernel
theorem dX0_takeRain_30 : decode cX0_takeRain 30 = .ok (.ldc2_w 22, 3) := by decide +kernel
theorem dX0_takeRain_33 : decode cX0_takeRain 33 = .ok (.lrem, 1) := by decide +kernel
theorem dX0_takeRain_34 : decode cX0_takeRain 34 = .ok (.putfield 19, 3) := by decide +kernel
theorem dX0_takeRain_37 : decode cX0_takeRain 37 = .ok (.aload_n 0, 1) := by decide +kernel
theorem dX0_takeRain_38 : decode cX0_takeRain 38 = .ok (.getfield 9, 3) := by decide +kernel
theorem dX0_takeRain_41 : decode cX0_takeRain 41 = .ok (.dup, 1) := by decide +kernel
theorem dX0_takeRain_42 : decode cX0_takeRain 42 = .ok (.getfield 24, 3) := by decide +kernel
theorem dX0_takeRain_45 : decode cX0_takeRain 45 = .ok (.lload_n 2, 1) := by decide +kernel
theorem dX0_takeRain_46 : decode cX0_takeRain 46 = .ok (.ladd, 1) := by decide +kernel
theorem dX0_takeRain_47 : decode cX0_takeRain 47 = .ok (.putfield 24, 3) := by decide +kernel
theorem dX0_takeRain_50 : decode cX0_takeRain 50 = .ok (.lload_n 2, 1) := by decide +kernel
theorem dX0_takeRain_51 : decode cX0_takeRain 51 = .ok (.lreturn, 1) := by decide +kernel
theorem dX1_init_0 : decode cX1_init 0 = .ok (.aload_n 0, 1) := by decide +kernel
theorem dX1_init_1 : decode cX1_init 1 = .ok (.invokespecial 1, 3) := by decide +kernel
theorem dX1_init_4 : decode cX1_init 4 = .ok (.aload_n 0, 1) := by decide +kernel
theorem dX1_init_5 : decode cX1_init 5 = .ok (.iload_n 1, 1) := by decide +kernel
theorem dX1_init_6 : decode cX1_init 6 = .ok (.putfield 7, 3) := by decide +kernel
theorem dX1_init_9 : decode cX1_init 9 = .ok (.aload_n 0, 1) := by decide +kernel
theorem dX1_init_10 : decode cX1_init 10 = .ok (.iload_n 2, 1) := by decide +kernel
theorem dX1_init_11 : decode cX1_init 11 = .ok (.putfield 13, 3) := by decide +kernel
theorem dX1_init_14 : decode cX1_init 14 = .ok (.return_, 1) := by decide +kernel
theorem dX2_init_0 : decode cX2_init 0 = .ok (.aload_n 0, 1) := by decide +kernel
theorem dX2_init_1 : decode cX2_init 1 = .ok (.invokespecial 1, 3) := by decide +kernel
theorem dX2_init_4 : decode cX2_init 4 = .ok (.aload_n 0, 1) := by decide +kernel
theorem dX2_init_5 : decode cX2_init 5 = .ok (.aload_n 1, 1) := by decide +kernel
theorem dX2_init_6 : decode cX2_init 6 = .ok (.putfield 7, 3) := by decide +kernel
theorem dX2_init_9 : decode cX2_init 9 = .ok (.aload_n 0, 1) := by decide +kernel
theorem dX2_init_10 : decode cX2_init 10 = .ok (.iload_n 2, 1) := by decide +kernel
theorem dX2_init_11 : decode cX2_init 11 = .ok (.i2l, 1) := by decide +kernel
theorem dX2_init_12 : decode cX2_init 12 = .ok (.aload_n 1, 1) := by decide +kernel
theorem dX2_init_13 : decode cX2_init 13 = .ok (.getfield 13, 3) := by decide +kernel
theorem dX2_init_16 : decode cX2_init 16 = .ok (.i2l, 1) := by decide +kernel
theorem dX2_init_17 : decode cX2_init 17 = .ok (.lmul, 1) := by decide +kernel
theorem dX2_init_18 : decode cX2_init 18 = .ok (.putfield 19, 3) := by decide +kernel
theorem dX2_init_21 : decode cX2_init 21 = .ok (.aload_n 0, 1) := by decide +kernel
theorem dX2_init_22 : decode cX2_init 22 = .ok (.iload_n 3, 1) := by decide +kernel
theorem dX2_init_23 : decode cX2_init 23 = .ok (.putfield 23, 3) := by decide +kernel
theorem dX2_init_26 : decode cX2_init 26 = .ok (.return_, 1) := by decide +kernel
theorem dX2_letOut_0 : decode cX2_letOut 0 = .ok (.lconst 0, 1) := by decide +kernel
theorem dX2_letOut_1 : decode cX2_letOut 1 = .ok (.aload_n 0, 1) := by decide +kernel
theorem dX2_letOut_2 : decode cX2_letOut 2 = .ok (.getfield 23, 3) := by decide +kernel
theorem dX2_letOut_5 : decode cX2_letOut 5 = .ok (.i2l, 1) := by decide +kernel
theorem dX2_letOut_6 : decode cX2_letOut 6 = .ok (.aload_n 0, 1) := by decide +kernel
theorem dX2_letOut_7 : decode cX2_letOut 7 = .ok (.getfield 7, 3) := by decide +kernel
theorem dX2_letOut_10 : decode cX2_letOut 10 = .ok (.getfield 26, 3) := by decide +kernel
theorem dX2_letOut_13 : decode cX2_letOut 13 = .ok (.aload_n 0, 1) := by decide +kernel
theorem dX2_letOut_14 : decode cX2_letOut 14 = .ok (.getfield 19, 3) := by decide +kernel
theorem dX2_letOut_17 : decode cX2_letOut 17 = .ok (.lsub, 1) := by decide +kernel
theorem dX2_letOut_18 : decode cX2_letOut 18 = .ok (.invokestatic 29, 3) := by decide +kernel
theorem dX2_letOut_21 : decode cX2_letOut 21 = .ok (.invokestatic 35, 3) := by decide +kernel
theorem dX2_letOut_24 : decode cX2_letOut 24 = .ok (.lstore_n 1, 1) := by decide +kernel
theorem dX2_letOut_25 : decode cX2_letOut 25 = .ok (.aload_n 0, 1) := by decide +kernel
theorem dX2_letOut_26 : decode cX2_letOut 26 = .ok (.getfield 7, 3) := by decide +kernel
theorem dX2_letOut_29 : decode cX2_letOut 29 = .ok (.dup, 1) := by decide +kernel
theorem dX2_letOut_30 : decode cX2_letOut 30 = .ok (.getfield 26, 3) := by decide +kernel
theorem dX2_letOut_33 : decode cX2_letOut 33 = .ok (.lload_n 1, 1) := by decide +kernel
theorem dX2_letOut_34 : decode cX2_letOut 34 = .ok (.lsub, 1) := by decide +kernel
theorem dX2_letOut_35 : decode cX2_letOut 35 = .ok (.putfield 26, 3) := by decide +kernel
theorem dX2_letOut_38 : decode cX2_letOut 38 = .ok (.aload_n 0, 1) := by decide +kernel
theorem dX2_letOut_39 : decode cX2_letOut 39 = .ok (.getfield 7, 3) := by decide +kernel
theorem dX2_letOut_42 : decode cX2_letOut 42 = .ok (.dup, 1) := by decide +kernel
theorem dX2_letOut_43 : decode cX2_letOut 43 = .ok (.getfield 38, 3) := by decide +kernel
theorem dX2_letOut_46 : decode cX2_letOut 46 = .ok (.lload_n 1, 1) := by decide +kernel
theorem dX2_letOut_47 : decode cX2_letOut 47 = .ok (.ladd, 1) := by decide +kernel
theorem dX2_letOut_48 : decode cX2_letOut 48 = .ok (.putfield 38, 3) := by decide +kernel
theorem dX2_letOut_51 : decode cX2_letOut 51 = .ok (.lload_n 1, 1) := by decide +kernel
theorem dX2_letOut_52 : decode cX2_letOut 52 = .ok (.lreturn, 1) := by decide +kernel
theorem dX3_init_0 : decode cX3_init 0 = .ok (.aload_n 0, 1) := by decide +kernel
theorem dX3_init_1 : decode cX3_init 1 = .ok (.invokespecial 1, 3) := by decide +kernel
theorem dX3_init_4 : decode cX3_init 4 = .ok (.aload_n 0, 1) := by decide +kernel
theorem dX3_init_5 : decode cX3_init 5 = .ok (.iload_n 1, 1) := by decide +kernel
theorem dX3_init_6 : decode cX3_init 6 = .ok (.putfield 7, 3) := by decide +kernel
theorem dX3_init_9 : decode cX3_init 9 = .ok (.aload_n 0, 1) := by decide +kernel
theorem dX3_init_10 : decode cX3_init 10 = .ok (.aload_n 2, 1) := by decide +kernel
theorem dX3_init_11 : decode cX3_init 11 = .ok (.putfield 13, 3) := by decide +kernel
theorem dX3_init_14 : decode cX3_init 14 = .ok (.aload_n 0, 1) := by decide +kernel
theorem dX3_init_15 : decode cX3_init 15 = .ok (.iload_n 3, 1) := by decide +kernel
theorem dX3_init_16 : decode cX3_init 16 = .ok (.putfield 17, 3) := by decide +kernel
theorem dX3_init_19 : decode cX3_init 19 = .ok (.return_, 1) := by decide +kernel
theorem dX3_drain_0 : decode cX3_drain 0 = .ok (.lconst 0, 1) := by decide +kernel
theorem dX3_drain_1 : decode cX3_drain 1 = .ok (.aload_n 0, 1) := by decide +kernel
theorem dX3_drain_2 : decode cX3_drain 2 = .ok (.getfield 13, 3) := by decide +kernel
theorem dX3_drain_5 : decode cX3_drain 5 = .ok (.getfield 20, 3) := by decide +kernel
theorem dX3_drain_8 : decode cX3_drain 8 = .ok (.aload_n 0, 1) := by decide +kernel
theorem dX3_drain_9 : decode cX3_drain 9 = .ok (.getfield 13, 3) := by decide +kernel
theorem dX3_drain_12 : decode cX3_drain 12 = .ok (.getfield 26, 3) := by decide +kernel
theorem dX3_drain_15 : decode cX3_drain 15 = .ok (.lsub, 1) := by decide +kernel
theorem dX3_drain_16 : decode cX3_drain 16 = .ok (.invokestatic 29, 3) := by decide +kernel
theorem dX3_drain_19 : decode cX3_drain 19 = .ok (.lstore_n 3, 1) := by decide +kernel
theorem dX3_drain_20 : decode cX3_drain 20 = .ok (.aload_n 0, 1) := by decide +kernel
theorem dX3_drain_21 : decode cX3_drain 21 = .ok (.getfield 17, 3) := by decide +kernel
theorem dX3_drain_24 : decode cX3_drain 24 = .ok (.i2l, 1) := by decide +kernel
theorem dX3_drain_25 : decode cX3_drain 25 = .ok (.lload_n 1, 1) := by decide +kernel
theorem dX3_drain_26 : decode cX3_drain 26 = .ok (.invokestatic 35, 3) := by decide +kernel
theorem dX3_drain_29 : decode cX3_drain 29 = .ok (.lload_n 3, 1) := by decide +kernel
theorem dX3_drain_30 : decode cX3_drain 30 = .ok (.invokestatic 35, 3) := by decide +kernel
theorem dX3_drain_33 : decode cX3_drain 33 = .ok (.lstore 5, 2) := by decide +kernel
theorem dX3_drain_35 : decode cX3_drain 35 = .ok (.aload_n 0, 1) := by decide +kernel
theorem dX3_drain_36 : decode cX3_drain 36 = .ok (.getfield 13, 3) := by decide +kernel
theorem dX3_drain_39 : decode cX3_drain 39 = .ok (.dup, 1) := by decide +kernel
theorem dX3_drain_40 : decode cX3_drain 40 = .ok (.getfield 26, 3) := by decide +kernel
theorem dX3_drain_43 : decode cX3_drain 43 = .ok (.lload 5, 2) := by decide +kernel
theorem dX3_drain_45 : decode cX3_drain 45 = .ok (.ladd, 1) := by decide +kernel
theorem dX3_drain_46 : decode cX3_drain 46 = .ok (.putfield 26, 3) := by decide +kernel
theorem dX3_drain_49 : decode cX3_drain 49 = .ok (.lload 5, 2) := by decide +kernel
theorem dX3_drain_51 : decode cX3_drain 51 = .ok (.lreturn, 1) := by decide +kernel
theorem dX4_init_0 : decode cX4_init 0 = .ok (.aload_n 0, 1) := by decide +kernel
theorem dX4_init_1 : decode cX4_init 1 = .ok (.invokespecial 3, 3) := by decide +kernel
theorem dX4_init_4 : decode cX4_init 4 = .ok (.aload_n 0, 1) := by decide +kernel
theorem dX4_init_5 : decode cX4_init 5 = .ok (.new 9, 3) := by decide +kernel
theorem dX4_init_8 : decode cX4_init 8 = .ok (.dup, 1) := by decide +kernel
theorem dX4_init_9 : decode cX4_init 9 = .ok (.invokespecial 11, 3) := by decide +kernel
theorem dX4_init_12 : decode cX4_init 12 = .ok (.putfield 12, 3) := by decide +kernel
theorem dX4_init_15 : decode cX4_init 15 = .ok (.aload_n 0, 1) := by decide +kernel
theorem dX4_init_16 : decode cX4_init 16 = .ok (.new 9, 3) := by decide +kernel
theorem dX4_init_19 : decode cX4_init 19 = .ok (.dup, 1) := by decide +kernel
theorem dX4_init_20 : decode cX4_init 20 = .ok (.invokespecial 11, 3) := by decide +kernel
theorem dX4_init_23 : decode cX4_init 23 = .ok (.putfield 18, 3) := by decide +kernel
theorem dX4_init_26 : decode cX4_init 26 = .ok (.aload_n 0, 1) := by decide +kernel
theorem dX4_init_27 : decode cX4_init 27 = .ok (.sipush 401, 3) := by decide +kernel
theorem dX4_init_30 : decode cX4_init 30 = .ok (.newarray .long, 2) := by decide +kernel
theorem dX4_init_32 : decode cX4_init 32 = .ok (.putfield 21, 3) := by decide +kernel
theorem dX4_init_35 : decode cX4_init 35 = .ok (.return_, 1) := by decide +kernel
theorem dX4_addEntry_0 : decode cX4_addEntry 0 = .ok (.aload_n 0, 1) := by decide +kernel
theorem dX4_addEntry_1 : decode cX4_addEntry 1 = .ok (.getfield 12, 3) := by decide +kernel
theorem dX4_addEntry_4 : decode cX4_addEntry 4 = .ok (.invokevirtual 25, 3) := by decide +kernel
theorem dX4_addEntry_7 : decode cX4_addEntry 7 = .ok (.istore_n 3, 1) := by decide +kernel
theorem dX4_addEntry_8 : decode cX4_addEntry 8 = .ok (.iload_n 3, 1) := by decide +kernel
theorem dX4_addEntry_9 : decode cX4_addEntry 9 = .ok (.bipush 6, 2) := by decide +kernel
theorem dX4_addEntry_11 : decode cX4_addEntry 11 = .ok (.if_icmp .ge 27, 3) := by decide +kernel
theorem dX4_addEntry_14 : decode cX4_addEntry 14 = .ok (.iload_n 3, 1) := by decide +kernel
theorem dX4_addEntry_15 : decode cX4_addEntry 15 = .ok (.ifCond .le 25, 3) := by decide +kernel
theorem dX4_addEntry_18 : decode cX4_addEntry 18 = .ok (.iload_n 1, 1) := by decide +kernel
theorem dX4_addEntry_19 : decode cX4_addEntry 19 = .ok (.aload_n 0, 1) := by decide +kernel
theorem dX4_addEntry_20 : decode cX4_addEntry 20 = .ok (.getfield 12, 3) := by decide +kernel
theorem dX4_addEntry_23 : decode cX4_addEntry 23 = .ok (.iload_n 3, 1) := by decide +kernel
theorem dX4_addEntry_24 : decode cX4_addEntry 24 = .ok (.iconst 1, 1) := by decide +kernel
theorem dX4_addEntry_25 : decode cX4_addEntry 25 = .ok (.isub, 1) := by decide +kernel
theorem dX4_addEntry_26 : decode cX4_addEntry 26 = .ok (.invokevirtual 29, 3) := by decide +kernel
theorem dX4_addEntry_29 : decode cX4_addEntry 29 = .ok (.checkcast 33, 3) := by decide +kernel
theorem dX4_addEntry_32 : decode cX4_addEntry 32 = .ok (.getfield 35, 3) := by decide +kernel
theorem dX4_addEntry_35 : decode cX4_addEntry 35 = .ok (.if_icmp .gt 5, 3) := by decide +kernel
theorem dX4_addEntry_38 : decode cX4_addEntry 38 = .ok (.iconst (-1), 1) := by decide +kernel
theorem dX4_addEntry_39 : decode cX4_addEntry 39 = .ok (.ireturn, 1) := by decide +kernel
theorem dX4_addEntry_40 : decode cX4_addEntry 40 = .ok (.aload_n 0, 1) := by decide +kernel
theorem dX4_addEntry_41 : decode cX4_addEntry 41 = .ok (.getfield 12, 3) := by decide +kernel
theorem dX4_addEntry_44 : decode cX4_addEntry 44 = .ok (.new 33, 3) := by decide +kernel
theorem dX4_addEntry_47 : decode cX4_addEntry 47 = .ok (.dup, 1) := by decide +kernel
theorem dX4_addEntry_48 : decode cX4_addEntry 48 = .ok (.iload_n 1, 1) := by decide +kernel
theorem dX4_addEntry_49 : decode cX4_addEntry 49 = .ok (.iload_n 2, 1) := by decide +kernel
theorem dX4_addEntry_50 : decode cX4_addEntry 50 = .ok (.invokespecial 39, 3) := by decide +kernel
theorem dX4_addEntry_53 : decode cX4_addEntry 53 = .ok (.invokevirtual 42, 3) := by decide +kernel
theorem dX4_addEntry_56 : decode cX4_addEntry 56 = .ok (.pop, 1) := by decide +kernel
theorem dX4_addEntry_57 : decode cX4_addEntry 57 = .ok (.aload_n 0, 1) := by decide +kernel
theorem dX4_addEntry_58 : decode cX4_addEntry 58 = .ok (.iconst 0, 1) := by decide +kernel
theorem dX4_addEntry_59 : decode cX4_addEntry 59 = .ok (.putfield 46, 3) := by decide +kernel
theorem dX4_addEntry_62 : decode cX4_addEntry 62 = .ok (.iload_n 3, 1) := by decide +kernel
theorem dX4_addEntry_63 : decode cX4_addEntry 63 = .ok (.ireturn, 1) := by decide +kernel
theorem dX4_beginAnew_0 : decode cX4_beginAnew 0 = .ok (.aload_n 0, 1) := by decide +kernel
theorem dX4_beginAnew_1 : decode cX4_beginAnew 1 = .ok (.iload_n 1, 1) := by decide +kernel
theorem dX4_beginAnew_2 : decode cX4_beginAnew 2 = .ok (.putfield 50, 3) := by decide +kernel
theorem dX4_beginAnew_5 : decode cX4_beginAnew 5 = .ok (.aload_n 0, 1) := by decide +kernel
theorem dX4_beginAnew_6 : decode cX4_beginAnew 6 = .ok (.iload_n 2, 1) := by decide +kernel
theorem dX4_beginAnew_7 : decode cX4_beginAnew 7 = .ok (.putfield 53, 3) := by decide +kernel
theorem dX4_beginAnew_10 : decode cX4_beginAnew 10 = .ok (.aload_n 0, 1) := by decide +kernel
theorem dX4_beginAnew_11 : decode cX4_beginAnew 11 = .ok (.iconst 0, 1) := by decide +kernel
theorem dX4_beginAnew_12 : decode cX4_beginAnew 12 = .ok (.putfield 56, 3) := by decide +kernel
theorem dX4_beginAnew_15 : decode cX4_beginAnew 15 = .ok (.aload_n 0, 1) := by decide +kernel
theorem dX4_beginAnew_16 : decode cX4_beginAnew 16 = .ok (.iconst 1, 1) := by decide +kernel
theorem dX4_beginAnew_17 : decode cX4_beginAnew 17 = .ok (.putfield 59, 3) := by decide +kernel
theorem dX4_beginAnew_20 : decode cX4_beginAnew 20 = .ok (.aload_n 0, 1) := by decide +kernel
theorem dX4_beginAnew_21 : decode cX4_beginAnew 21 = .ok (.iconst 0, 1) := by decide +kernel
theorem dX4_beginAnew_22 : decode cX4_beginAnew 22 = .ok (.putfield 46, 3) := by decide +kernel
theorem dX4_beginAnew_25 : decode cX4_beginAnew 25 = .ok (.return_, 1) := by decide +kernel
theorem dX4_addPiece_0 : decode cX4_addPiece 0 = .ok (.aload_n 0, 1) := by decide +kernel
theorem dX4_addPiece_1 : decode cX4_addPiece 1 = .ok (.getfield 59, 3) := by decide +kernel
theorem dX4_addPiece_4 : decode cX4_addPiece 4 = .ok (.ifCond .eq 12, 3) := by decide +kernel
theorem dX4_addPiece_7 : decode cX4_addPiece 7 = .ok (.aload_n 0, 1) := by decide +kernel
theorem dX4_addPiece_8 : decode cX4_addPiece 8 = .ok (.getfield 56, 3) := by decide +kernel
theorem dX4_addPiece_11 : decode cX4_addPiece 11 = .ok (.bipush 10, 2) := by decide +kernel
theorem dX4_addPiece_13 : decode cX4_addPiece 13 = .ok (.if_icmp .lt 5, 3) := by decide +kernel
theorem dX4_addPiece_16 : decode cX4_addPiece 16 = .ok (.iconst (-1), 1) := by decide +kernel
theorem dX4_addPiece_17 : decode cX4_addPiece 17 = .ok (.ireturn, 1) := by decide +kernel
theorem dX4_addPiece_18 : decode cX4_addPiece 18 = .ok (.aload_n 0, 1) := by decide +kernel
theorem dX4_addPiece_19 : decode cX4_addPiece 19 = .ok (.getfield 56, 3) := by decide +kernel
theorem dX4_addPiece_22 : decode cX4_addPiece 22 = .ok (.aload_n 0, 1) := by decide +kernel
theorem dX4_addPiece_23 : decode cX4_addPiece 23 = .ok (.getfield 18, 3) := by decide +kernel
theorem dX4_addPiece_26 : decode cX4_addPiece 26 = .ok (.invokevirtual 25, 3) := by decide +kernel
theorem dX4_addPiece_29 : decode cX4_addPiece 29 = .ok (.if_icmp .lt 22, 3) := by decide +kernel
theorem dX4_addPiece_32 : decode cX4_addPiece 32 = .ok (.aload_n 0, 1) := by decide +kernel
theorem dX4_addPiece_33 : decode cX4_addPiece 33 = .ok (.getfield 18, 3) := by decide +kernel
theorem dX4_addPiece_36 : decode cX4_addPiece 36 = .ok (.new 62, 3) := by decide +kernel
theorem dX4_addPiece_39 : decode cX4_addPiece 39 = .ok (.dup, 1) := by decide +kernel
theorem dX4_addPiece_40 : decode cX4_addPiece 40 = .ok (.aload_n 0, 1) := by decide +kernel
theorem dX4_addPiece_41 : decode cX4_addPiece 41 = .ok (.getfield 56, 3) := by decide +kernel
theorem dX4_addPiece_44 : decode cX4_addPiece 44 = .ok (.invokespecial 64, 3) := by decide +kernel
theorem dX4_addPiece_47 : decode cX4_addPiece 47 = .ok (.invokevirtual 42, 3) := by decide +kernel
theorem dX4_addPiece_50 : decode cX4_addPiece 50 = .ok (.pop, 1) := by decide +kernel
theorem dX4_addPiece_51 : decode cX4_addPiece 51 = .ok (.aload_n 0, 1) := by decide +kernel
theorem dX4_addPiece_52 : decode cX4_addPiece 52 = .ok (.getfield 18, 3) := by decide +kernel
theorem dX4_addPiece_55 : decode cX4_addPiece 55 = .ok (.aload_n 0, 1) := by decide +kernel
theorem dX4_addPiece_56 : decode cX4_addPiece 56 = .ok (.getfield 56, 3) := by decide +kernel
theorem dX4_addPiece_59 : decode cX4_addPiece 59 = .ok (.invokevirtual 29, 3) := by decide +kernel
theorem dX4_addPiece_62 : decode cX4_addPiece 62 = .ok (.checkcast 62, 3) := by decide +kernel
theorem dX4_addPiece_65 : decode cX4_addPiece 65 = .ok (.astore 4, 2) := by decide +kernel
theorem dX4_addPiece_67 : decode cX4_addPiece 67 = .ok (.aload 4, 2) := by decide +kernel
theorem dX4_addPiece_69 : decode cX4_addPiece 69 = .ok (.iload_n 1, 1) := by decide +kernel
theorem dX4_addPiece_70 : decode cX4_addPiece 70 = .ok (.putfield 67, 3) := by decide +kernel
theorem dX4_addPiece_73 : decode cX4_addPiece 73 = .ok (.aload 4, 2) := by decide +kernel
theorem dX4_addPiece_75 : decode cX4_addPiece 75 = .ok (.iload_n 2, 1) := by decide +kernel
theorem dX4_addPiece_76 : decode cX4_addPiece 76 = .ok (.putfield 68, 3) := by decide +kernel
theorem dX4_addPiece_79 : decode cX4_addPiece 79 = .ok (.aload 4, 2) := by decide +kernel
theorem dX4_addPiece_81 : decode cX4_addPiece 81 = .ok (.iload_n 3, 1) := by decide +kernel
theorem dX4_addPiece_82 : decode cX4_addPiece 82 = .ok (.putfield 71, 3) := by decide +kernel
theorem dX4_addPiece_85 : decode cX4_addPiece 85 = .ok (.aload_n 0, 1) := by decide +kernel
theorem dX4_addPiece_86 : decode cX4_addPiece 86 = .ok (.iconst 0, 1) := by decide +kernel
theorem dX4_addPiece_87 : decode cX4_addPiece 87 = .ok (.putfield 46, 3) := by decide +kernel
theorem dX4_addPiece_90 : decode cX4_addPiece 90 = .ok (.aload_n 0, 1) := by decide +kernel
theorem dX4_addPiece_91 : decode cX4_addPiece 91 = .ok (.dup, 1) := by decide +kernel
theorem dX4_addPiece_92 : decode cX4_addPiece 92 = .ok (.getfield 56, 3) := by decide +kernel
theorem dX4_addPiece_95 : decode cX4_addPiece 95 = .ok (.dup_x1, 1) := by decide +kernel
theorem dX4_addPiece_96 : decode cX4_addPiece 96 = .ok (.iconst 1, 1) := by decide +kernel
theorem dX4_addPiece_97 : decode cX4_addPiece 97 = .ok (.iadd, 1) := by decide +kernel
theorem dX4_addPiece_98 : decode cX4_addPiece 98 = .ok (.putfield 56, 3) := by decide +kernel
theorem dX4_addPiece_101 : decode cX4_addPiece 101 = .ok (.ireturn, 1) := by decide +kernel
theorem dX4_layBest_0 : decode cX4_layBest 0 = .ok (.aload_n 0, 1) := by decide +kernel
theorem dX4_layBest_1 : decode cX4_layBest 1 = .ok (.getfield 56, 3) := by decide +kernel
theorem dX4_layBest_4 : decode cX4_layBest 4 = .ok (.ifCond .ne 7, 3) := by decide +kernel
theorem dX4_layBest_7 : decode cX4_layBest 7 = .ok (.ldc2_w 74, 3) := by decide +kernel
theorem dX4_layBest_10 : decode cX4_layBest 10 = .ok (.lreturn, 1) := by decide +kernel
theorem dX4_layBest_11 : decode cX4_layBest 11 = .ok (.aload_n 0, 1) := by decide +kernel
theorem dX4_layBest_12 : decode cX4_layBest 12 = .ok (.iload_n 1, 1) := by decide +kernel
theorem dX4_layBest_13 : decode cX4_layBest 13 = .ok (.putfield 76, 3) := by decide +kernel
theorem dX4_layBest_16 : decode cX4_layBest 16 = .ok (.aload_n 0, 1) := by decide +kernel
theorem dX4_layBest_17 : decode cX4_layBest 17 = .ok (.iload_n 2, 1) := by decide +kernel
theorem dX4_layBest_18 : decode cX4_layBest 18 = .ok (.putfield 79, 3) := by decide +kernel
theorem dX4_layBest_21 : decode cX4_layBest 21 = .ok (.aload_n 0, 1) := by decide +kernel
theorem dX4_layBest_22 : decode cX4_layBest 22 = .ok (.iconst 0, 1) := by decide +kernel
theorem dX4_layBest_23 : decode cX4_layBest 23 = .ok (.putfield 46, 3) := by decide +kernel
theorem dX4_layBest_26 : decode cX4_layBest 26 = .ok (.aload_n 0, 1) := by decide +kernel
theorem dX4_layBest_27 : decode cX4_layBest 27 = .ok (.getfield 12, 3) := by decide +kernel
theorem dX4_layBest_30 : decode cX4_layBest 30 = .ok (.invokevirtual 82, 3) := by decide +kernel
theorem dX4_layBest_33 : decode cX4_layBest 33 = .ok (.ifCond .eq 7, 3) := by decide +kernel
theorem dX4_layBest_36 : decode cX4_layBest 36 = .ok (.ldc2_w 86, 3) := by decide +kernel
theorem dX4_layBest_39 : decode cX4_layBest 39 = .ok (.lreturn, 1) := by decide +kernel
theorem dX4_layBest_40 : decode cX4_layBest 40 = .ok (.aload_n 0, 1) := by decide +kernel
theorem dX4_layBest_41 : decode cX4_layBest 41 = .ok (.getfield 56, 3) := by decide +kernel
theorem dX4_layBest_44 : decode cX4_layBest 44 = .ok (.iconst 1, 1) := by decide +kernel
theorem dX4_layBest_45 : decode cX4_layBest 45 = .ok (.isub, 1) := by decide +kernel
theorem dX4_layBest_46 : decode cX4_layBest 46 = .ok (.istore_n 3, 1) := by decide +kernel
theorem dX4_layBest_47 : decode cX4_layBest 47 = .ok (.iload_n 3, 1) := by decide +kernel
theorem dX4_layBest_48 : decode cX4_layBest 48 = .ok (.ifCond .lt 14, 3) := by decide +kernel
theorem dX4_layBest_51 : decode cX4_layBest 51 = .ok (.aload_n 0, 1) := by decide +kernel
theorem dX4_layBest_52 : decode cX4_layBest 52 = .ok (.iload_n 3, 1) := by decide +kernel
theorem dX4_layBest_53 : decode cX4_layBest 53 = .ok (.invokevirtual 88, 3) := by decide +kernel
theorem dX4_layBest_56 : decode cX4_layBest 56 = .ok (.iinc 3 (-1), 3) := by decide +kernel
theorem dX4_layBest_59 : decode cX4_layBest 59 = .ok (.goto (-12), 3) := by decide +kernel
theorem dX4_layBest_62 : decode cX4_layBest 62 = .ok (.aload_n 0, 1) := by decide +kernel
theorem dX4_layBest_63 : decode cX4_layBest 63 = .ok (.getfield 18, 3) := by decide +kernel
theorem dX4_layBest_66 : decode cX4_layBest 66 = .ok (.iconst 0, 1) := by decide +kernel
theorem dX4_layBest_67 : decode cX4_layBest 67 = .ok (.invokevirtual 29, 3) := by decide +kernel
theorem dX4_layBest_70 : decode cX4_layBest 70 = .ok (.checkcast 62, 3) := by decide +kernel
theorem dX4_layBest_73 : decode cX4_layBest 73 = .ok (.getfield 91, 3) := by decide +kernel
theorem dX4_layBest_76 : decode cX4_layBest 76 = .ok (.iconst 0, 1) := by decide +kernel
theorem dX4_layBest_77 : decode cX4_layBest 77 = .ok (.laload, 1) := by decide +kernel
theorem dX4_layBest_78 : decode cX4_layBest 78 = .ok (.lstore_n 3, 1) := by decide +kernel
theorem dX4_layBest_79 : decode cX4_layBest 79 = .ok (.lload_n 3, 1) := by decide +kernel
theorem dX4_layBest_80 : decode cX4_layBest 80 = .ok (.ldc2_w 94, 3) := by decide +kernel
theorem dX4_layBest_83 : decode cX4_layBest 83 = .ok (.lcmp, 1) := by decide +kernel
theorem dX4_layBest_84 : decode cX4_layBest 84 = .ok (.ifCond .lt 7, 3) := by decide +kernel
theorem dX4_layBest_87 : decode cX4_layBest 87 = .ok (.ldc2_w 86, 3) := by decide +kernel
theorem dX4_layBest_90 : decode cX4_layBest 90 = .ok (.lreturn, 1) := by decide +kernel
theorem dX4_layBest_91 : decode cX4_layBest 91 = .ok (.aload_n 0, 1) := by decide +kernel
theorem dX4_layBest_92 : decode cX4_layBest 92 = .ok (.invokevirtual 96, 3) := by decide +kernel
theorem dX4_layBest_95 : decode cX4_layBest 95 = .ok (.aload_n 0, 1) := by decide +kernel
theorem dX4_layBest_96 : decode cX4_layBest 96 = .ok (.iconst 1, 1) := by decide +kernel
theorem dX4_layBest_97 : decode cX4_layBest 97 = .ok (.putfield 46, 3) := by decide +kernel
theorem dX4_layBest_100 : decode cX4_layBest 100 = .ok (.lload_n 3, 1) := by decide +kernel
theorem dX4_layBest_101 : decode cX4_layBest 101 = .ok (.lreturn, 1) := by decide +kernel
theorem dX4_tellLaid_0 : decode cX4_tellLaid 0 = .ok (.aload_n 0, 1) := by decide +kernel
theorem dX4_tellLaid_1 : decode cX4_tellLaid 1 = .ok (.getfield 46, 3) := by decide +kernel
theorem dX4_tellLaid_4 : decode cX4_tellLaid 4 = .ok (.ifCond .eq 17, 3) := by decide +kernel
theorem dX4_tellLaid_7 : decode cX4_tellLaid 7 = .ok (.iload_n 1, 1) := by decide +kernel
theorem dX4_tellLaid_8 : decode cX4_tellLaid 8 = .ok (.iconst 0, 1) := by decide +kernel
theorem dX4_tellLaid_9 : decode cX4_tellLaid 9 = .ok (.aload_n 0, 1) := by decide +kernel
theorem dX4_tellLaid_10 : decode cX4_tellLaid 10 = .ok (.getfield 56, 3) := by decide +kernel
theorem dX4_tellLaid_13 : decode cX4_tellLaid 13 = .ok (.iconst 1, 1) := by decide +kernel
theorem dX4_tellLaid_14 : decode cX4_tellLaid 14 = .ok (.isub, 1) := by decide +kernel
theorem dX4_tellLaid_15 : decode cX4_tellLaid 15 = .ok (.invokestatic 99, 3) := by decide +kernel
theorem dX4_tellLaid_18 : decode cX4_tellLaid 18 = .ok (.ifCond .ne 6, 3) := by decide +kernel
theorem dX4_tellLaid_21 : decode cX4_tellLaid 21 = .ok (.ldc 103, 2) := by decide +kernel
theorem dX4_tellLaid_23 : decode cX4_tellLaid 23 = .ok (.ireturn, 1) := by decide +kernel
theorem dX4_tellLaid_24 : decode cX4_tellLaid 24 = .ok (.aload_n 0, 1) := by decide +kernel
theorem dX4_tellLaid_25 : decode cX4_tellLaid 25 = .ok (.getfield 18, 3) := by decide +kernel
theorem dX4_tellLaid_28 : decode cX4_tellLaid 28 = .ok (.iload_n 1, 1) := by decide +kernel
theorem dX4_tellLaid_29 : decode cX4_tellLaid 29 = .ok (.invokevirtual 29, 3) := by decide +kernel
theorem dX4_tellLaid_32 : decode cX4_tellLaid 32 = .ok (.checkcast 62, 3) := by decide +kernel
theorem dX4_tellLaid_35 : decode cX4_tellLaid 35 = .ok (.astore_n 3, 1) := by decide +kernel
theorem dX4_tellLaid_36 : decode cX4_tellLaid 36 = .ok (.iload_n 2, 1) := by decide +kernel
theorem dX4_tellLaid_37 : decode cX4_tellLaid 37 = .ok (.tableswitch 42 0 2 #[27, 32, 37], 27) := by decide +kernel
theorem dX4_tellLaid_64 : decode cX4_tellLaid 64 = .ok (.aload_n 3, 1) := by decide +kernel
theorem dX4_tellLaid_65 : decode cX4_tellLaid 65 = .ok (.getfield 104, 3) := by decide +kernel
theorem dX4_tellLaid_68 : decode cX4_tellLaid 68 = .ok (.ireturn, 1) := by decide +kernel
theorem dX4_tellLaid_69 : decode cX4_tellLaid 69 = .ok (.aload_n 3, 1) := by decide +kernel
theorem dX4_tellLaid_70 : decode cX4_tellLaid 70 = .ok (.getfield 107, 3) := by decide +kernel
theorem dX4_tellLaid_73 : decode cX4_tellLaid 73 = .ok (.ireturn, 1) := by decide +kernel
theorem dX4_tellLaid_74 : decode cX4_tellLaid 74 = .ok (.aload_n 3, 1) := by decide +kernel
theorem dX4_tellLaid_75 : decode cX4_tellLaid 75 = .ok (.getfield 110, 3) := by decide +kernel
theorem dX4_tellLaid_78 : decode cX4_tellLaid 78 = .ok (.ireturn, 1) := by decide +kernel
theorem dX4_tellLaid_79 : decode cX4_tellLaid 79 = .ok (.ldc 103, 2) := by decide +kernel
theorem dX4_tellLaid_81 : decode cX4_tellLaid 81 = .ok (.ireturn, 1) := by decide +kernel
theorem dX4_weighPiece_0 : decode cX4_weighPiece 0 = .ok (.aload_n 0, 1) := by decide +kernel
theorem dX4_weighPiece_1 : decode cX4_weighPiece 1 = .ok (.getfield 18, 3) := by decide +kernel
theorem dX4_weighPiece_4 : decode cX4_weighPiece 4 = .ok (.iload_n 1, 1) := by decide +kernel
theorem dX4_weighPiece_5 : decode cX4_weighPiece 5 = .ok (.invokevirtual 29, 3) := by decide +kernel
theorem dX4_weighPiece_8 : decode cX4_weighPiece 8 = .ok (.checkcast 62, 3) := by decide +kernel
theorem dX4_weighPiece_11 : decode cX4_weighPiece 11 = .ok (.getfield 91, 3) := by decide +kernel
theorem dX4_weighPiece_14 : decode cX4_weighPiece 14 = .ok (.astore_n 2, 1) := by decide +kernel
theorem dX4_weighPiece_15 : decode cX4_weighPiece 15 = .ok (.aload_n 0, 1) := by decide +kernel
theorem dX4_weighPiece_16 : decode cX4_weighPiece 16 = .ok (.getfield 12, 3) := by decide +kernel
theorem dX4_weighPiece_19 : decode cX4_weighPiece 19 = .ok (.invokevirtual 25, 3) := by decide +kernel
theorem dX4_weighPiece_22 : decode cX4_weighPiece 22 = .ok (.iconst 1, 1) := by decide +kernel
theorem dX4_weighPiece_23 : decode cX4_weighPiece 23 = .ok (.isub, 1) := by decide +kernel
theorem dX4_weighPiece_24 : decode cX4_weighPiece 24 = .ok (.istore_n 3, 1) := by decide +kernel
theorem dX4_weighPiece_25 : decode cX4_weighPiece 25 = .ok (.iload_n 3, 1) := by decide +kernel
theorem dX4_weighPiece_26 : decode cX4_weighPiece 26 = .ok (.ifCond .lt 148, 3) := by decide +kernel
theorem dX4_weighPiece_29 : decode cX4_weighPiece 29 = .ok (.iload_n 3, 1) := by decide +kernel
theorem dX4_weighPiece_30 : decode cX4_weighPiece 30 = .ok (.aload_n 0, 1) := by decide +kernel
theorem dX4_weighPiece_31 : decode cX4_weighPiece 31 = .ok (.getfield 12, 3) := by decide +kernel
theorem dX4_weighPiece_34 : decode cX4_weighPiece 34 = .ok (.invokevirtual 25, 3) := by decide +kernel
theorem dX4_weighPiece_37 : decode cX4_weighPiece 37 = .ok (.iconst 1, 1) := by decide +kernel
theorem dX4_weighPiece_38 : decode cX4_weighPiece 38 = .ok (.isub, 1) := by decide +kernel
theorem dX4_weighPiece_39 : decode cX4_weighPiece 39 = .ok (.if_icmp .ne 7, 3) := by decide +kernel
theorem dX4_weighPiece_42 : decode cX4_weighPiece 42 = .ok (.iconst 1, 1) := by decide +kernel
theorem dX4_weighPiece_43 : decode cX4_weighPiece 43 = .ok (.goto 4, 3) := by decide +kernel
theorem dX4_weighPiece_46 : decode cX4_weighPiece 46 = .ok (.iconst 0, 1) := by decide +kernel
theorem dX4_weighPiece_47 : decode cX4_weighPiece 47 = .ok (.istore 4, 2) := by decide +kernel
theorem dX4_weighPiece_49 : decode cX4_weighPiece 49 = .ok (.aload_n 0, 1) := by decide +kernel
theorem dX4_weighPiece_50 : decode cX4_weighPiece 50 = .ok (.iload_n 1, 1) := by decide +kernel
theorem dX4_weighPiece_51 : decode cX4_weighPiece 51 = .ok (.iload_n 3, 1) := by decide +kernel
theorem dX4_weighPiece_52 : decode cX4_weighPiece 52 = .ok (.invokevirtual 113, 3) := by decide +kernel
theorem dX4_weighPiece_55 : decode cX4_weighPiece 55 = .ok (.istore 5, 2) := by decide +kernel
theorem dX4_weighPiece_57 : decode cX4_weighPiece 57 = .ok (.aload_n 0, 1) := by decide +kernel
theorem dX4_weighPiece_58 : decode cX4_weighPiece 58 = .ok (.iload_n 1, 1) := by decide +kernel
theorem dX4_weighPiece_59 : decode cX4_weighPiece 59 = .ok (.iload_n 3, 1) := by decide +kernel
theorem dX4_weighPiece_60 : decode cX4_weighPiece 60 = .ok (.invokevirtual 117, 3) := by decide +kernel
theorem dX4_weighPiece_63 : decode cX4_weighPiece 63 = .ok (.ldc 122, 2) := by decide +kernel
theorem dX4_weighPiece_65 : decode cX4_weighPiece 65 = .ok (.istore 6, 2) := by decide +kernel
theorem dX4_weighPiece_67 : decode cX4_weighPiece 67 = .ok (.iload_n 1, 1) := by decide +kernel
theorem dX4_weighPiece_68 : decode cX4_weighPiece 68 = .ok (.bipush 40, 2) := by decide +kernel
theorem dX4_weighPiece_70 : decode cX4_weighPiece 70 = .ok (.imul, 1) := by decide +kernel
theorem dX4_weighPiece_71 : decode cX4_weighPiece 71 = .ok (.istore 7, 2) := by decide +kernel
theorem dX4_weighPiece_73 : decode cX4_weighPiece 73 = .ok (.iload 7, 2) := by decide +kernel
theorem dX4_weighPiece_75 : decode cX4_weighPiece 75 = .ok (.ifCond .lt 93, 3) := by decide +kernel
theorem dX4_weighPiece_78 : decode cX4_weighPiece 78 = .ok (.iload 7, 2) := by decide +kernel
theorem dX4_weighPiece_80 : decode cX4_weighPiece 80 = .ok (.bipush 6, 2) := by decide +kernel
theorem dX4_weighPiece_82 : decode cX4_weighPiece 82 = .ok (.imul, 1) := by decide +kernel
theorem dX4_weighPiece_83 : decode cX4_weighPiece 83 = .ok (.iload_n 3, 1) := by decide +kernel
theorem dX4_weighPiece_84 : decode cX4_weighPiece 84 = .ok (.iadd, 1) := by decide +kernel
theorem dX4_weighPiece_85 : decode cX4_weighPiece 85 = .ok (.istore 8, 2) := by decide +kernel
theorem dX4_weighPiece_87 : decode cX4_weighPiece 87 = .ok (.iload 4, 2) := by decide +kernel
theorem dX4_weighPiece_89 : decode cX4_weighPiece 89 = .ok (.ifCond .eq 9, 3) := by decide +kernel
theorem dX4_weighPiece_92 : decode cX4_weighPiece 92 = .ok (.ldc2_w 94, 3) := by decide +kernel
theorem dX4_weighPiece_95 : decode cX4_weighPiece 95 = .ok (.goto 9, 3) := by decide +kernel
theorem dX4_weighPiece_98 : decode cX4_weighPiece 98 = .ok (.aload_n 2, 1) := by decide +kernel
theorem dX4_weighPiece_99 : decode cX4_weighPiece 99 = .ok (.iload 8, 2) := by decide +kernel
theorem dX4_weighPiece_101 : decode cX4_weighPiece 101 = .ok (.iconst 1, 1) := by decide +kernel
theorem dX4_weighPiece_102 : decode cX4_weighPiece 102 = .ok (.iadd, 1) := by decide +kernel
theorem dX4_weighPiece_103 : decode cX4_weighPiece 103 = .ok (.laload, 1) := by decide +kernel
theorem dX4_weighPiece_104 : decode cX4_weighPiece 104 = .ok (.lstore 9, 2) := by decide +kernel
theorem dX4_weighPiece_106 : decode cX4_weighPiece 106 = .ok (.iload 5, 2) := by decide +kernel
theorem dX4_weighPiece_108 : decode cX4_weighPiece 108 = .ok (.bipush 40, 2) := by decide +kernel
theorem dX4_weighPiece_110 : decode cX4_weighPiece 110 = .ok (.if_icmp .gt 46, 3) := by decide +kernel
theorem dX4_weighPiece_113 : decode cX4_weighPiece 113 = .ok (.aload_n 0, 1) := by decide +kernel
theorem dX4_weighPiece_114 : decode cX4_weighPiece 114 = .ok (.iload 7, 2) := by decide +kernel
theorem dX4_weighPiece_116 : decode cX4_weighPiece 116 = .ok (.iload 5, 2) := by decide +kernel
theorem dX4_weighPiece_118 : decode cX4_weighPiece 118 = .ok (.iadd, 1) := by decide +kernel
theorem dX4_weighPiece_119 : decode cX4_weighPiece 119 = .ok (.iload 7, 2) := by decide +kernel
theorem dX4_weighPiece_121 : decode cX4_weighPiece 121 = .ok (.bipush 40, 2) := by decide +kernel
theorem dX4_weighPiece_123 : decode cX4_weighPiece 123 = .ok (.iadd, 1) := by decide +kernel
theorem dX4_weighPiece_124 : decode cX4_weighPiece 124 = .ok (.iload 6, 2) := by decide +kernel
theorem dX4_weighPiece_126 : decode cX4_weighPiece 126 = .ok (.invokevirtual 123, 3) := by decide +kernel
theorem dX4_weighPiece_129 : decode cX4_weighPiece 129 = .ok (.istore 6, 2) := by decide +kernel
theorem dX4_weighPiece_131 : decode cX4_weighPiece 131 = .ok (.aload_n 0, 1) := by decide +kernel
theorem dX4_weighPiece_132 : decode cX4_weighPiece 132 = .ok (.iload_n 1, 1) := by decide +kernel
theorem dX4_weighPiece_133 : decode cX4_weighPiece 133 = .ok (.iload_n 3, 1) := by decide +kernel
theorem dX4_weighPiece_134 : decode cX4_weighPiece 134 = .ok (.iload 7, 2) := by decide +kernel
theorem dX4_weighPiece_136 : decode cX4_weighPiece 136 = .ok (.invokevirtual 127, 3) := by decide +kernel
theorem dX4_weighPiece_139 : decode cX4_weighPiece 139 = .ok (.ifCond .eq 17, 3) := by decide +kernel
theorem dX4_weighPiece_142 : decode cX4_weighPiece 142 = .ok (.lload 9, 2) := by decide +kernel
theorem dX4_weighPiece_144 : decode cX4_weighPiece 144 = .ok (.aload_n 0, 1) := by decide +kernel
theorem dX4_weighPiece_145 : decode cX4_weighPiece 145 = .ok (.getfield 21, 3) := by decide +kernel
theorem dX4_weighPiece_148 : decode cX4_weighPiece 148 = .ok (.iload 6, 2) := by decide +kernel
theorem dX4_weighPiece_150 : decode cX4_weighPiece 150 = .ok (.laload, 1) := by decide +kernel
theorem dX4_weighPiece_151 : decode cX4_weighPiece 151 = .ok (.invokestatic 130, 3) := by decide +kernel
theorem dX4_weighPiece_154 : decode cX4_weighPiece 154 = .ok (.lstore 9, 2) := by decide +kernel
theorem dX4_weighPiece_156 : decode cX4_weighPiece 156 = .ok (.aload_n 2, 1) := by decide +kernel
theorem dX4_weighPiece_157 : decode cX4_weighPiece 157 = .ok (.iload 8, 2) := by decide +kernel
theorem dX4_weighPiece_159 : decode cX4_weighPiece 159 = .ok (.lload 9, 2) := by decide +kernel
theorem dX4_weighPiece_161 : decode cX4_weighPiece 161 = .ok (.lastore, 1) := by decide +kernel
theorem dX4_weighPiece_162 : decode cX4_weighPiece 162 = .ok (.iinc 7 (-1), 3) := by decide +kernel
theorem dX4_weighPiece_165 : decode cX4_weighPiece 165 = .ok (.goto (-92), 3) := by decide +kernel
theorem dX4_weighPiece_168 : decode cX4_weighPiece 168 = .ok (.iinc 3 (-1), 3) := by decide +kernel
theorem dX4_weighPiece_171 : decode cX4_weighPiece 171 = .ok (.goto (-146), 3) := by decide +kernel
theorem dX4_weighPiece_174 : decode cX4_weighPiece 174 = .ok (.return_, 1) := by decide +kernel
theorem dX4_weighEnds_0 : decode cX4_weighEnds 0 = .ok (.iload_n 1, 1) := by decide +kernel
theorem dX4_weighEnds_1 : decode cX4_weighEnds 1 = .ok (.iconst 1, 1) := by decide +kernel
theorem dX4_weighEnds_2 : decode cX4_weighEnds 2 = .ok (.iadd, 1) := by decide +kernel
theorem dX4_weighEnds_3 : decode cX4_weighEnds 3 = .ok (.bipush 40, 2) := by decide +kernel
theorem dX4_weighEnds_5 : decode cX4_weighEnds 5 = .ok (.imul, 1) := by decide +kernel
theorem dX4_weighEnds_6 : decode cX4_weighEnds 6 = .ok (.istore_n 3, 1) := by decide +kernel
theorem dX4_weighEnds_7 : decode cX4_weighEnds 7 = .ok (.iconst 0, 1) := by decide +kernel
theorem dX4_weighEnds_8 : decode cX4_weighEnds 8 = .ok (.istore 4, 2) := by decide +kernel
theorem dX4_weighEnds_10 : decode cX4_weighEnds 10 = .ok (.iload 4, 2) := by decide +kernel
theorem dX4_weighEnds_12 : decode cX4_weighEnds 12 = .ok (.iload_n 3, 1) := by decide +kernel
theorem dX4_weighEnds_13 : decode cX4_weighEnds 13 = .ok (.if_icmp .gt 24, 3) := by decide +kernel
theorem dX4_weighEnds_16 : decode cX4_weighEnds 16 = .ok (.aload_n 0, 1) := by decide +kernel
theorem dX4_weighEnds_17 : decode cX4_weighEnds 17 = .ok (.getfield 21, 3) := by decide +kernel
theorem dX4_weighEnds_20 : decode cX4_weighEnds 20 = .ok (.iload 4, 2) := by decide +kernel
theorem dX4_weighEnds_22 : decode cX4_weighEnds 22 = .ok (.aload_n 0, 1) := by decide +kernel
theorem dX4_weighEnds_23 : decode cX4_weighEnds 23 = .ok (.iload_n 1, 1) := by decide +kernel
theorem dX4_weighEnds_24 : decode cX4_weighEnds 24 = .ok (.iload_n 2, 1) := by decide +kernel
theorem dX4_weighEnds_25 : decode cX4_weighEnds 25 = .ok (.iload 4, 2) := by decide +kernel
theorem dX4_weighEnds_27 : decode cX4_weighEnds 27 = .ok (.invokevirtual 136, 3) := by decide +kernel
theorem dX4_weighEnds_30 : decode cX4_weighEnds 30 = .ok (.lastore, 1) := by decide +kernel
theorem dX4_weighEnds_31 : decode cX4_weighEnds 31 = .ok (.iinc 4 1, 3) := by decide +kernel
theorem dX4_weighEnds_34 : decode cX4_weighEnds 34 = .ok (.goto (-24), 3) := by decide +kernel
theorem dX4_weighEnds_37 : decode cX4_weighEnds 37 = .ok (.return_, 1) := by decide +kernel
theorem dX4_cheapestEnd_0 : decode cX4_cheapestEnd 0 = .ok (.iload_n 3, 1) := by decide +kernel
theorem dX4_cheapestEnd_1 : decode cX4_cheapestEnd 1 = .ok (.iload_n 2, 1) := by decide +kernel
theorem dX4_cheapestEnd_2 : decode cX4_cheapestEnd 2 = .ok (.if_icmp .gt 25, 3) := by decide +kernel
theorem dX4_cheapestEnd_5 : decode cX4_cheapestEnd 5 = .ok (.aload_n 0, 1) := by decide +kernel
theorem dX4_cheapestEnd_6 : decode cX4_cheapestEnd 6 = .ok (.getfield 21, 3) := by decide +kernel
theorem dX4_cheapestEnd_9 : decode cX4_cheapestEnd 9 = .ok (.iload_n 1, 1) := by decide +kernel
theorem dX4_cheapestEnd_10 : decode cX4_cheapestEnd 10 = .ok (.laload, 1) := by decide +kernel
theorem dX4_cheapestEnd_11 : decode cX4_cheapestEnd 11 = .ok (.aload_n 0, 1) := by decide +kernel
theorem dX4_cheapestEnd_12 : decode cX4_cheapestEnd 12 = .ok (.getfield 21, 3) := by decide +kernel
theorem dX4_cheapestEnd_15 : decode cX4_cheapestEnd 15 = .ok (.iload_n 3, 1) := by decide +kernel
theorem dX4_cheapestEnd_16 : decode cX4_cheapestEnd 16 = .ok (.laload, 1) := by decide +kernel
theorem dX4_cheapestEnd_17 : decode cX4_cheapestEnd 17 = .ok (.lcmp, 1) := by decide +kernel
theorem dX4_cheapestEnd_18 : decode cX4_cheapestEnd 18 = .ok (.ifCond .gt 7, 3) := by decide +kernel
theorem dX4_cheapestEnd_21 : decode cX4_cheapestEnd 21 = .ok (.iload_n 1, 1) := by decide +kernel
theorem dX4_cheapestEnd_22 : decode cX4_cheapestEnd 22 = .ok (.goto 4, 3) := by decide +kernel
theorem dX4_cheapestEnd_25 : decode cX4_cheapestEnd 25 = .ok (.iload_n 3, 1) := by decide +kernel
theorem dX4_cheapestEnd_26 : decode cX4_cheapestEnd 26 = .ok (.ireturn, 1) := by decide +kernel
theorem dX4_cheapestEnd_27 : decode cX4_cheapestEnd 27 = .ok (.iload_n 1, 1) := by decide +kernel
theorem dX4_cheapestEnd_28 : decode cX4_cheapestEnd 28 = .ok (.istore 4, 2) := by decide +kernel
theorem dX4_cheapestEnd_30 : decode cX4_cheapestEnd 30 = .ok (.iload_n 1, 1) := by decide +kernel
theorem dX4_cheapestEnd_31 : decode cX4_cheapestEnd 31 = .ok (.iconst 1, 1) := by decide +kernel
theorem dX4_cheapestEnd_32 : decode cX4_cheapestEnd 32 = .ok (.iadd, 1) := by decide +kernel
theorem dX4_cheapestEnd_33 : decode cX4_cheapestEnd 33 = .ok (.istore 5, 2) := by decide +kernel
theorem dX4_cheapestEnd_35 : decode cX4_cheapestEnd 35 = .ok (.iload 5, 2) := by decide +kernel
theorem dX4_cheapestEnd_37 : decode cX4_cheapestEnd 37 = .ok (.iload_n 2, 1) := by decide +kernel
theorem dX4_cheapestEnd_38 : decode cX4_cheapestEnd 38 = .ok (.if_icmp .gt 31, 3) := by decide +kernel
theorem dX4_cheapestEnd_41 : decode cX4_cheapestEnd 41 = .ok (.aload_n 0, 1) := by decide +kernel
theorem dX4_cheapestEnd_42 : decode cX4_cheapestEnd 42 = .ok (.getfield 21, 3) := by decide +kernel
theorem dX4_cheapestEnd_45 : decode cX4_cheapestEnd 45 = .ok (.iload 5, 2) := by decide +kernel
theorem dX4_cheapestEnd_47 : decode cX4_cheapestEnd 47 = .ok (.laload, 1) := by decide +kernel
theorem dX4_cheapestEnd_48 : decode cX4_cheapestEnd 48 = .ok (.aload_n 0, 1) := by decide +kernel
theorem dX4_cheapestEnd_49 : decode cX4_cheapestEnd 49 = .ok (.getfield 21, 3) := by decide +kernel
theorem dX4_cheapestEnd_52 : decode cX4_cheapestEnd 52 = .ok (.iload 4, 2) := by decide +kernel
theorem dX4_cheapestEnd_54 : decode cX4_cheapestEnd 54 = .ok (.laload, 1) := by decide +kernel
theorem dX4_cheapestEnd_55 : decode cX4_cheapestEnd 55 = .ok (.lcmp, 1) := by decide +kernel
theorem dX4_cheapestEnd_56 : decode cX4_cheapestEnd 56 = .ok (.ifCond .ge 7, 3) := by decide +kernel
theorem dX4_cheapestEnd_59 : decode cX4_cheapestEnd 59 = .ok (.iload 5, 2) := by decide +kernel
theorem dX4_cheapestEnd_61 : decode cX4_cheapestEnd 61 = .ok (.istore 4, 2) := by decide +kernel
theorem dX4_cheapestEnd_63 : decode cX4_cheapestEnd 63 = .ok (.iinc 5 1, 3) := by decide +kernel
theorem dX4_cheapestEnd_66 : decode cX4_cheapestEnd 66 = .ok (.goto (-31), 3) := by decide +kernel
theorem dX4_cheapestEnd_69 : decode cX4_cheapestEnd 69 = .ok (.iload 4, 2) := by decide +kernel
theorem dX4_cheapestEnd_71 : decode cX4_cheapestEnd 71 = .ok (.ireturn, 1) := by decide +kernel
theorem dX4_costFrom_0 : decode cX4_costFrom 0 = .ok (.aload_n 0, 1) := by decide +kernel
theorem dX4_costFrom_1 : decode cX4_costFrom 1 = .ok (.getfield 18, 3) := by decide +kernel
theorem dX4_costFrom_4 : decode cX4_costFrom 4 = .ok (.iload_n 1, 1) := by decide +kernel
theorem dX4_costFrom_5 : decode cX4_costFrom 5 = .ok (.invokevirtual 29, 3) := by decide +kernel
theorem dX4_costFrom_8 : decode cX4_costFrom 8 = .ok (.checkcast 62, 3) := by decide +kernel
theorem dX4_costFrom_11 : decode cX4_costFrom 11 = .ok (.astore 4, 2) := by decide +kernel
theorem dX4_costFrom_13 : decode cX4_costFrom 13 = .ok (.aload_n 0, 1) := by decide +kernel
theorem dX4_costFrom_14 : decode cX4_costFrom 14 = .ok (.getfield 12, 3) := by decide +kernel
theorem dX4_costFrom_17 : decode cX4_costFrom 17 = .ok (.iload_n 2, 1) := by decide +kernel
theorem dX4_costFrom_18 : decode cX4_costFrom 18 = .ok (.invokevirtual 29, 3) := by decide +kernel
theorem dX4_costFrom_21 : decode cX4_costFrom 21 = .ok (.checkcast 33, 3) := by decide +kernel
theorem dX4_costFrom_24 : decode cX4_costFrom 24 = .ok (.astore 5, 2) := by decide +kernel
theorem dX4_costFrom_26 : decode cX4_costFrom 26 = .ok (.aload 4, 2) := by decide +kernel
theorem dX4_costFrom_28 : decode cX4_costFrom 28 = .ok (.getfield 67, 3) := by decide +kernel
theorem dX4_costFrom_31 : decode cX4_costFrom 31 = .ok (.i2l, 1) := by decide +kernel
theorem dX4_costFrom_32 : decode cX4_costFrom 32 = .ok (.aload_n 0, 1) := by decide +kernel
theorem dX4_costFrom_33 : decode cX4_costFrom 33 = .ok (.getfield 53, 3) := by decide +kernel
theorem dX4_costFrom_36 : decode cX4_costFrom 36 = .ok (.i2l, 1) := by decide +kernel
theorem dX4_costFrom_37 : decode cX4_costFrom 37 = .ok (.lsub, 1) := by decide +kernel
theorem dX4_costFrom_38 : decode cX4_costFrom 38 = .ok (.iload_n 3, 1) := by decide +kernel
theorem dX4_costFrom_39 : decode cX4_costFrom 39 = .ok (.i2l, 1) := by decide +kernel
theorem dX4_costFrom_40 : decode cX4_costFrom 40 = .ok (.ladd, 1) := by decide +kernel
theorem dX4_costFrom_41 : decode cX4_costFrom 41 = .ok (.lstore 6, 2) := by decide +kernel
theorem dX4_costFrom_43 : decode cX4_costFrom 43 = .ok (.lload 6, 2) := by decide +kernel
theorem dX4_costFrom_45 : decode cX4_costFrom 45 = .ok (.aload_n 0, 1) := by decide +kernel
theorem dX4_costFrom_46 : decode cX4_costFrom 46 = .ok (.getfield 76, 3) := by decide +kernel
theorem dX4_costFrom_49 : decode cX4_costFrom 49 = .ok (.aload 5, 2) := by decide +kernel
theorem dX4_costFrom_51 : decode cX4_costFrom 51 = .ok (.getfield 35, 3) := by decide +kernel
theorem dX4_costFrom_54 : decode cX4_costFrom 54 = .ok (.iadd, 1) := by decide +kernel
theorem dX4_costFrom_55 : decode cX4_costFrom 55 = .ok (.i2l, 1) := by decide +kernel
theorem dX4_costFrom_56 : decode cX4_costFrom 56 = .ok (.lcmp, 1) := by decide +kernel
theorem dX4_costFrom_57 : decode cX4_costFrom 57 = .ok (.ifCond .ge 7, 3) := by decide +kernel
theorem dX4_costFrom_60 : decode cX4_costFrom 60 = .ok (.ldc2_w 94, 3) := by decide +kernel
theorem dX4_costFrom_63 : decode cX4_costFrom 63 = .ok (.lreturn, 1) := by decide +kernel
theorem dX4_costFrom_64 : decode cX4_costFrom 64 = .ok (.aload 4, 2) := by decide +kernel
theorem dX4_costFrom_66 : decode cX4_costFrom 66 = .ok (.getfield 68, 3) := by decide +kernel
theorem dX4_costFrom_69 : decode cX4_costFrom 69 = .ok (.i2l, 1) := by decide +kernel
theorem dX4_costFrom_70 : decode cX4_costFrom 70 = .ok (.aload 5, 2) := by decide +kernel
theorem dX4_costFrom_72 : decode cX4_costFrom 72 = .ok (.getfield 140, 3) := by decide +kernel
theorem dX4_costFrom_75 : decode cX4_costFrom 75 = .ok (.i2l, 1) := by decide +kernel
theorem dX4_costFrom_76 : decode cX4_costFrom 76 = .ok (.aload_n 0, 1) := by decide +kernel
theorem dX4_costFrom_77 : decode cX4_costFrom 77 = .ok (.getfield 79, 3) := by decide +kernel
theorem dX4_costFrom_80 : decode cX4_costFrom 80 = .ok (.i2l, 1) := by decide +kernel
theorem dX4_costFrom_81 : decode cX4_costFrom 81 = .ok (.lload 6, 2) := by decide +kernel
theorem dX4_costFrom_83 : decode cX4_costFrom 83 = .ok (.lmul, 1) := by decide +kernel
theorem dX4_costFrom_84 : decode cX4_costFrom 84 = .ok (.ladd, 1) := by decide +kernel
theorem dX4_costFrom_85 : decode cX4_costFrom 85 = .ok (.lmul, 1) := by decide +kernel
theorem dX4_costFrom_86 : decode cX4_costFrom 86 = .ok (.lstore 8, 2) := by decide +kernel
theorem dX4_costFrom_88 : decode cX4_costFrom 88 = .ok (.iload_n 1, 1) := by decide +kernel
theorem dX4_costFrom_89 : decode cX4_costFrom 89 = .ok (.iconst 1, 1) := by decide +kernel
theorem dX4_costFrom_90 : decode cX4_costFrom 90 = .ok (.iadd, 1) := by decide +kernel
theorem dX4_costFrom_91 : decode cX4_costFrom 91 = .ok (.aload_n 0, 1) := by decide +kernel
theorem dX4_costFrom_92 : decode cX4_costFrom 92 = .ok (.getfield 56, 3) := by decide +kernel
theorem dX4_costFrom_95 : decode cX4_costFrom 95 = .ok (.if_icmp .lt 6, 3) := by decide +kernel
theorem dX4_costFrom_98 : decode cX4_costFrom 98 = .ok (.lload 8, 2) := by decide +kernel
theorem dX4_costFrom_100 : decode cX4_costFrom 100 = .ok (.lreturn, 1) := by decide +kernel
theorem dX4_costFrom_101 : decode cX4_costFrom 101 = .ok (.lload 8, 2) := by decide +kernel
theorem dX4_costFrom_103 : decode cX4_costFrom 103 = .ok (.aload_n 0, 1) := by decide +kernel
theorem dX4_costFrom_104 : decode cX4_costFrom 104 = .ok (.getfield 18, 3) := by decide +kernel
theorem dX4_costFrom_107 : decode cX4_costFrom 107 = .ok (.iload_n 1, 1) := by decide +kernel
theorem dX4_costFrom_108 : decode cX4_costFrom 108 = .ok (.iconst 1, 1) := by decide +kernel
theorem dX4_costFrom_109 : decode cX4_costFrom 109 = .ok (.iadd, 1) := by decide +kernel
theorem dX4_costFrom_110 : decode cX4_costFrom 110 = .ok (.invokevirtual 29, 3) := by decide +kernel
theorem dX4_costFrom_113 : decode cX4_costFrom 113 = .ok (.checkcast 62, 3) := by decide +kernel
theorem dX4_costFrom_116 : decode cX4_costFrom 116 = .ok (.getfield 91, 3) := by decide +kernel
theorem dX4_costFrom_119 : decode cX4_costFrom 119 = .ok (.iload_n 3, 1) := by decide +kernel
theorem dX4_costFrom_120 : decode cX4_costFrom 120 = .ok (.bipush 6, 2) := by decide +kernel
theorem dX4_costFrom_122 : decode cX4_costFrom 122 = .ok (.imul, 1) := by decide +kernel
theorem dX4_costFrom_123 : decode cX4_costFrom 123 = .ok (.iload_n 2, 1) := by decide +kernel
theorem dX4_costFrom_124 : decode cX4_costFrom 124 = .ok (.iadd, 1) := by decide +kernel
theorem dX4_costFrom_125 : decode cX4_costFrom 125 = .ok (.laload, 1) := by decide +kernel
theorem dX4_costFrom_126 : decode cX4_costFrom 126 = .ok (.ladd, 1) := by decide +kernel
theorem dX4_costFrom_127 : decode cX4_costFrom 127 = .ok (.lreturn, 1) := by decide +kernel
theorem dX4_isCoveredAtBegin_0 : decode cX4_isCoveredAtBegin 0 = .ok (.iload_n 1, 1) := by decide +kernel
theorem dX4_isCoveredAtBegin_1 : decode cX4_isCoveredAtBegin 1 = .ok (.ifCond .ne 10, 3) := by decide +kernel
theorem dX4_isCoveredAtBegin_4 : decode cX4_isCoveredAtBegin 4 = .ok (.aload_n 0, 1) := by decide +kernel
theorem dX4_isCoveredAtBegin_5 : decode cX4_isCoveredAtBegin 5 = .ok (.getfield 50, 3) := by decide +kernel
theorem dX4_isCoveredAtBegin_8 : decode cX4_isCoveredAtBegin 8 = .ok (.goto 19, 3) := by decide +kernel
theorem dX4_isCoveredAtBegin_11 : decode cX4_isCoveredAtBegin 11 = .ok (.aload_n 0, 1) := by decide +kernel
theorem dX4_isCoveredAtBegin_12 : decode cX4_isCoveredAtBegin 12 = .ok (.getfield 18, 3) := by decide +kernel
theorem dX4_isCoveredAtBegin_15 : decode cX4_isCoveredAtBegin 15 = .ok (.iload_n 1, 1) := by decide +kernel
theorem dX4_isCoveredAtBegin_16 : decode cX4_isCoveredAtBegin 16 = .ok (.iconst 1, 1) := by decide +kernel
theorem dX4_isCoveredAtBegin_17 : decode cX4_isCoveredAtBegin 17 = .ok (.isub, 1) := by decide +kernel
theorem dX4_isCoveredAtBegin_18 : decode cX4_isCoveredAtBegin 18 = .ok (.invokevirtual 29, 3) := by decide +kernel
theorem dX4_isCoveredAtBegin_21 : decode cX4_isCoveredAtBegin 21 = .ok (.checkcast 62, 3) := by decide +kernel
theorem dX4_isCoveredAtBegin_24 : decode cX4_isCoveredAtBegin 24 = .ok (.getfield 67, 3) := by decide +kernel
theorem dX4_isCoveredAtBegin_27 : decode cX4_isCoveredAtBegin 27 = .ok (.istore 4, 2) := by decide +kernel
theorem dX4_isCoveredAtBegin_29 : decode cX4_isCoveredAtBegin 29 = .ok (.iload 4, 2) := by decide +kernel
theorem dX4_isCoveredAtBegin_31 : decode cX4_isCoveredAtBegin 31 = .ok (.aload_n 0, 1) := by decide +kernel
theorem dX4_isCoveredAtBegin_32 : decode cX4_isCoveredAtBegin 32 = .ok (.getfield 53, 3) := by decide +kernel
theorem dX4_isCoveredAtBegin_35 : decode cX4_isCoveredAtBegin 35 = .ok (.isub, 1) := by decide +kernel
theorem dX4_isCoveredAtBegin_36 : decode cX4_isCoveredAtBegin 36 = .ok (.iload_n 3, 1) := by decide +kernel
theorem dX4_isCoveredAtBegin_37 : decode cX4_isCoveredAtBegin 37 = .ok (.iadd, 1) := by decide +kernel
theorem dX4_isCoveredAtBegin_38 : decode cX4_isCoveredAtBegin 38 = .ok (.aload_n 0, 1) := by decide +kernel
theorem dX4_isCoveredAtBegin_39 : decode cX4_isCoveredAtBegin 39 = .ok (.getfield 76, 3) := by decide +kernel
theorem dX4_isCoveredAtBegin_42 : decode cX4_isCoveredAtBegin 42 = .ok (.aload_n 0, 1) := by decide +kernel
theorem dX4_isCoveredAtBegin_43 : decode cX4_isCoveredAtBegin 43 = .ok (.getfield 12, 3) := by decide +kernel
theorem dX4_isCoveredAtBegin_46 : decode cX4_isCoveredAtBegin 46 = .ok (.iload_n 2, 1) := by decide +kernel
theorem dX4_isCoveredAtBegin_47 : decode cX4_isCoveredAtBegin 47 = .ok (.invokevirtual 29, 3) := by decide +kernel
theorem dX4_isCoveredAtBegin_50 : decode cX4_isCoveredAtBegin 50 = .ok (.checkcast 33, 3) := by decide +kernel
theorem dX4_isCoveredAtBegin_53 : decode cX4_isCoveredAtBegin 53 = .ok (.getfield 35, 3) := by decide +kernel
theorem dX4_isCoveredAtBegin_56 : decode cX4_isCoveredAtBegin 56 = .ok (.iadd, 1) := by decide +kernel
theorem dX4_isCoveredAtBegin_57 : decode cX4_isCoveredAtBegin 57 = .ok (.if_icmp .lt 7, 3) := by decide +kernel
theorem dX4_isCoveredAtBegin_60 : decode cX4_isCoveredAtBegin 60 = .ok (.iconst 1, 1) := by decide +kernel
theorem dX4_isCoveredAtBegin_61 : decode cX4_isCoveredAtBegin 61 = .ok (.goto 4, 3) := by decide +kernel
theorem dX4_isCoveredAtBegin_64 : decode cX4_isCoveredAtBegin 64 = .ok (.iconst 0, 1) := by decide +kernel
theorem dX4_isCoveredAtBegin_65 : decode cX4_isCoveredAtBegin 65 = .ok (.ireturn, 1) := by decide +kernel
theorem dX4_leastFall_0 : decode cX4_leastFall 0 = .ok (.aload_n 0, 1) := by decide +kernel
theorem dX4_leastFall_1 : decode cX4_leastFall 1 = .ok (.getfield 18, 3) := by decide +kernel
theorem dX4_leastFall_4 : decode cX4_leastFall 4 = .ok (.iload_n 1, 1) := by decide +kernel
theorem dX4_leastFall_5 : decode cX4_leastFall 5 = .ok (.invokevirtual 29, 3) := by decide +kernel
theorem dX4_leastFall_8 : decode cX4_leastFall 8 = .ok (.checkcast 62, 3) := by decide +kernel
theorem dX4_leastFall_11 : decode cX4_leastFall 11 = .ok (.astore_n 3, 1) := by decide +kernel
theorem dX4_leastFall_12 : decode cX4_leastFall 12 = .ok (.aload_n 0, 1) := by decide +kernel
theorem dX4_leastFall_13 : decode cX4_leastFall 13 = .ok (.getfield 12, 3) := by decide +kernel
theorem dX4_leastFall_16 : decode cX4_leastFall 16 = .ok (.iload_n 2, 1) := by decide +kernel
theorem dX4_leastFall_17 : decode cX4_leastFall 17 = .ok (.invokevirtual 29, 3) := by decide +kernel
theorem dX4_leastFall_20 : decode cX4_leastFall 20 = .ok (.checkcast 33, 3) := by decide +kernel
theorem dX4_leastFall_23 : decode cX4_leastFall 23 = .ok (.getfield 35, 3) := by decide +kernel
theorem dX4_leastFall_26 : decode cX4_leastFall 26 = .ok (.i2l, 1) := by decide +kernel
theorem dX4_leastFall_27 : decode cX4_leastFall 27 = .ok (.lstore 4, 2) := by decide +kernel
theorem dX4_leastFall_29 : decode cX4_leastFall 29 = .ok (.lload 4, 2) := by decide +kernel
theorem dX4_leastFall_31 : decode cX4_leastFall 31 = .ok (.lload 4, 2) := by decide +kernel
theorem dX4_leastFall_33 : decode cX4_leastFall 33 = .ok (.lmul, 1) := by decide +kernel
theorem dX4_leastFall_34 : decode cX4_leastFall 34 = .ok (.lstore 6, 2) := by decide +kernel
theorem dX4_leastFall_36 : decode cX4_leastFall 36 = .ok (.ldc2_w 143, 3) := by decide +kernel
theorem dX4_leastFall_39 : decode cX4_leastFall 39 = .ok (.aload_n 3, 1) := by decide +kernel
theorem dX4_leastFall_40 : decode cX4_leastFall 40 = .ok (.getfield 68, 3) := by decide +kernel
theorem dX4_leastFall_43 : decode cX4_leastFall 43 = .ok (.i2l, 1) := by decide +kernel
theorem dX4_leastFall_44 : decode cX4_leastFall 44 = .ok (.lmul, 1) := by decide +kernel
theorem dX4_leastFall_45 : decode cX4_leastFall 45 = .ok (.aload_n 3, 1) := by decide +kernel
theorem dX4_leastFall_46 : decode cX4_leastFall 46 = .ok (.getfield 71, 3) := by decide +kernel
theorem dX4_leastFall_49 : decode cX4_leastFall 49 = .ok (.i2l, 1) := by decide +kernel
theorem dX4_leastFall_50 : decode cX4_leastFall 50 = .ok (.lmul, 1) := by decide +kernel
theorem dX4_leastFall_51 : decode cX4_leastFall 51 = .ok (.lstore 8, 2) := by decide +kernel
theorem dX4_leastFall_53 : decode cX4_leastFall 53 = .ok (.lload 8, 2) := by decide +kernel
theorem dX4_leastFall_55 : decode cX4_leastFall 55 = .ok (.lload 6, 2) := by decide +kernel
theorem dX4_leastFall_57 : decode cX4_leastFall 57 = .ok (.ladd, 1) := by decide +kernel
theorem dX4_leastFall_58 : decode cX4_leastFall 58 = .ok (.lconst 1, 1) := by decide +kernel
theorem dX4_leastFall_59 : decode cX4_leastFall 59 = .ok (.lsub, 1) := by decide +kernel
theorem dX4_leastFall_60 : decode cX4_leastFall 60 = .ok (.lload 6, 2) := by decide +kernel
theorem dX4_leastFall_62 : decode cX4_leastFall 62 = .ok (.ldiv, 1) := by decide +kernel
theorem dX4_leastFall_63 : decode cX4_leastFall 63 = .ok (.lstore 10, 2) := by decide +kernel
theorem dX4_leastFall_65 : decode cX4_leastFall 65 = .ok (.lconst 1, 1) := by decide +kernel
theorem dX4_leastFall_66 : decode cX4_leastFall 66 = .ok (.ldc2_w 145, 3) := by decide +kernel
theorem dX4_leastFall_69 : decode cX4_leastFall 69 = .ok (.lload 10, 2) := by decide +kernel
theorem dX4_leastFall_71 : decode cX4_leastFall 71 = .ok (.invokestatic 130, 3) := by decide +kernel
theorem dX4_leastFall_74 : decode cX4_leastFall 74 = .ok (.invokestatic 147, 3) := by decide +kernel
theorem dX4_leastFall_77 : decode cX4_leastFall 77 = .ok (.l2i, 1) := by decide +kernel
theorem dX4_leastFall_78 : decode cX4_leastFall 78 = .ok (.ireturn, 1) := by decide +kernel
theorem dX4_followBest_0 : decode cX4_followBest 0 = .ok (.iconst 0, 1) := by decide +kernel
theorem dX4_followBest_1 : decode cX4_followBest 1 = .ok (.istore_n 1, 1) := by decide +kernel
theorem dX4_followBest_2 : decode cX4_followBest 2 = .ok (.iconst 0, 1) := by decide +kernel
theorem dX4_followBest_3 : decode cX4_followBest 3 = .ok (.istore_n 2, 1) := by decide +kernel
theorem dX4_followBest_4 : decode cX4_followBest 4 = .ok (.iconst 0, 1) := by decide +kernel
theorem dX4_followBest_5 : decode cX4_followBest 5 = .ok (.istore_n 3, 1) := by decide +kernel
theorem dX4_followBest_6 : decode cX4_followBest 6 = .ok (.iload_n 3, 1) := by decide +kernel
theorem dX4_followBest_7 : decode cX4_followBest 7 = .ok (.aload_n 0, 1) := by decide +kernel
theorem dX4_followBest_8 : decode cX4_followBest 8 = .ok (.getfield 56, 3) := by decide +kernel
theorem dX4_followBest_11 : decode cX4_followBest 11 = .ok (.if_icmp .ge 48, 3) := by decide +kernel
theorem dX4_followBest_14 : decode cX4_followBest 14 = .ok (.aload_n 0, 1) := by decide +kernel
theorem dX4_followBest_15 : decode cX4_followBest 15 = .ok (.iload_n 3, 1) := by decide +kernel
theorem dX4_followBest_16 : decode cX4_followBest 16 = .ok (.iload_n 1, 1) := by decide +kernel
theorem dX4_followBest_17 : decode cX4_followBest 17 = .ok (.iload_n 2, 1) := by decide +kernel
theorem dX4_followBest_18 : decode cX4_followBest 18 = .ok (.invokevirtual 150, 3) := by decide +kernel
theorem dX4_followBest_21 : decode cX4_followBest 21 = .ok (.iload_n 1, 1) := by decide +kernel
theorem dX4_followBest_22 : decode cX4_followBest 22 = .ok (.aload_n 0, 1) := by decide +kernel
theorem dX4_followBest_23 : decode cX4_followBest 23 = .ok (.getfield 18, 3) := by decide +kernel
theorem dX4_followBest_26 : decode cX4_followBest 26 = .ok (.iload_n 3, 1) := by decide +kernel
theorem dX4_followBest_27 : decode cX4_followBest 27 = .ok (.invokevirtual 29, 3) := by decide +kernel
theorem dX4_followBest_30 : decode cX4_followBest 30 = .ok (.checkcast 62, 3) := by decide +kernel
theorem dX4_followBest_33 : decode cX4_followBest 33 = .ok (.getfield 107, 3) := by decide +kernel
theorem dX4_followBest_36 : decode cX4_followBest 36 = .ok (.iadd, 1) := by decide +kernel
theorem dX4_followBest_37 : decode cX4_followBest 37 = .ok (.istore_n 1, 1) := by decide +kernel
theorem dX4_followBest_38 : decode cX4_followBest 38 = .ok (.aload_n 0, 1) := by decide +kernel
theorem dX4_followBest_39 : decode cX4_followBest 39 = .ok (.getfield 18, 3) := by decide +kernel
theorem dX4_followBest_42 : decode cX4_followBest 42 = .ok (.iload_n 3, 1) := by decide +kernel
theorem dX4_followBest_43 : decode cX4_followBest 43 = .ok (.invokevirtual 29, 3) := by decide +kernel
theorem dX4_followBest_46 : decode cX4_followBest 46 = .ok (.checkcast 62, 3) := by decide +kernel
theorem dX4_followBest_49 : decode cX4_followBest 49 = .ok (.getfield 104, 3) := by decide +kernel
theorem dX4_followBest_52 : decode cX4_followBest 52 = .ok (.istore_n 2, 1) := by decide +kernel
theorem dX4_followBest_53 : decode cX4_followBest 53 = .ok (.iinc 3 1, 3) := by decide +kernel
theorem dX4_followBest_56 : decode cX4_followBest 56 = .ok (.goto (-50), 3) := by decide +kernel
theorem dX4_followBest_59 : decode cX4_followBest 59 = .ok (.return_, 1) := by decide +kernel
theorem dX4_layPiece_0 : decode cX4_layPiece 0 = .ok (.aload_n 0, 1) := by decide +kernel
theorem dX4_layPiece_1 : decode cX4_layPiece 1 = .ok (.getfield 18, 3) := by decide +kernel
theorem dX4_layPiece_4 : decode cX4_layPiece 4 = .ok (.iload_n 1, 1) := by decide +kernel
theorem dX4_layPiece_5 : decode cX4_layPiece 5 = .ok (.invokevirtual 29, 3) := by decide +kernel
theorem dX4_layPiece_8 : decode cX4_layPiece 8 = .ok (.checkcast 62, 3) := by decide +kernel
theorem dX4_layPiece_11 : decode cX4_layPiece 11 = .ok (.astore 4, 2) := by decide +kernel
theorem dX4_layPiece_13 : decode cX4_layPiece 13 = .ok (.aload 4, 2) := by decide +kernel
theorem dX4_layPiece_15 : decode cX4_layPiece 15 = .ok (.getfield 91, 3) := by decide +kernel
theorem dX4_layPiece_18 : decode cX4_layPiece 18 = .ok (.iload_n 2, 1) := by decide +kernel
theorem dX4_layPiece_19 : decode cX4_layPiece 19 = .ok (.bipush 6, 2) := by decide +kernel
theorem dX4_layPiece_21 : decode cX4_layPiece 21 = .ok (.imul, 1) := by decide +kernel
theorem dX4_layPiece_22 : decode cX4_layPiece 22 = .ok (.iload_n 3, 1) := by decide +kernel
theorem dX4_layPiece_23 : decode cX4_layPiece 23 = .ok (.iadd, 1) := by decide +kernel
theorem dX4_layPiece_24 : decode cX4_layPiece 24 = .ok (.laload, 1) := by decide +kernel
theorem dX4_layPiece_25 : decode cX4_layPiece 25 = .ok (.lstore 5, 2) := by decide +kernel
theorem dX4_layPiece_27 : decode cX4_layPiece 27 = .ok (.iload_n 3, 1) := by decide +kernel
theorem dX4_layPiece_28 : decode cX4_layPiece 28 = .ok (.istore 7, 2) := by decide +kernel
theorem dX4_layPiece_30 : decode cX4_layPiece 30 = .ok (.iload 7, 2) := by decide +kernel
theorem dX4_layPiece_32 : decode cX4_layPiece 32 = .ok (.aload_n 0, 1) := by decide +kernel
theorem dX4_layPiece_33 : decode cX4_layPiece 33 = .ok (.getfield 12, 3) := by decide +kernel
theorem dX4_layPiece_36 : decode cX4_layPiece 36 = .ok (.invokevirtual 25, 3) := by decide +kernel
theorem dX4_layPiece_39 : decode cX4_layPiece 39 = .ok (.if_icmp .ge 55, 3) := by decide +kernel
theorem dX4_layPiece_42 : decode cX4_layPiece 42 = .ok (.aload_n 0, 1) := by decide +kernel
theorem dX4_layPiece_43 : decode cX4_layPiece 43 = .ok (.lload 5, 2) := by decide +kernel
theorem dX4_layPiece_45 : decode cX4_layPiece 45 = .ok (.iload_n 1, 1) := by decide +kernel
theorem dX4_layPiece_46 : decode cX4_layPiece 46 = .ok (.iload 7, 2) := by decide +kernel
theorem dX4_layPiece_48 : decode cX4_layPiece 48 = .ok (.iload_n 2, 1) := by decide +kernel
theorem dX4_layPiece_49 : decode cX4_layPiece 49 = .ok (.invokevirtual 154, 3) := by decide +kernel
theorem dX4_layPiece_52 : decode cX4_layPiece 52 = .ok (.istore 8, 2) := by decide +kernel
theorem dX4_layPiece_54 : decode cX4_layPiece 54 = .ok (.iload 8, 2) := by decide +kernel
theorem dX4_layPiece_56 : decode cX4_layPiece 56 = .ok (.ifCond .le 32, 3) := by decide +kernel
theorem dX4_layPiece_59 : decode cX4_layPiece 59 = .ok (.aload 4, 2) := by decide +kernel
theorem dX4_layPiece_61 : decode cX4_layPiece 61 = .ok (.iload 7, 2) := by decide +kernel
theorem dX4_layPiece_63 : decode cX4_layPiece 63 = .ok (.putfield 104, 3) := by decide +kernel
theorem dX4_layPiece_66 : decode cX4_layPiece 66 = .ok (.aload 4, 2) := by decide +kernel
theorem dX4_layPiece_68 : decode cX4_layPiece 68 = .ok (.iload 8, 2) := by decide +kernel
theorem dX4_layPiece_70 : decode cX4_layPiece 70 = .ok (.putfield 107, 3) := by decide +kernel
theorem dX4_layPiece_73 : decode cX4_layPiece 73 = .ok (.aload 4, 2) := by decide +kernel
theorem dX4_layPiece_75 : decode cX4_layPiece 75 = .ok (.aload_n 0, 1) := by decide +kernel
theorem dX4_layPiece_76 : decode cX4_layPiece 76 = .ok (.getfield 53, 3) := by decide +kernel
theorem dX4_layPiece_79 : decode cX4_layPiece 79 = .ok (.iload_n 2, 1) := by decide +kernel
theorem dX4_layPiece_80 : decode cX4_layPiece 80 = .ok (.isub, 1) := by decide +kernel
theorem dX4_layPiece_81 : decode cX4_layPiece 81 = .ok (.iload 8, 2) := by decide +kernel
theorem dX4_layPiece_83 : decode cX4_layPiece 83 = .ok (.isub, 1) := by decide +kernel
theorem dX4_layPiece_84 : decode cX4_layPiece 84 = .ok (.putfield 110, 3) := by decide +kernel
theorem dX4_layPiece_87 : decode cX4_layPiece 87 = .ok (.return_, 1) := by decide +kernel
theorem dX4_layPiece_88 : decode cX4_layPiece 88 = .ok (.iinc 7 1, 3) := by decide +kernel
theorem dX4_layPiece_91 : decode cX4_layPiece 91 = .ok (.goto (-61), 3) := by decide +kernel
theorem dX4_layPiece_94 : decode cX4_layPiece 94 = .ok (.return_, 1) := by decide +kernel
theorem dX4_fallThatCosts_0 : decode cX4_fallThatCosts 0 = .ok (.aload_n 0, 1) := by decide +kernel
theorem dX4_fallThatCosts_1 : decode cX4_fallThatCosts 1 = .ok (.iload_n 3, 1) := by decide +kernel
theorem dX4_fallThatCosts_2 : decode cX4_fallThatCosts 2 = .ok (.iload 4, 2) := by decide +kernel
theorem dX4_fallThatCosts_4 : decode cX4_fallThatCosts 4 = .ok (.iload 5, 2) := by decide +kernel
theorem dX4_fallThatCosts_6 : decode cX4_fallThatCosts 6 = .ok (.invokevirtual 127, 3) := by decide +kernel
theorem dX4_fallThatCosts_9 : decode cX4_fallThatCosts 9 = .ok (.ifCond .ne 5, 3) := by decide +kernel
theorem dX4_fallThatCosts_12 : decode cX4_fallThatCosts 12 = .ok (.iconst 0, 1) := by decide +kernel
theorem dX4_fallThatCosts_13 : decode cX4_fallThatCosts 13 = .ok (.ireturn, 1) := by decide +kernel
theorem dX4_fallThatCosts_14 : decode cX4_fallThatCosts 14 = .ok (.aload_n 0, 1) := by decide +kernel
theorem dX4_fallThatCosts_15 : decode cX4_fallThatCosts 15 = .ok (.iload_n 3, 1) := by decide +kernel
theorem dX4_fallThatCosts_16 : decode cX4_fallThatCosts 16 = .ok (.iload 4, 2) := by decide +kernel
theorem dX4_fallThatCosts_18 : decode cX4_fallThatCosts 18 = .ok (.invokevirtual 113, 3) := by decide +kernel
theorem dX4_fallThatCosts_21 : decode cX4_fallThatCosts 21 = .ok (.istore 6, 2) := by decide +kernel
theorem dX4_fallThatCosts_23 : decode cX4_fallThatCosts 23 = .ok (.iload 6, 2) := by decide +kernel
theorem dX4_fallThatCosts_25 : decode cX4_fallThatCosts 25 = .ok (.bipush 40, 2) := by decide +kernel
theorem dX4_fallThatCosts_27 : decode cX4_fallThatCosts 27 = .ok (.if_icmp .gt 29, 3) := by decide +kernel
theorem dX4_fallThatCosts_30 : decode cX4_fallThatCosts 30 = .ok (.aload_n 0, 1) := by decide +kernel
theorem dX4_fallThatCosts_31 : decode cX4_fallThatCosts 31 = .ok (.iload_n 3, 1) := by decide +kernel
theorem dX4_fallThatCosts_32 : decode cX4_fallThatCosts 32 = .ok (.iload 4, 2) := by decide +kernel
theorem dX4_fallThatCosts_34 : decode cX4_fallThatCosts 34 = .ok (.iload 5, 2) := by decide +kernel
theorem dX4_fallThatCosts_36 : decode cX4_fallThatCosts 36 = .ok (.iload 6, 2) := by decide +kernel
theorem dX4_fallThatCosts_38 : decode cX4_fallThatCosts 38 = .ok (.iadd, 1) := by decide +kernel
theorem dX4_fallThatCosts_39 : decode cX4_fallThatCosts 39 = .ok (.invokevirtual 136, 3) := by decide +kernel
theorem dX4_fallThatCosts_42 : decode cX4_fallThatCosts 42 = .ok (.lload_n 1, 1) := by decide +kernel
theorem dX4_fallThatCosts_43 : decode cX4_fallThatCosts 43 = .ok (.lcmp, 1) := by decide +kernel
theorem dX4_fallThatCosts_44 : decode cX4_fallThatCosts 44 = .ok (.ifCond .ne 6, 3) := by decide +kernel
theorem dX4_fallThatCosts_47 : decode cX4_fallThatCosts 47 = .ok (.iload 6, 2) := by decide +kernel
theorem dX4_fallThatCosts_49 : decode cX4_fallThatCosts 49 = .ok (.ireturn, 1) := by decide +kernel
theorem dX4_fallThatCosts_50 : decode cX4_fallThatCosts 50 = .ok (.iinc 6 1, 3) := by decide +kernel
theorem dX4_fallThatCosts_53 : decode cX4_fallThatCosts 53 = .ok (.goto (-30), 3) := by decide +kernel
theorem dX4_fallThatCosts_56 : decode cX4_fallThatCosts 56 = .ok (.iconst 0, 1) := by decide +kernel
theorem dX4_fallThatCosts_57 : decode cX4_fallThatCosts 57 = .ok (.ireturn, 1) := by decide +kernel
theorem dX5_init_0 : decode cX5_init 0 = .ok (.aload_n 0, 1) := by decide +kernel
theorem dX5_init_1 : decode cX5_init 1 = .ok (.invokespecial 3, 3) := by decide +kernel
theorem dX5_init_4 : decode cX5_init 4 = .ok (.aload_n 0, 1) := by decide +kernel
theorem dX5_init_5 : decode cX5_init 5 = .ok (.iconst (-1), 1) := by decide +kernel
theorem dX5_init_6 : decode cX5_init 6 = .ok (.putfield 9, 3) := by decide +kernel
theorem dX5_init_9 : decode cX5_init 9 = .ok (.aload_n 0, 1) := by decide +kernel
theorem dX5_init_10 : decode cX5_init 10 = .ok (.iload_n 2, 1) := by decide +kernel
theorem dX5_init_11 : decode cX5_init 11 = .ok (.putfield 15, 3) := by decide +kernel
theorem dX5_init_14 : decode cX5_init 14 = .ok (.aload_n 0, 1) := by decide +kernel
theorem dX5_init_15 : decode cX5_init 15 = .ok (.iload_n 3, 1) := by decide +kernel
theorem dX5_init_16 : decode cX5_init 16 = .ok (.putfield 18, 3) := by decide +kernel
theorem dX5_init_19 : decode cX5_init 19 = .ok (.aload_n 0, 1) := by decide +kernel
theorem dX5_init_20 : decode cX5_init 20 = .ok (.iload_n 3, 1) := by decide +kernel
theorem dX5_init_21 : decode cX5_init 21 = .ok (.i2l, 1) := by decide +kernel
theorem dX5_init_22 : decode cX5_init 22 = .ok (.iload_n 1, 1) := by decide +kernel
theorem dX5_init_23 : decode cX5_init 23 = .ok (.iload_n 2, 1) := by decide +kernel
theorem dX5_init_24 : decode cX5_init 24 = .ok (.isub, 1) := by decide +kernel
theorem dX5_init_25 : decode cX5_init 25 = .ok (.i2l, 1) := by decide +kernel
theorem dX5_init_26 : decode cX5_init 26 = .ok (.lmul, 1) := by decide +kernel
theorem dX5_init_27 : decode cX5_init 27 = .ok (.putfield 21, 3) := by decide +kernel
theorem dX5_init_30 : decode cX5_init 30 = .ok (.return_, 1) := by decide +kernel
theorem dX5_levelNow_0 : decode cX5_levelNow 0 = .ok (.aload_n 0, 1) := by decide +kernel
theorem dX5_levelNow_1 : decode cX5_levelNow 1 = .ok (.getfield 15, 3) := by decide +kernel
theorem dX5_levelNow_4 : decode cX5_levelNow 4 = .ok (.i2l, 1) := by decide +kernel
theorem dX5_levelNow_5 : decode cX5_levelNow 5 = .ok (.aload_n 0, 1) := by decide +kernel
theorem dX5_levelNow_6 : decode cX5_levelNow 6 = .ok (.getfield 25, 3) := by decide +kernel
theorem dX5_levelNow_9 : decode cX5_levelNow 9 = .ok (.aload_n 0, 1) := by decide +kernel
theorem dX5_levelNow_10 : decode cX5_levelNow 10 = .ok (.getfield 18, 3) := by decide +kernel
theorem dX5_levelNow_13 : decode cX5_levelNow 13 = .ok (.i2l, 1) := by decide +kernel
theorem dX5_levelNow_14 : decode cX5_levelNow 14 = .ok (.ldiv, 1) := by decide +kernel
theorem dX5_levelNow_15 : decode cX5_levelNow 15 = .ok (.ladd, 1) := by decide +kernel
theorem dX5_levelNow_16 : decode cX5_levelNow 16 = .ok (.lreturn, 1) := by decide +kernel
theorem dX5_markLevel_0 : decode cX5_markLevel 0 = .ok (.aload_n 0, 1) := by decide +kernel
theorem dX5_markLevel_1 : decode cX5_markLevel 1 = .ok (.aload_n 0, 1) := by decide +kernel
theorem dX5_markLevel_2 : decode cX5_markLevel 2 = .ok (.invokevirtual 28, 3) := by decide +kernel
theorem dX5_markLevel_5 : decode cX5_markLevel 5 = .ok (.putfield 32, 3) := by decide +kernel
theorem dX5_markLevel_8 : decode cX5_markLevel 8 = .ok (.return_, 1) := by decide +kernel
theorem dX5_giveTo_0 : decode cX5_giveTo 0 = .ok (.lload_n 2, 1) := by decide +kernel
theorem dX5_giveTo_1 : decode cX5_giveTo 1 = .ok (.aload_n 0, 1) := by decide +kernel
theorem dX5_giveTo_2 : decode cX5_giveTo 2 = .ok (.getfield 25, 3) := by decide +kernel
theorem dX5_giveTo_5 : decode cX5_giveTo 5 = .ok (.invokestatic 35, 3) := by decide +kernel
theorem dX5_giveTo_8 : decode cX5_giveTo 8 = .ok (.lstore 4, 2) := by decide +kernel
theorem dX5_giveTo_10 : decode cX5_giveTo 10 = .ok (.aload_n 0, 1) := by decide +kernel
theorem dX5_giveTo_11 : decode cX5_giveTo 11 = .ok (.dup, 1) := by decide +kernel
theorem dX5_giveTo_12 : decode cX5_giveTo 12 = .ok (.getfield 25, 3) := by decide +kernel
theorem dX5_giveTo_15 : decode cX5_giveTo 15 = .ok (.lload 4, 2) := by decide +kernel
theorem dX5_giveTo_17 : decode cX5_giveTo 17 = .ok (.lsub, 1) := by decide +kernel
theorem dX5_giveTo_18 : decode cX5_giveTo 18 = .ok (.putfield 25, 3) := by decide +kernel
theorem dX5_giveTo_21 : decode cX5_giveTo 21 = .ok (.aload_n 1, 1) := by decide +kernel
theorem dX5_giveTo_22 : decode cX5_giveTo 22 = .ok (.dup, 1) := by decide +kernel
theorem dX5_giveTo_23 : decode cX5_giveTo 23 = .ok (.getfield 25, 3) := by decide +kernel
theorem dX5_giveTo_26 : decode cX5_giveTo 26 = .ok (.lload 4, 2) := by decide +kernel
theorem dX5_giveTo_28 : decode cX5_giveTo 28 = .ok (.ladd, 1) := by decide +kernel
theorem dX5_giveTo_29 : decode cX5_giveTo 29 = .ok (.putfield 25, 3) := by decide +kernel
theorem dX5_giveTo_32 : decode cX5_giveTo 32 = .ok (.lload 4, 2) := by decide +kernel
theorem dX5_giveTo_34 : decode cX5_giveTo 34 = .ok (.lreturn, 1) := by decide +kernel
theorem dX5_spill_0 : decode cX5_spill 0 = .ok (.lconst 0, 1) := by decide +kernel
theorem dX5_spill_1 : decode cX5_spill 1 = .ok (.aload_n 0, 1) := by decide +kernel
theorem dX5_spill_2 : decode cX5_spill 2 = .ok (.getfield 25, 3) := by decide +kernel
theorem dX5_spill_5 : decode cX5_spill 5 = .ok (.aload_n 0, 1) := by decide +kernel
theorem dX5_spill_6 : decode cX5_spill 6 = .ok (.getfield 21, 3) := by decide +kernel
theorem dX5_spill_9 : decode cX5_spill 9 = .ok (.lsub, 1) := by decide +kernel
theorem dX5_spill_10 : decode cX5_spill 10 = .ok (.invokestatic 41, 3) := by decide +kernel
theorem dX5_spill_13 : decode cX5_spill 13 = .ok (.lstore_n 1, 1) := by decide +kernel
theorem dX5_spill_14 : decode cX5_spill 14 = .ok (.aload_n 0, 1) := by decide +kernel
theorem dX5_spill_15 : decode cX5_spill 15 = .ok (.dup, 1) := by decide +kernel
theorem dX5_spill_16 : decode cX5_spill 16 = .ok (.getfield 25, 3) := by decide +kernel
theorem dX5_spill_19 : decode cX5_spill 19 = .ok (.lload_n 1, 1) := by decide +kernel
theorem dX5_spill_20 : decode cX5_spill 20 = .ok (.lsub, 1) := by decide +kernel
theorem dX5_spill_21 : decode cX5_spill 21 = .ok (.putfield 25, 3) := by decide +kernel
theorem dX5_spill_24 : decode cX5_spill 24 = .ok (.aload_n 0, 1) := by decide +kernel
theorem dX5_spill_25 : decode cX5_spill 25 = .ok (.dup, 1) := by decide +kernel
theorem dX5_spill_26 : decode cX5_spill 26 = .ok (.getfield 44, 3) := by decide +kernel
theorem dX5_spill_29 : decode cX5_spill 29 = .ok (.lload_n 1, 1) := by decide +kernel
theorem dX5_spill_30 : decode cX5_spill 30 = .ok (.ladd, 1) := by decide +kernel
theorem dX5_spill_31 : decode cX5_spill 31 = .ok (.putfield 44, 3) := by decide +kernel
theorem dX5_spill_34 : decode cX5_spill 34 = .ok (.lload_n 1, 1) := by decide +kernel
theorem dX5_spill_35 : decode cX5_spill 35 = .ok (.lreturn, 1) := by decide +kernel
theorem dX6_init_0 : decode cX6_init 0 = .ok (.aload_n 0, 1) := by decide +kernel
theorem dX6_init_1 : decode cX6_init 1 = .ok (.invokespecial 3, 3) := by decide +kernel
theorem dX6_init_4 : decode cX6_init 4 = .ok (.aload_n 0, 1) := by decide +kernel
theorem dX6_init_5 : decode cX6_init 5 = .ok (.iload_n 1, 1) := by decide +kernel
theorem dX6_init_6 : decode cX6_init 6 = .ok (.bipush 40, 2) := by decide +kernel
theorem dX6_init_8 : decode cX6_init 8 = .ok (.imul, 1) := by decide +kernel
theorem dX6_init_9 : decode cX6_init 9 = .ok (.iconst 1, 1) := by decide +kernel
theorem dX6_init_10 : decode cX6_init 10 = .ok (.iadd, 1) := by decide +kernel
theorem dX6_init_11 : decode cX6_init 11 = .ok (.bipush 6, 2) := by decide +kernel
theorem dX6_init_13 : decode cX6_init 13 = .ok (.imul, 1) := by decide +kernel
theorem dX6_init_14 : decode cX6_init 14 = .ok (.newarray .long, 2) := by decide +kernel
theorem dX6_init_16 : decode cX6_init 16 = .ok (.putfield 9, 3) := by decide +kernel
theorem dX6_init_19 : decode cX6_init 19 = .ok (.return_, 1) := by decide +kernel
theorem dX7_init_0 : decode cX7_init 0 = .ok (.aload_n 0, 1) := by decide +kernel
theorem dX7_init_1 : decode cX7_init 1 = .ok (.invokespecial 1, 3) := by decide +kernel
theorem dX7_init_4 : decode cX7_init 4 = .ok (.aload_n 0, 1) := by decide +kernel
theorem dX7_init_5 : decode cX7_init 5 = .ok (.aload_n 1, 1) := by decide +kernel
theorem dX7_init_6 : decode cX7_init 6 = .ok (.putfield 7, 3) := by decide +kernel
theorem dX7_init_9 : decode cX7_init 9 = .ok (.aload_n 0, 1) := by decide +kernel
theorem dX7_init_10 : decode cX7_init 10 = .ok (.aload_n 2, 1) := by decide +kernel
theorem dX7_init_11 : decode cX7_init 11 = .ok (.putfield 13, 3) := by decide +kernel
theorem dX7_init_14 : decode cX7_init 14 = .ok (.aload_n 0, 1) := by decide +kernel
theorem dX7_init_15 : decode cX7_init 15 = .ok (.iload 4, 2) := by decide +kernel
theorem dX7_init_17 : decode cX7_init 17 = .ok (.i2l, 1) := by decide +kernel
theorem dX7_init_18 : decode cX7_init 18 = .ok (.iload 4, 2) := by decide +kernel
theorem dX7_init_20 : decode cX7_init 20 = .ok (.i2l, 1) := by decide +kernel
theorem dX7_init_21 : decode cX7_init 21 = .ok (.lmul, 1) := by decide +kernel
theorem dX7_init_22 : decode cX7_init 22 = .ok (.putfield 16, 3) := by decide +kernel
theorem dX7_init_25 : decode cX7_init 25 = .ok (.aload_n 0, 1) := by decide +kernel
theorem dX7_init_26 : decode cX7_init 26 = .ok (.ldc2_w 20, 3) := by decide +kernel
theorem dX7_init_29 : decode cX7_init 29 = .ok (.iload_n 3, 1) := by decide +kernel
theorem dX7_init_30 : decode cX7_init 30 = .ok (.i2l, 1) := by decide +kernel
theorem dX7_init_31 : decode cX7_init 31 = .ok (.lmul, 1) := by decide +kernel
theorem dX7_init_32 : decode cX7_init 32 = .ok (.putfield 22, 3) := by decide +kernel
theorem dX7_init_35 : decode cX7_init 35 = .ok (.return_, 1) := by decide +kernel
theorem dX7_carry_0 : decode cX7_carry 0 = .ok (.aload_n 0, 1) := by decide +kernel
theorem dX7_carry_1 : decode cX7_carry 1 = .ok (.dup, 1) := by decide +kernel
theorem dX7_carry_2 : decode cX7_carry 2 = .ok (.getfield 25, 3) := by decide +kernel
theorem dX7_carry_5 : decode cX7_carry 5 = .ok (.aload_n 0, 1) := by decide +kernel
theorem dX7_carry_6 : decode cX7_carry 6 = .ok (.getfield 16, 3) := by decide +kernel
theorem dX7_carry_9 : decode cX7_carry 9 = .ok (.aload_n 0, 1) := by decide +kernel
theorem dX7_carry_10 : decode cX7_carry 10 = .ok (.getfield 7, 3) := by decide +kernel
theorem dX7_carry_13 : decode cX7_carry 13 = .ok (.getfield 28, 3) := by decide +kernel
theorem dX7_carry_16 : decode cX7_carry 16 = .ok (.aload_n 0, 1) := by decide +kernel
theorem dX7_carry_17 : decode cX7_carry 17 = .ok (.getfield 13, 3) := by decide +kernel
theorem dX7_carry_20 : decode cX7_carry 20 = .ok (.getfield 28, 3) := by decide +kernel
theorem dX7_carry_23 : decode cX7_carry 23 = .ok (.lsub, 1) := by decide +kernel
theorem dX7_carry_24 : decode cX7_carry 24 = .ok (.lmul, 1) := by decide +kernel
theorem dX7_carry_25 : decode cX7_carry 25 = .ok (.ladd, 1) := by decide +kernel
theorem dX7_carry_26 : decode cX7_carry 26 = .ok (.putfield 25, 3) := by decide +kernel
theorem dX7_carry_29 : decode cX7_carry 29 = .ok (.aload_n 0, 1) := by decide +kernel
theorem dX7_carry_30 : decode cX7_carry 30 = .ok (.getfield 25, 3) := by decide +kernel
theorem dX7_carry_33 : decode cX7_carry 33 = .ok (.aload_n 0, 1) := by decide +kernel
theorem dX7_carry_34 : decode cX7_carry 34 = .ok (.getfield 22, 3) := by decide +kernel
theorem dX7_carry_37 : decode cX7_carry 37 = .ok (.ldiv, 1) := by decide +kernel
theorem dX7_carry_38 : decode cX7_carry 38 = .ok (.lstore_n 1, 1) := by decide +kernel
theorem dX7_carry_39 : decode cX7_carry 39 = .ok (.aload_n 0, 1) := by decide +kernel
theorem dX7_carry_40 : decode cX7_carry 40 = .ok (.dup, 1) := by decide +kernel
theorem dX7_carry_41 : decode cX7_carry 41 = .ok (.getfield 25, 3) := by decide +kernel
theorem dX7_carry_44 : decode cX7_carry 44 = .ok (.aload_n 0, 1) := by decide +kernel
theorem dX7_carry_45 : decode cX7_carry 45 = .ok (.getfield 22, 3) := by decide +kernel
theorem dX7_carry_48 : decode cX7_carry 48 = .ok (.lrem, 1) := by decide +kernel
theorem dX7_carry_49 : decode cX7_carry 49 = .ok (.putfield 25, 3) := by decide +kernel
theorem dX7_carry_52 : decode cX7_carry 52 = .ok (.aload_n 0, 1) := by decide +kernel
theorem dX7_carry_53 : decode cX7_carry 53 = .ok (.lload_n 1, 1) := by decide +kernel
theorem dX7_carry_54 : decode cX7_carry 54 = .ok (.lconst 0, 1) := by decide +kernel
theorem dX7_carry_55 : decode cX7_carry 55 = .ok (.lcmp, 1) := by decide +kernel
theorem dX7_carry_56 : decode cX7_carry 56 = .ok (.ifCond .lt 18, 3) := by decide +kernel
theorem dX7_carry_59 : decode cX7_carry 59 = .ok (.aload_n 0, 1) := by decide +kernel
theorem dX7_carry_60 : decode cX7_carry 60 = .ok (.getfield 7, 3) := by decide +kernel
theorem dX7_carry_63 : decode cX7_carry 63 = .ok (.aload_n 0, 1) := by decide +kernel
theorem dX7_carry_64 : decode cX7_carry 64 = .ok (.getfield 13, 3) := by decide +kernel
theorem dX7_carry_67 : decode cX7_carry 67 = .ok (.lload_n 1, 1) := by decide +kernel
theorem dX7_carry_68 : decode cX7_carry 68 = .ok (.invokevirtual 33, 3) := by decide +kernel
theorem dX7_carry_71 : decode cX7_carry 71 = .ok (.goto 17, 3) := by decide +kernel
theorem dX7_carry_74 : decode cX7_carry 74 = .ok (.aload_n 0, 1) := by decide +kernel
theorem dX7_carry_75 : decode cX7_carry 75 = .ok (.getfield 13, 3) := by decide +kernel
theorem dX7_carry_78 : decode cX7_carry 78 = .ok (.aload_n 0, 1) := by decide +kernel
theorem dX7_carry_79 : decode cX7_carry 79 = .ok (.getfield 7, 3) := by decide +kernel
theorem dX7_carry_82 : decode cX7_carry 82 = .ok (.lload_n 1, 1) := by decide +kernel
theorem dX7_carry_83 : decode cX7_carry 83 = .ok (.lneg, 1) := by decide +kernel
theorem dX7_carry_84 : decode cX7_carry 84 = .ok (.invokevirtual 33, 3) := by decide +kernel
theorem dX7_carry_87 : decode cX7_carry 87 = .ok (.lneg, 1) := by decide +kernel
theorem dX7_carry_88 : decode cX7_carry 88 = .ok (.putfield 37, 3) := by decide +kernel
theorem dX7_carry_91 : decode cX7_carry 91 = .ok (.aload_n 0, 1) := by decide +kernel
theorem dX7_carry_92 : decode cX7_carry 92 = .ok (.dup, 1) := by decide +kernel
theorem dX7_carry_93 : decode cX7_carry 93 = .ok (.getfield 40, 3) := by decide +kernel
theorem dX7_carry_96 : decode cX7_carry 96 = .ok (.aload_n 0, 1) := by decide +kernel
theorem dX7_carry_97 : decode cX7_carry 97 = .ok (.getfield 37, 3) := by decide +kernel
theorem dX7_carry_100 : decode cX7_carry 100 = .ok (.ladd, 1) := by decide +kernel
theorem dX7_carry_101 : decode cX7_carry 101 = .ok (.putfield 40, 3) := by decide +kernel
theorem dX7_carry_104 : decode cX7_carry 104 = .ok (.return_, 1) := by decide +kernel
theorem dX8_init_0 : decode cX8_init 0 = .ok (.aload_n 0, 1) := by decide +kernel
theorem dX8_init_1 : decode cX8_init 1 = .ok (.invokespecial 1, 3) := by decide +kernel
theorem dX8_init_4 : decode cX8_init 4 = .ok (.aload_n 0, 1) := by decide +kernel
theorem dX8_init_5 : decode cX8_init 5 = .ok (.aload_n 1, 1) := by decide +kernel
theorem dX8_init_6 : decode cX8_init 6 = .ok (.putfield 7, 3) := by decide +kernel
theorem dX8_init_9 : decode cX8_init 9 = .ok (.aload_n 0, 1) := by decide +kernel
theorem dX8_init_10 : decode cX8_init 10 = .ok (.aload_n 2, 1) := by decide +kernel
theorem dX8_init_11 : decode cX8_init 11 = .ok (.putfield 13, 3) := by decide +kernel
theorem dX8_init_14 : decode cX8_init 14 = .ok (.aload_n 0, 1) := by decide +kernel
theorem dX8_init_15 : decode cX8_init 15 = .ok (.iload_n 3, 1) := by decide +kernel
theorem dX8_init_16 : decode cX8_init 16 = .ok (.putfield 16, 3) := by decide +kernel
theorem dX8_init_19 : decode cX8_init 19 = .ok (.aload_n 0, 1) := by decide +kernel
theorem dX8_init_20 : decode cX8_init 20 = .ok (.iload 4, 2) := by decide +kernel
theorem dX8_init_22 : decode cX8_init 22 = .ok (.putfield 20, 3) := by decide +kernel
theorem dX8_init_25 : decode cX8_init 25 = .ok (.aload_n 0, 1) := by decide +kernel
theorem dX8_init_26 : decode cX8_init 26 = .ok (.iload 5, 2) := by decide +kernel
theorem dX8_init_28 : decode cX8_init 28 = .ok (.putfield 23, 3) := by decide +kernel
theorem dX8_init_31 : decode cX8_init 31 = .ok (.return_, 1) := by decide +kernel
theorem dX8_lift_0 : decode cX8_lift 0 = .ok (.aload_n 0, 1) := by decide +kernel
theorem dX8_lift_1 : decode cX8_lift 1 = .ok (.getfield 7, 3) := by decide +kernel
theorem dX8_lift_4 : decode cX8_lift 4 = .ok (.invokevirtual 26, 3) := by decide +kernel
theorem dX8_lift_7 : decode cX8_lift 7 = .ok (.lstore_n 1, 1) := by decide +kernel
theorem dX8_lift_8 : decode cX8_lift 8 = .ok (.lload_n 1, 1) := by decide +kernel
theorem dX8_lift_9 : decode cX8_lift 9 = .ok (.aload_n 0, 1) := by decide +kernel
theorem dX8_lift_10 : decode cX8_lift 10 = .ok (.getfield 16, 3) := by decide +kernel
theorem dX8_lift_13 : decode cX8_lift 13 = .ok (.i2l, 1) := by decide +kernel
theorem dX8_lift_14 : decode cX8_lift 14 = .ok (.lcmp, 1) := by decide +kernel
theorem dX8_lift_15 : decode cX8_lift 15 = .ok (.ifCond .lt 11, 3) := by decide +kernel
theorem dX8_lift_18 : decode cX8_lift 18 = .ok (.aload_n 0, 1) := by decide +kernel
theorem dX8_lift_19 : decode cX8_lift 19 = .ok (.iconst 1, 1) := by decide +kernel
theorem dX8_lift_20 : decode cX8_lift 20 = .ok (.putfield 32, 3) := by decide +kernel
theorem dX8_lift_23 : decode cX8_lift 23 = .ok (.goto 18, 3) := by decide +kernel
theorem dX8_lift_26 : decode cX8_lift 26 = .ok (.lload_n 1, 1) := by decide +kernel
theorem dX8_lift_27 : decode cX8_lift 27 = .ok (.aload_n 0, 1) := by decide +kernel
theorem dX8_lift_28 : decode cX8_lift 28 = .ok (.getfield 20, 3) := by decide +kernel
theorem dX8_lift_31 : decode cX8_lift 31 = .ok (.i2l, 1) := by decide +kernel
theorem dX8_lift_32 : decode cX8_lift 32 = .ok (.lcmp, 1) := by decide +kernel
theorem dX8_lift_33 : decode cX8_lift 33 = .ok (.ifCond .gt 8, 3) := by decide +kernel
theorem dX8_lift_36 : decode cX8_lift 36 = .ok (.aload_n 0, 1) := by decide +kernel
theorem dX8_lift_37 : decode cX8_lift 37 = .ok (.iconst 0, 1) := by decide +kernel
theorem dX8_lift_38 : decode cX8_lift 38 = .ok (.putfield 32, 3) := by decide +kernel
theorem dX8_lift_41 : decode cX8_lift 41 = .ok (.aload_n 0, 1) := by decide +kernel
theorem dX8_lift_42 : decode cX8_lift 42 = .ok (.getfield 32, 3) := by decide +kernel
theorem dX8_lift_45 : decode cX8_lift 45 = .ok (.ifCond .eq 20, 3) := by decide +kernel
theorem dX8_lift_48 : decode cX8_lift 48 = .ok (.aload_n 0, 1) := by decide +kernel
theorem dX8_lift_49 : decode cX8_lift 49 = .ok (.getfield 7, 3) := by decide +kernel
theorem dX8_lift_52 : decode cX8_lift 52 = .ok (.aload_n 0, 1) := by decide +kernel
theorem dX8_lift_53 : decode cX8_lift 53 = .ok (.getfield 13, 3) := by decide +kernel
theorem dX8_lift_56 : decode cX8_lift 56 = .ok (.aload_n 0, 1) := by decide +kernel
theorem dX8_lift_57 : decode cX8_lift 57 = .ok (.getfield 23, 3) := by decide +kernel
theorem dX8_lift_60 : decode cX8_lift 60 = .ok (.i2l, 1) := by decide +kernel
theorem dX8_lift_61 : decode cX8_lift 61 = .ok (.invokevirtual 36, 3) := by decide +kernel
theorem dX8_lift_64 : decode cX8_lift 64 = .ok (.pop2, 1) := by decide +kernel
theorem dX8_lift_65 : decode cX8_lift 65 = .ok (.return_, 1) := by decide +kernel
theorem dX9_init_0 : decode cX9_init 0 = .ok (.aload_n 0, 1) := by decide +kernel
theorem dX9_init_1 : decode cX9_init 1 = .ok (.invokespecial 1, 3) := by decide +kernel
theorem dX9_init_4 : decode cX9_init 4 = .ok (.aload_n 0, 1) := by decide +kernel
theorem dX9_init_5 : decode cX9_init 5 = .ok (.new 7, 3) := by decide +kernel
theorem dX9_init_8 : decode cX9_init 8 = .ok (.dup, 1) := by decide +kernel
theorem dX9_init_9 : decode cX9_init 9 = .ok (.invokespecial 9, 3) := by decide +kernel
theorem dX9_init_12 : decode cX9_init 12 = .ok (.putfield 10, 3) := by decide +kernel
theorem dX9_init_15 : decode cX9_init 15 = .ok (.aload_n 0, 1) := by decide +kernel
theorem dX9_init_16 : decode cX9_init 16 = .ok (.new 7, 3) := by decide +kernel
theorem dX9_init_19 : decode cX9_init 19 = .ok (.dup, 1) := by decide +kernel
theorem dX9_init_20 : decode cX9_init 20 = .ok (.invokespecial 9, 3) := by decide +kernel
theorem dX9_init_23 : decode cX9_init 23 = .ok (.putfield 16, 3) := by decide +kernel
theorem dX9_init_26 : decode cX9_init 26 = .ok (.aload_n 0, 1) := by decide +kernel
theorem dX9_init_27 : decode cX9_init 27 = .ok (.new 7, 3) := by decide +kernel
theorem dX9_init_30 : decode cX9_init 30 = .ok (.dup, 1) := by decide +kernel
theorem dX9_init_31 : decode cX9_init 31 = .ok (.invokespecial 9, 3) := by decide +kernel
theorem dX9_init_34 : decode cX9_init 34 = .ok (.putfield 19, 3) := by decide +kernel
theorem dX9_init_37 : decode cX9_init 37 = .ok (.aload_n 0, 1) := by decide +kernel
theorem dX9_init_38 : decode cX9_init 38 = .ok (.new 7, 3) := by decide +kernel
theorem dX9_init_41 : decode cX9_init 41 = .ok (.dup, 1) := by decide +kernel
theorem dX9_init_42 : decode cX9_init 42 = .ok (.invokespecial 9, 3) := by decide +kernel
theorem dX9_init_45 : decode cX9_init 45 = .ok (.putfield 22, 3) := by decide +kernel
theorem dX9_init_48 : decode cX9_init 48 = .ok (.aload_n 0, 1) := by decide +kernel
theorem dX9_init_49 : decode cX9_init 49 = .ok (.new 7, 3) := by decide +kernel
theorem dX9_init_52 : decode cX9_init 52 = .ok (.dup, 1) := by decide +kernel
theorem dX9_init_53 : decode cX9_init 53 = .ok (.invokespecial 9, 3) := by decide +kernel
theorem dX9_init_56 : decode cX9_init 56 = .ok (.putfield 25, 3) := by decide +kernel
theorem dX9_init_59 : decode cX9_init 59 = .ok (.aload_n 0, 1) := by decide +kernel
theorem dX9_init_60 : decode cX9_init 60 = .ok (.new 7, 3) := by decide +kernel
theorem dX9_init_63 : decode cX9_init 63 = .ok (.dup, 1) := by decide +kernel
theorem dX9_init_64 : decode cX9_init 64 = .ok (.invokespecial 9, 3) := by decide +kernel
theorem dX9_init_67 : decode cX9_init 67 = .ok (.putfield 28, 3) := by decide +kernel
theorem dX9_init_70 : decode cX9_init 70 = .ok (.aload_n 0, 1) := by decide +kernel
theorem dX9_init_71 : decode cX9_init 71 = .ok (.sipush 1440, 3) := by decide +kernel
theorem dX9_init_74 : decode cX9_init 74 = .ok (.newarray .int, 2) := by decide +kernel
theorem dX9_init_76 : decode cX9_init 76 = .ok (.putfield 31, 3) := by decide +kernel
theorem dX9_init_79 : decode cX9_init 79 = .ok (.aload_n 0, 1) := by decide +kernel
theorem dX9_init_80 : decode cX9_init 80 = .ok (.bipush 8, 2) := by decide +kernel
theorem dX9_init_82 : decode cX9_init 82 = .ok (.newarray .long, 2) := by decide +kernel
theorem dX9_init_84 : decode cX9_init 84 = .ok (.putfield 35, 3) := by decide +kernel
theorem dX9_init_87 : decode cX9_init 87 = .ok (.aload_n 0, 1) := by decide +kernel
theorem dX9_init_88 : decode cX9_init 88 = .ok (.new 39, 3) := by decide +kernel
theorem dX9_init_91 : decode cX9_init 91 = .ok (.dup, 1) := by decide +kernel
theorem dX9_init_92 : decode cX9_init 92 = .ok (.invokespecial 41, 3) := by decide +kernel
theorem dX9_init_95 : decode cX9_init 95 = .ok (.putfield 42, 3) := by decide +kernel
theorem dX9_init_98 : decode cX9_init 98 = .ok (.aload_n 0, 1) := by decide +kernel
theorem dX9_init_99 : decode cX9_init 99 = .ok (.iconst 1, 1) := by decide +kernel
theorem dX9_init_100 : decode cX9_init 100 = .ok (.bipush 24, 2) := by decide +kernel
theorem dX9_init_102 : decode cX9_init 102 = .ok (.iload_n 1, 1) := by decide +kernel
theorem dX9_init_103 : decode cX9_init 103 = .ok (.invokestatic 46, 3) := by decide +kernel
theorem dX9_init_106 : decode cX9_init 106 = .ok (.invokestatic 52, 3) := by decide +kernel
theorem dX9_init_109 : decode cX9_init 109 = .ok (.putfield 55, 3) := by decide +kernel
theorem dX9_init_112 : decode cX9_init 112 = .ok (.return_, 1) := by decide +kernel
theorem dX9_node_0 : decode cX9_node 0 = .ok (.aload_n 0, 1) := by decide +kernel
theorem dX9_node_1 : decode cX9_node 1 = .ok (.getfield 10, 3) := by decide +kernel
theorem dX9_node_4 : decode cX9_node 4 = .ok (.invokevirtual 59, 3) := by decide +kernel
theorem dX9_node_7 : decode cX9_node 7 = .ok (.aload_n 0, 1) := by decide +kernel
theorem dX9_node_8 : decode cX9_node 8 = .ok (.getfield 55, 3) := by decide +kernel
theorem dX9_node_11 : decode cX9_node 11 = .ok (.if_icmp .ge 17, 3) := by decide +kernel
theorem dX9_node_14 : decode cX9_node 14 = .ok (.iload_n 1, 1) := by decide +kernel
theorem dX9_node_15 : decode cX9_node 15 = .ok (.invokestatic 63, 3) := by decide +kernel
theorem dX9_node_18 : decode cX9_node 18 = .ok (.ifCond .eq 10, 3) := by decide +kernel
theorem dX9_node_21 : decode cX9_node 21 = .ok (.iload_n 2, 1) := by decide +kernel
theorem dX9_node_22 : decode cX9_node 22 = .ok (.invokestatic 63, 3) := by decide +kernel
theorem dX9_node_25 : decode cX9_node 25 = .ok (.ifCond .ne 5, 3) := by decide +kernel
theorem dX9_node_28 : decode cX9_node 28 = .ok (.iconst (-1), 1) := by decide +kernel
theorem dX9_node_29 : decode cX9_node 29 = .ok (.ireturn, 1) := by decide +kernel
theorem dX9_node_30 : decode cX9_node 30 = .ok (.iload_n 2, 1) := by decide +kernel
theorem dX9_node_31 : decode cX9_node 31 = .ok (.iload_n 1, 1) := by decide +kernel
theorem dX9_node_32 : decode cX9_node 32 = .ok (.if_icmp .ge 13, 3) := by decide +kernel
theorem dX9_node_35 : decode cX9_node 35 = .ok (.iload_n 3, 1) := by decide +kernel
theorem dX9_node_36 : decode cX9_node 36 = .ok (.iconst 1, 1) := by decide +kernel
theorem dX9_node_37 : decode cX9_node 37 = .ok (.ldc 67, 2) := by decide +kernel
theorem dX9_node_39 : decode cX9_node 39 = .ok (.invokestatic 68, 3) := by decide +kernel
theorem dX9_node_42 : decode cX9_node 42 = .ok (.ifCond .ne 5, 3) := by decide +kernel
theorem dX9_node_45 : decode cX9_node 45 = .ok (.iconst (-1), 1) := by decide +kernel
theorem dX9_node_46 : decode cX9_node 46 = .ok (.ireturn, 1) := by decide +kernel
theorem dX9_node_47 : decode cX9_node 47 = .ok (.aload_n 0, 1) := by decide +kernel
theorem dX9_node_48 : decode cX9_node 48 = .ok (.getfield 10, 3) := by decide +kernel
theorem dX9_node_51 : decode cX9_node 51 = .ok (.new 72, 3) := by decide +kernel
theorem dX9_node_54 : decode cX9_node 54 = .ok (.dup, 1) := by decide +kernel
theorem dX9_node_55 : decode cX9_node 55 = .ok (.iload_n 1, 1) := by decide +kernel
theorem dX9_node_56 : decode cX9_node 56 = .ok (.iload_n 2, 1) := by decide +kernel
theorem dX9_node_57 : decode cX9_node 57 = .ok (.iload_n 3, 1) := by decide +kernel
theorem dX9_node_58 : decode cX9_node 58 = .ok (.invokespecial 74, 3) := by decide +kernel
theorem dX9_node_61 : decode cX9_node 61 = .ok (.invokevirtual 77, 3) := by decide +kernel
theorem dX9_node_64 : decode cX9_node 64 = .ok (.pop, 1) := by decide +kernel
theorem dX9_node_65 : decode cX9_node 65 = .ok (.aload_n 0, 1) := by decide +kernel
theorem dX9_node_66 : decode cX9_node 66 = .ok (.getfield 10, 3) := by decide +kernel
theorem dX9_node_69 : decode cX9_node 69 = .ok (.invokevirtual 59, 3) := by decide +kernel
theorem dX9_node_72 : decode cX9_node 72 = .ok (.iconst 1, 1) := by decide +kernel
theorem dX9_node_73 : decode cX9_node 73 = .ok (.isub, 1) := by decide +kernel
theorem dX9_node_74 : decode cX9_node 74 = .ok (.ireturn, 1) := by decide +kernel
theorem dX9_pipe_0 : decode cX9_pipe 0 = .ok (.aload_n 0, 1) := by decide +kernel
theorem dX9_pipe_1 : decode cX9_pipe 1 = .ok (.getfield 16, 3) := by decide +kernel
theorem dX9_pipe_4 : decode cX9_pipe 4 = .ok (.invokevirtual 59, 3) := by decide +kernel
theorem dX9_pipe_7 : decode cX9_pipe 7 = .ok (.bipush 40, 2) := by decide +kernel
theorem dX9_pipe_9 : decode cX9_pipe 9 = .ok (.if_icmp .ge 12, 3) := by decide +kernel
theorem dX9_pipe_12 : decode cX9_pipe 12 = .ok (.aload_n 0, 1) := by decide +kernel
theorem dX9_pipe_13 : decode cX9_pipe 13 = .ok (.iload_n 1, 1) := by decide +kernel
theorem dX9_pipe_14 : decode cX9_pipe 14 = .ok (.iload_n 2, 1) := by decide +kernel
theorem dX9_pipe_15 : decode cX9_pipe 15 = .ok (.invokevirtual 81, 3) := by decide +kernel
theorem dX9_pipe_18 : decode cX9_pipe 18 = .ok (.ifCond .ne 5, 3) := by decide +kernel
theorem dX9_pipe_21 : decode cX9_pipe 21 = .ok (.iconst (-1), 1) := by decide +kernel
theorem dX9_pipe_22 : decode cX9_pipe 22 = .ok (.ireturn, 1) := by decide +kernel
theorem dX9_pipe_23 : decode cX9_pipe 23 = .ok (.iload_n 3, 1) := by decide +kernel
theorem dX9_pipe_24 : decode cX9_pipe 24 = .ok (.iconst 1, 1) := by decide +kernel
theorem dX9_pipe_25 : decode cX9_pipe 25 = .ok (.sipush 10000, 3) := by decide +kernel
theorem dX9_pipe_28 : decode cX9_pipe 28 = .ok (.invokestatic 68, 3) := by decide +kernel
theorem dX9_pipe_31 : decode cX9_pipe 31 = .ok (.ifCond .eq 16, 3) := by decide +kernel
theorem dX9_pipe_34 : decode cX9_pipe 34 = .ok (.iload 4, 2) := by decide +kernel
theorem dX9_pipe_36 : decode cX9_pipe 36 = .ok (.bipush 10, 2) := by decide +kernel
theorem dX9_pipe_38 : decode cX9_pipe 38 = .ok (.sipush 3000, 3) := by decide +kernel
theorem dX9_pipe_41 : decode cX9_pipe 41 = .ok (.invokestatic 68, 3) := by decide +kernel
theorem dX9_pipe_44 : decode cX9_pipe 44 = .ok (.ifCond .ne 5, 3) := by decide +kernel
theorem dX9_pipe_47 : decode cX9_pipe 47 = .ok (.iconst (-1), 1) := by decide +kernel
theorem dX9_pipe_48 : decode cX9_pipe 48 = .ok (.ireturn, 1) := by decide +kernel
theorem dX9_pipe_49 : decode cX9_pipe 49 = .ok (.aload_n 0, 1) := by decide +kernel
theorem dX9_pipe_50 : decode cX9_pipe 50 = .ok (.getfield 16, 3) := by decide +kernel
theorem dX9_pipe_53 : decode cX9_pipe 53 = .ok (.new 85, 3) := by decide +kernel
theorem dX9_pipe_56 : decode cX9_pipe 56 = .ok (.dup, 1) := by decide +kernel
theorem dX9_pipe_57 : decode cX9_pipe 57 = .ok (.aload_n 0, 1) := by decide +kernel
theorem dX9_pipe_58 : decode cX9_pipe 58 = .ok (.getfield 10, 3) := by decide +kernel
theorem dX9_pipe_61 : decode cX9_pipe 61 = .ok (.iload_n 1, 1) := by decide +kernel
theorem dX9_pipe_62 : decode cX9_pipe 62 = .ok (.invokevirtual 87, 3) := by decide +kernel
theorem dX9_pipe_65 : decode cX9_pipe 65 = .ok (.checkcast 72, 3) := by decide +kernel
theorem dX9_pipe_68 : decode cX9_pipe 68 = .ok (.aload_n 0, 1) := by decide +kernel
theorem dX9_pipe_69 : decode cX9_pipe 69 = .ok (.getfield 10, 3) := by decide +kernel
theorem dX9_pipe_72 : decode cX9_pipe 72 = .ok (.iload_n 2, 1) := by decide +kernel
theorem dX9_pipe_73 : decode cX9_pipe 73 = .ok (.invokevirtual 87, 3) := by decide +kernel
theorem dX9_pipe_76 : decode cX9_pipe 76 = .ok (.checkcast 72, 3) := by decide +kernel
theorem dX9_pipe_79 : decode cX9_pipe 79 = .ok (.iload_n 3, 1) := by decide +kernel
theorem dX9_pipe_80 : decode cX9_pipe 80 = .ok (.iload 4, 2) := by decide +kernel
theorem dX9_pipe_82 : decode cX9_pipe 82 = .ok (.invokespecial 91, 3) := by decide +kernel
theorem dX9_pipe_85 : decode cX9_pipe 85 = .ok (.invokevirtual 77, 3) := by decide +kernel
theorem dX9_pipe_88 : decode cX9_pipe 88 = .ok (.pop, 1) := by decide +kernel
theorem dX9_pipe_89 : decode cX9_pipe 89 = .ok (.aload_n 0, 1) := by decide +kernel
theorem dX9_pipe_90 : decode cX9_pipe 90 = .ok (.getfield 16, 3) := by decide +kernel
theorem dX9_pipe_93 : decode cX9_pipe 93 = .ok (.invokevirtual 59, 3) := by decide +kernel
theorem dX9_pipe_96 : decode cX9_pipe 96 = .ok (.iconst 1, 1) := by decide +kernel
theorem dX9_pipe_97 : decode cX9_pipe 97 = .ok (.isub, 1) := by decide +kernel
theorem dX9_pipe_98 : decode cX9_pipe 98 = .ok (.ireturn, 1) := by decide +kernel
theorem dX9_area_0 : decode cX9_area 0 = .ok (.aload_n 0, 1) := by decide +kernel
theorem dX9_area_1 : decode cX9_area 1 = .ok (.getfield 19, 3) := by decide +kernel
theorem dX9_area_4 : decode cX9_area 4 = .ok (.invokevirtual 59, 3) := by decide +kernel
theorem dX9_area_7 : decode cX9_area 7 = .ok (.bipush 24, 2) := by decide +kernel
theorem dX9_area_9 : decode cX9_area 9 = .ok (.if_icmp .ge 11, 3) := by decide +kernel
theorem dX9_area_12 : decode cX9_area 12 = .ok (.aload_n 0, 1) := by decide +kernel
theorem dX9_area_13 : decode cX9_area 13 = .ok (.iload_n 1, 1) := by decide +kernel
theorem dX9_area_14 : decode cX9_area 14 = .ok (.invokevirtual 94, 3) := by decide +kernel
theorem dX9_area_17 : decode cX9_area 17 = .ok (.ifCond .ne 5, 3) := by decide +kernel
theorem dX9_area_20 : decode cX9_area 20 = .ok (.iconst (-1), 1) := by decide +kernel
theorem dX9_area_21 : decode cX9_area 21 = .ok (.ireturn, 1) := by decide +kernel
theorem dX9_area_22 : decode cX9_area 22 = .ok (.iload_n 2, 1) := by decide +kernel
theorem dX9_area_23 : decode cX9_area 23 = .ok (.iconst 1, 1) := by decide +kernel
theorem dX9_area_24 : decode cX9_area 24 = .ok (.ldc 97, 2) := by decide +kernel
theorem dX9_area_26 : decode cX9_area 26 = .ok (.invokestatic 68, 3) := by decide +kernel
theorem dX9_area_29 : decode cX9_area 29 = .ok (.ifCond .eq 14, 3) := by decide +kernel
theorem dX9_area_32 : decode cX9_area 32 = .ok (.iload_n 3, 1) := by decide +kernel
theorem dX9_area_33 : decode cX9_area 33 = .ok (.iconst 0, 1) := by decide +kernel
theorem dX9_area_34 : decode cX9_area 34 = .ok (.sipush 1000, 3) := by decide +kernel
theorem dX9_area_37 : decode cX9_area 37 = .ok (.invokestatic 68, 3) := by decide +kernel
theorem dX9_area_40 : decode cX9_area 40 = .ok (.ifCond .ne 5, 3) := by decide +kernel
theorem dX9_area_43 : decode cX9_area 43 = .ok (.iconst (-1), 1) := by decide +kernel
theorem dX9_area_44 : decode cX9_area 44 = .ok (.ireturn, 1) := by decide +kernel
theorem dX9_area_45 : decode cX9_area 45 = .ok (.aload_n 0, 1) := by decide +kernel
theorem dX9_area_46 : decode cX9_area 46 = .ok (.getfield 19, 3) := by decide +kernel
theorem dX9_area_49 : decode cX9_area 49 = .ok (.new 98, 3) := by decide +kernel
theorem dX9_area_52 : decode cX9_area 52 = .ok (.dup, 1) := by decide +kernel
theorem dX9_area_53 : decode cX9_area 53 = .ok (.aload_n 0, 1) := by decide +kernel
theorem dX9_area_54 : decode cX9_area 54 = .ok (.getfield 10, 3) := by decide +kernel
theorem dX9_area_57 : decode cX9_area 57 = .ok (.iload_n 1, 1) := by decide +kernel
theorem dX9_area_58 : decode cX9_area 58 = .ok (.invokevirtual 87, 3) := by decide +kernel
theorem dX9_area_61 : decode cX9_area 61 = .ok (.checkcast 72, 3) := by decide +kernel
theorem dX9_area_64 : decode cX9_area 64 = .ok (.iload_n 2, 1) := by decide +kernel
theorem dX9_area_65 : decode cX9_area 65 = .ok (.iload_n 3, 1) := by decide +kernel
theorem dX9_area_66 : decode cX9_area 66 = .ok (.invokespecial 100, 3) := by decide +kernel
theorem dX9_area_69 : decode cX9_area 69 = .ok (.invokevirtual 77, 3) := by decide +kernel
theorem dX9_area_72 : decode cX9_area 72 = .ok (.pop, 1) := by decide +kernel
theorem dX9_area_73 : decode cX9_area 73 = .ok (.aload_n 0, 1) := by decide +kernel
theorem dX9_area_74 : decode cX9_area 74 = .ok (.getfield 19, 3) := by decide +kernel
theorem dX9_area_77 : decode cX9_area 77 = .ok (.invokevirtual 59, 3) := by decide +kernel
theorem dX9_area_80 : decode cX9_area 80 = .ok (.iconst 1, 1) := by decide +kernel
theorem dX9_area_81 : decode cX9_area 81 = .ok (.isub, 1) := by decide +kernel
theorem dX9_area_82 : decode cX9_area 82 = .ok (.ireturn, 1) := by decide +kernel
theorem dX9_rain_0 : decode cX9_rain 0 = .ok (.iload_n 1, 1) := by decide +kernel
theorem dX9_rain_1 : decode cX9_rain 1 = .ok (.iconst 0, 1) := by decide +kernel
theorem dX9_rain_2 : decode cX9_rain 2 = .ok (.sipush 1439, 3) := by decide +kernel
theorem dX9_rain_5 : decode cX9_rain 5 = .ok (.invokestatic 68, 3) := by decide +kernel
theorem dX9_rain_8 : decode cX9_rain 8 = .ok (.ifCond .eq 14, 3) := by decide +kernel
theorem dX9_rain_11 : decode cX9_rain 11 = .ok (.iload_n 2, 1) := by decide +kernel
theorem dX9_rain_12 : decode cX9_rain 12 = .ok (.iconst 0, 1) := by decide +kernel
theorem dX9_rain_13 : decode cX9_rain 13 = .ok (.sipush 20000, 3) := by decide +kernel
theorem dX9_rain_16 : decode cX9_rain 16 = .ok (.invokestatic 68, 3) := by decide +kernel
theorem dX9_rain_19 : decode cX9_rain 19 = .ok (.ifCond .ne 5, 3) := by decide +kernel
theorem dX9_rain_22 : decode cX9_rain 22 = .ok (.iconst (-1), 1) := by decide +kernel
theorem dX9_rain_23 : decode cX9_rain 23 = .ok (.ireturn, 1) := by decide +kernel
theorem dX9_rain_24 : decode cX9_rain 24 = .ok (.aload_n 0, 1) := by decide +kernel
theorem dX9_rain_25 : decode cX9_rain 25 = .ok (.getfield 31, 3) := by decide +kernel
theorem dX9_rain_28 : decode cX9_rain 28 = .ok (.iload_n 1, 1) := by decide +kernel
theorem dX9_rain_29 : decode cX9_rain 29 = .ok (.iaload, 1) := by decide +kernel
theorem dX9_rain_30 : decode cX9_rain 30 = .ok (.istore_n 3, 1) := by decide +kernel
theorem dX9_rain_31 : decode cX9_rain 31 = .ok (.aload_n 0, 1) := by decide +kernel
theorem dX9_rain_32 : decode cX9_rain 32 = .ok (.getfield 31, 3) := by decide +kernel
theorem dX9_rain_35 : decode cX9_rain 35 = .ok (.iload_n 1, 1) := by decide +kernel
theorem dX9_rain_36 : decode cX9_rain 36 = .ok (.iload_n 2, 1) := by decide +kernel
theorem dX9_rain_37 : decode cX9_rain 37 = .ok (.iastore, 1) := by decide +kernel
theorem dX9_rain_38 : decode cX9_rain 38 = .ok (.iload_n 3, 1) := by decide +kernel
theorem dX9_rain_39 : decode cX9_rain 39 = .ok (.ireturn, 1) := by decide +kernel
theorem dX9_pump_0 : decode cX9_pump 0 = .ok (.aload_n 0, 1) := by decide +kernel
theorem dX9_pump_1 : decode cX9_pump 1 = .ok (.getfield 22, 3) := by decide +kernel
theorem dX9_pump_4 : decode cX9_pump 4 = .ok (.invokevirtual 59, 3) := by decide +kernel
theorem dX9_pump_7 : decode cX9_pump 7 = .ok (.bipush 8, 2) := by decide +kernel
theorem dX9_pump_9 : decode cX9_pump 9 = .ok (.if_icmp .ge 12, 3) := by decide +kernel
theorem dX9_pump_12 : decode cX9_pump 12 = .ok (.aload_n 0, 1) := by decide +kernel
theorem dX9_pump_13 : decode cX9_pump 13 = .ok (.iload_n 1, 1) := by decide +kernel
theorem dX9_pump_14 : decode cX9_pump 14 = .ok (.iload_n 2, 1) := by decide +kernel
theorem dX9_pump_15 : decode cX9_pump 15 = .ok (.invokevirtual 81, 3) := by decide +kernel
theorem dX9_pump_18 : decode cX9_pump 18 = .ok (.ifCond .ne 5, 3) := by decide +kernel
theorem dX9_pump_21 : decode cX9_pump 21 = .ok (.iconst (-1), 1) := by decide +kernel
theorem dX9_pump_22 : decode cX9_pump 22 = .ok (.ireturn, 1) := by decide +kernel
theorem dX9_pump_23 : decode cX9_pump 23 = .ok (.iload_n 3, 1) := by decide +kernel
theorem dX9_pump_24 : decode cX9_pump 24 = .ok (.iload 4, 2) := by decide +kernel
theorem dX9_pump_26 : decode cX9_pump 26 = .ok (.if_icmp .le 14, 3) := by decide +kernel
theorem dX9_pump_29 : decode cX9_pump 29 = .ok (.iload 5, 2) := by decide +kernel
theorem dX9_pump_31 : decode cX9_pump 31 = .ok (.iconst 1, 1) := by decide +kernel
theorem dX9_pump_32 : decode cX9_pump 32 = .ok (.ldc 67, 2) := by decide +kernel
theorem dX9_pump_34 : decode cX9_pump 34 = .ok (.invokestatic 68, 3) := by decide +kernel
theorem dX9_pump_37 : decode cX9_pump 37 = .ok (.ifCond .ne 5, 3) := by decide +kernel
theorem dX9_pump_40 : decode cX9_pump 40 = .ok (.iconst (-1), 1) := by decide +kernel
theorem dX9_pump_41 : decode cX9_pump 41 = .ok (.ireturn, 1) := by decide +kernel
theorem dX9_pump_42 : decode cX9_pump 42 = .ok (.aload_n 0, 1) := by decide +kernel
theorem dX9_pump_43 : decode cX9_pump 43 = .ok (.getfield 22, 3) := by decide +kernel
theorem dX9_pump_46 : decode cX9_pump 46 = .ok (.new 103, 3) := by decide +kernel
theorem dX9_pump_49 : decode cX9_pump 49 = .ok (.dup, 1) := by decide +kernel
theorem dX9_pump_50 : decode cX9_pump 50 = .ok (.aload_n 0, 1) := by decide +kernel
theorem dX9_pump_51 : decode cX9_pump 51 = .ok (.getfield 10, 3) := by decide +kernel
theorem dX9_pump_54 : decode cX9_pump 54 = .ok (.iload_n 1, 1) := by decide +kernel
theorem dX9_pump_55 : decode cX9_pump 55 = .ok (.invokevirtual 87, 3) := by decide +kernel
theorem dX9_pump_58 : decode cX9_pump 58 = .ok (.checkcast 72, 3) := by decide +kernel
theorem dX9_pump_61 : decode cX9_pump 61 = .ok (.aload_n 0, 1) := by decide +kernel
theorem dX9_pump_62 : decode cX9_pump 62 = .ok (.getfield 10, 3) := by decide +kernel
theorem dX9_pump_65 : decode cX9_pump 65 = .ok (.iload_n 2, 1) := by decide +kernel
theorem dX9_pump_66 : decode cX9_pump 66 = .ok (.invokevirtual 87, 3) := by decide +kernel
theorem dX9_pump_69 : decode cX9_pump 69 = .ok (.checkcast 72, 3) := by decide +kernel
theorem dX9_pump_72 : decode cX9_pump 72 = .ok (.iload_n 3, 1) := by decide +kernel
theorem dX9_pump_73 : decode cX9_pump 73 = .ok (.iload 4, 2) := by decide +kernel
theorem dX9_pump_75 : decode cX9_pump 75 = .ok (.iload 5, 2) := by decide +kernel
theorem dX9_pump_77 : decode cX9_pump 77 = .ok (.invokespecial 105, 3) := by decide +kernel
theorem dX9_pump_80 : decode cX9_pump 80 = .ok (.invokevirtual 77, 3) := by decide +kernel
theorem dX9_pump_83 : decode cX9_pump 83 = .ok (.pop, 1) := by decide +kernel
theorem dX9_pump_84 : decode cX9_pump 84 = .ok (.aload_n 0, 1) := by decide +kernel
theorem dX9_pump_85 : decode cX9_pump 85 = .ok (.getfield 22, 3) := by decide +kernel
theorem dX9_pump_88 : decode cX9_pump 88 = .ok (.invokevirtual 59, 3) := by decide +kernel
theorem dX9_pump_91 : decode cX9_pump 91 = .ok (.iconst 1, 1) := by decide +kernel
theorem dX9_pump_92 : decode cX9_pump 92 = .ok (.isub, 1) := by decide +kernel
theorem dX9_pump_93 : decode cX9_pump 93 = .ok (.ireturn, 1) := by decide +kernel
theorem dX9_gate_0 : decode cX9_gate 0 = .ok (.aload_n 0, 1) := by decide +kernel
theorem dX9_gate_1 : decode cX9_gate 1 = .ok (.getfield 25, 3) := by decide +kernel
theorem dX9_gate_4 : decode cX9_gate 4 = .ok (.invokevirtual 59, 3) := by decide +kernel
theorem dX9_gate_7 : decode cX9_gate 7 = .ok (.bipush 8, 2) := by decide +kernel
theorem dX9_gate_9 : decode cX9_gate 9 = .ok (.if_icmp .ge 11, 3) := by decide +kernel
theorem dX9_gate_12 : decode cX9_gate 12 = .ok (.aload_n 0, 1) := by decide +kernel
theorem dX9_gate_13 : decode cX9_gate 13 = .ok (.iload_n 1, 1) := by decide +kernel
theorem dX9_gate_14 : decode cX9_gate 14 = .ok (.invokevirtual 94, 3) := by decide +kernel
theorem dX9_gate_17 : decode cX9_gate 17 = .ok (.ifCond .ne 5, 3) := by decide +kernel
theorem dX9_gate_20 : decode cX9_gate 20 = .ok (.iconst (-1), 1) := by decide +kernel
theorem dX9_gate_21 : decode cX9_gate 21 = .ok (.ireturn, 1) := by decide +kernel
theorem dX9_gate_22 : decode cX9_gate 22 = .ok (.iload_n 2, 1) := by decide +kernel
theorem dX9_gate_23 : decode cX9_gate 23 = .ok (.iconst 0, 1) := by decide +kernel
theorem dX9_gate_24 : decode cX9_gate 24 = .ok (.ldc 108, 2) := by decide +kernel
theorem dX9_gate_26 : decode cX9_gate 26 = .ok (.invokestatic 68, 3) := by decide +kernel
theorem dX9_gate_29 : decode cX9_gate 29 = .ok (.ifCond .eq 13, 3) := by decide +kernel
theorem dX9_gate_32 : decode cX9_gate 32 = .ok (.iload_n 3, 1) := by decide +kernel
theorem dX9_gate_33 : decode cX9_gate 33 = .ok (.iconst 1, 1) := by decide +kernel
theorem dX9_gate_34 : decode cX9_gate 34 = .ok (.ldc 97, 2) := by decide +kernel
theorem dX9_gate_36 : decode cX9_gate 36 = .ok (.invokestatic 68, 3) := by decide +kernel
theorem dX9_gate_39 : decode cX9_gate 39 = .ok (.ifCond .ne 5, 3) := by decide +kernel
theorem dX9_gate_42 : decode cX9_gate 42 = .ok (.iconst (-1), 1) := by decide +kernel
theorem dX9_gate_43 : decode cX9_gate 43 = .ok (.ireturn, 1) := by decide +kernel
theorem dX9_gate_44 : decode cX9_gate 44 = .ok (.aload_n 0, 1) := by decide +kernel
theorem dX9_gate_45 : decode cX9_gate 45 = .ok (.getfield 25, 3) := by decide +kernel
theorem dX9_gate_48 : decode cX9_gate 48 = .ok (.new 109, 3) := by decide +kernel
theorem dX9_gate_51 : decode cX9_gate 51 = .ok (.dup, 1) := by decide +kernel
theorem dX9_gate_52 : decode cX9_gate 52 = .ok (.aload_n 0, 1) := by decide +kernel
theorem dX9_gate_53 : decode cX9_gate 53 = .ok (.getfield 10, 3) := by decide +kernel
theorem dX9_gate_56 : decode cX9_gate 56 = .ok (.iload_n 1, 1) := by decide +kernel
theorem dX9_gate_57 : decode cX9_gate 57 = .ok (.invokevirtual 87, 3) := by decide +kernel
theorem dX9_gate_60 : decode cX9_gate 60 = .ok (.checkcast 72, 3) := by decide +kernel
theorem dX9_gate_63 : decode cX9_gate 63 = .ok (.iload_n 2, 1) := by decide +kernel
theorem dX9_gate_64 : decode cX9_gate 64 = .ok (.iload_n 3, 1) := by decide +kernel
theorem dX9_gate_65 : decode cX9_gate 65 = .ok (.invokespecial 111, 3) := by decide +kernel
theorem dX9_gate_68 : decode cX9_gate 68 = .ok (.invokevirtual 77, 3) := by decide +kernel
theorem dX9_gate_71 : decode cX9_gate 71 = .ok (.pop, 1) := by decide +kernel
theorem dX9_gate_72 : decode cX9_gate 72 = .ok (.aload_n 0, 1) := by decide +kernel
theorem dX9_gate_73 : decode cX9_gate 73 = .ok (.getfield 25, 3) := by decide +kernel
theorem dX9_gate_76 : decode cX9_gate 76 = .ok (.invokevirtual 59, 3) := by decide +kernel
theorem dX9_gate_79 : decode cX9_gate 79 = .ok (.iconst 1, 1) := by decide +kernel
theorem dX9_gate_80 : decode cX9_gate 80 = .ok (.isub, 1) := by decide +kernel
theorem dX9_gate_81 : decode cX9_gate 81 = .ok (.ireturn, 1) := by decide +kernel
theorem dX9_gully_0 : decode cX9_gully 0 = .ok (.aload_n 0, 1) := by decide +kernel
theorem dX9_gully_1 : decode cX9_gully 1 = .ok (.getfield 28, 3) := by decide +kernel
theorem dX9_gully_4 : decode cX9_gully 4 = .ok (.invokevirtual 59, 3) := by decide +kernel
theorem dX9_gully_7 : decode cX9_gully 7 = .ok (.bipush 8, 2) := by decide +kernel
theorem dX9_gully_9 : decode cX9_gully 9 = .ok (.if_icmp .ge 18, 3) := by decide +kernel
theorem dX9_gully_12 : decode cX9_gully 12 = .ok (.iload_n 1, 1) := by decide +kernel
theorem dX9_gully_13 : decode cX9_gully 13 = .ok (.invokestatic 112, 3) := by decide +kernel
theorem dX9_gully_16 : decode cX9_gully 16 = .ok (.ifCond .eq 11, 3) := by decide +kernel
theorem dX9_gully_19 : decode cX9_gully 19 = .ok (.aload_n 0, 1) := by decide +kernel
theorem dX9_gully_20 : decode cX9_gully 20 = .ok (.iload_n 2, 1) := by decide +kernel
theorem dX9_gully_21 : decode cX9_gully 21 = .ok (.invokevirtual 94, 3) := by decide +kernel
theorem dX9_gully_24 : decode cX9_gully 24 = .ok (.ifCond .ne 5, 3) := by decide +kernel
theorem dX9_gully_27 : decode cX9_gully 27 = .ok (.iconst (-1), 1) := by decide +kernel
theorem dX9_gully_28 : decode cX9_gully 28 = .ok (.ireturn, 1) := by decide +kernel
theorem dX9_gully_29 : decode cX9_gully 29 = .ok (.iload_n 3, 1) := by decide +kernel
theorem dX9_gully_30 : decode cX9_gully 30 = .ok (.iconst 1, 1) := by decide +kernel
theorem dX9_gully_31 : decode cX9_gully 31 = .ok (.ldc 67, 2) := by decide +kernel
theorem dX9_gully_33 : decode cX9_gully 33 = .ok (.invokestatic 68, 3) := by decide +kernel
theorem dX9_gully_36 : decode cX9_gully 36 = .ok (.ifCond .ne 5, 3) := by decide +kernel
theorem dX9_gully_39 : decode cX9_gully 39 = .ok (.iconst (-1), 1) := by decide +kernel
theorem dX9_gully_40 : decode cX9_gully 40 = .ok (.ireturn, 1) := by decide +kernel
theorem dX9_gully_41 : decode cX9_gully 41 = .ok (.aload_n 0, 1) := by decide +kernel
theorem dX9_gully_42 : decode cX9_gully 42 = .ok (.getfield 28, 3) := by decide +kernel
theorem dX9_gully_45 : decode cX9_gully 45 = .ok (.new 115, 3) := by decide +kernel
theorem dX9_gully_48 : decode cX9_gully 48 = .ok (.dup, 1) := by decide +kernel
theorem dX9_gully_49 : decode cX9_gully 49 = .ok (.iload_n 1, 1) := by decide +kernel
theorem dX9_gully_50 : decode cX9_gully 50 = .ok (.aload_n 0, 1) := by decide +kernel
theorem dX9_gully_51 : decode cX9_gully 51 = .ok (.getfield 10, 3) := by decide +kernel
theorem dX9_gully_54 : decode cX9_gully 54 = .ok (.iload_n 2, 1) := by decide +kernel
theorem dX9_gully_55 : decode cX9_gully 55 = .ok (.invokevirtual 87, 3) := by decide +kernel
theorem dX9_gully_58 : decode cX9_gully 58 = .ok (.checkcast 72, 3) := by decide +kernel
theorem dX9_gully_61 : decode cX9_gully 61 = .ok (.iload_n 3, 1) := by decide +kernel
theorem dX9_gully_62 : decode cX9_gully 62 = .ok (.invokespecial 117, 3) := by decide +kernel
theorem dX9_gully_65 : decode cX9_gully 65 = .ok (.invokevirtual 77, 3) := by decide +kernel
theorem dX9_gully_68 : decode cX9_gully 68 = .ok (.pop, 1) := by decide +kernel
theorem dX9_gully_69 : decode cX9_gully 69 = .ok (.aload_n 0, 1) := by decide +kernel
theorem dX9_gully_70 : decode cX9_gully 70 = .ok (.getfield 28, 3) := by decide +kernel
theorem dX9_gully_73 : decode cX9_gully 73 = .ok (.invokevirtual 59, 3) := by decide +kernel
theorem dX9_gully_76 : decode cX9_gully 76 = .ok (.iconst 1, 1) := by decide +kernel
theorem dX9_gully_77 : decode cX9_gully 77 = .ok (.isub, 1) := by decide +kernel
theorem dX9_gully_78 : decode cX9_gully 78 = .ok (.ireturn, 1) := by decide +kernel
theorem dX9_street_0 : decode cX9_street 0 = .ok (.aload_n 0, 1) := by decide +kernel
theorem dX9_street_1 : decode cX9_street 1 = .ok (.iload_n 1, 1) := by decide +kernel
theorem dX9_street_2 : decode cX9_street 2 = .ok (.invokevirtual 94, 3) := by decide +kernel
theorem dX9_street_5 : decode cX9_street 5 = .ok (.ifCond .eq 15, 3) := by decide +kernel
theorem dX9_street_8 : decode cX9_street 8 = .ok (.iload_n 2, 1) := by decide +kernel
theorem dX9_street_9 : decode cX9_street 9 = .ok (.iconst (-1), 1) := by decide +kernel
theorem dX9_street_10 : decode cX9_street 10 = .ok (.if_icmp .eq 13, 3) := by decide +kernel
theorem dX9_street_13 : decode cX9_street 13 = .ok (.iload_n 2, 1) := by decide +kernel
theorem dX9_street_14 : decode cX9_street 14 = .ok (.invokestatic 112, 3) := by decide +kernel
theorem dX9_street_17 : decode cX9_street 17 = .ok (.ifCond .ne 6, 3) := by decide +kernel
theorem dX9_street_20 : decode cX9_street 20 = .ok (.bipush (-2), 2) := by decide +kernel
theorem dX9_street_22 : decode cX9_street 22 = .ok (.ireturn, 1) := by decide +kernel
theorem dX9_street_23 : decode cX9_street 23 = .ok (.aload_n 0, 1) := by decide +kernel
theorem dX9_street_24 : decode cX9_street 24 = .ok (.getfield 10, 3) := by decide +kernel
theorem dX9_street_27 : decode cX9_street 27 = .ok (.iload_n 1, 1) := by decide +kernel
theorem dX9_street_28 : decode cX9_street 28 = .ok (.invokevirtual 87, 3) := by decide +kernel
theorem dX9_street_31 : decode cX9_street 31 = .ok (.checkcast 72, 3) := by decide +kernel
theorem dX9_street_34 : decode cX9_street 34 = .ok (.astore_n 3, 1) := by decide +kernel
theorem dX9_street_35 : decode cX9_street 35 = .ok (.aload_n 3, 1) := by decide +kernel
theorem dX9_street_36 : decode cX9_street 36 = .ok (.getfield 120, 3) := by decide +kernel
theorem dX9_street_39 : decode cX9_street 39 = .ok (.istore 4, 2) := by decide +kernel
theorem dX9_street_41 : decode cX9_street 41 = .ok (.aload_n 3, 1) := by decide +kernel
theorem dX9_street_42 : decode cX9_street 42 = .ok (.iload_n 2, 1) := by decide +kernel
theorem dX9_street_43 : decode cX9_street 43 = .ok (.putfield 120, 3) := by decide +kernel
theorem dX9_street_46 : decode cX9_street 46 = .ok (.iload 4, 2) := by decide +kernel
theorem dX9_street_48 : decode cX9_street 48 = .ok (.ireturn, 1) := by decide +kernel
theorem dX9_run_0 : decode cX9_run 0 = .ok (.iload_n 1, 1) := by decide +kernel
theorem dX9_run_1 : decode cX9_run 1 = .ok (.iconst 1, 1) := by decide +kernel
theorem dX9_run_2 : decode cX9_run 2 = .ok (.sipush 600, 3) := by decide +kernel
theorem dX9_run_5 : decode cX9_run 5 = .ok (.invokestatic 68, 3) := by decide +kernel
theorem dX9_run_8 : decode cX9_run 8 = .ok (.ifCond .eq 14, 3) := by decide +kernel
theorem dX9_run_11 : decode cX9_run 11 = .ok (.aload_n 0, 1) := by decide +kernel
theorem dX9_run_12 : decode cX9_run 12 = .ok (.getfield 123, 3) := by decide +kernel
theorem dX9_run_15 : decode cX9_run 15 = .ok (.iload_n 1, 1) := by decide +kernel
theorem dX9_run_16 : decode cX9_run 16 = .ok (.iadd, 1) := by decide +kernel
theorem dX9_run_17 : decode cX9_run 17 = .ok (.ldc 126, 2) := by decide +kernel
theorem dX9_run_19 : decode cX9_run 19 = .ok (.if_icmp .le 5, 3) := by decide +kernel
theorem dX9_run_22 : decode cX9_run 22 = .ok (.iconst (-1), 1) := by decide +kernel
theorem dX9_run_23 : decode cX9_run 23 = .ok (.ireturn, 1) := by decide +kernel
theorem dX9_run_24 : decode cX9_run 24 = .ok (.iconst 0, 1) := by decide +kernel
theorem dX9_run_25 : decode cX9_run 25 = .ok (.istore_n 2, 1) := by decide +kernel
theorem dX9_run_26 : decode cX9_run 26 = .ok (.iload_n 2, 1) := by decide +kernel
theorem dX9_run_27 : decode cX9_run 27 = .ok (.iload_n 1, 1) := by decide +kernel
theorem dX9_run_28 : decode cX9_run 28 = .ok (.if_icmp .ge 13, 3) := by decide +kernel
theorem dX9_run_31 : decode cX9_run 31 = .ok (.aload_n 0, 1) := by decide +kernel
theorem dX9_run_32 : decode cX9_run 32 = .ok (.invokevirtual 127, 3) := by decide +kernel
theorem dX9_run_35 : decode cX9_run 35 = .ok (.iinc 2 1, 3) := by decide +kernel
theorem dX9_run_38 : decode cX9_run 38 = .ok (.goto (-12), 3) := by decide +kernel
theorem dX9_run_41 : decode cX9_run 41 = .ok (.aload_n 0, 1) := by decide +kernel
theorem dX9_run_42 : decode cX9_run 42 = .ok (.getfield 123, 3) := by decide +kernel
theorem dX9_run_45 : decode cX9_run 45 = .ok (.ireturn, 1) := by decide +kernel
theorem dX9_told_0 : decode cX9_told 0 = .ok (.aload_n 0, 1) := by decide +kernel
theorem dX9_told_1 : decode cX9_told 1 = .ok (.iload_n 1, 1) := by decide +kernel
theorem dX9_told_2 : decode cX9_told 2 = .ok (.invokevirtual 94, 3) := by decide +kernel
theorem dX9_told_5 : decode cX9_told 5 = .ok (.ifCond .ne 7, 3) := by decide +kernel
theorem dX9_told_8 : decode cX9_told 8 = .ok (.ldc2_w 130, 3) := by decide +kernel
theorem dX9_told_11 : decode cX9_told 11 = .ok (.lreturn, 1) := by decide +kernel
theorem dX9_told_12 : decode cX9_told 12 = .ok (.aload_n 0, 1) := by decide +kernel
theorem dX9_told_13 : decode cX9_told 13 = .ok (.getfield 10, 3) := by decide +kernel
theorem dX9_told_16 : decode cX9_told 16 = .ok (.iload_n 1, 1) := by decide +kernel
theorem dX9_told_17 : decode cX9_told 17 = .ok (.invokevirtual 87, 3) := by decide +kernel
theorem dX9_told_20 : decode cX9_told 20 = .ok (.checkcast 72, 3) := by decide +kernel
theorem dX9_told_23 : decode cX9_told 23 = .ok (.astore_n 3, 1) := by decide +kernel
theorem dX9_told_24 : decode cX9_told 24 = .ok (.iload_n 2, 1) := by decide +kernel
theorem dX9_told_25 : decode cX9_told 25 = .ok (.tableswitch 51 0 3 #[31, 36, 41, 46], 31) := by decide +kernel
theorem dX9_told_56 : decode cX9_told 56 = .ok (.aload_n 3, 1) := by decide +kernel
theorem dX9_told_57 : decode cX9_told 57 = .ok (.getfield 132, 3) := by decide +kernel
theorem dX9_told_60 : decode cX9_told 60 = .ok (.lreturn, 1) := by decide +kernel
theorem dX9_told_61 : decode cX9_told 61 = .ok (.aload_n 3, 1) := by decide +kernel
theorem dX9_told_62 : decode cX9_told 62 = .ok (.invokevirtual 136, 3) := by decide +kernel
theorem dX9_told_65 : decode cX9_told 65 = .ok (.lreturn, 1) := by decide +kernel
theorem dX9_told_66 : decode cX9_told 66 = .ok (.aload_n 3, 1) := by decide +kernel
theorem dX9_told_67 : decode cX9_told 67 = .ok (.getfield 140, 3) := by decide +kernel
theorem dX9_told_70 : decode cX9_told 70 = .ok (.lreturn, 1) := by decide +kernel
theorem dX9_told_71 : decode cX9_told 71 = .ok (.aload_n 3, 1) := by decide +kernel
theorem dX9_told_72 : decode cX9_told 72 = .ok (.getfield 143, 3) := by decide +kernel
theorem dX9_told_75 : decode cX9_told 75 = .ok (.lreturn, 1) := by decide +kernel
theorem dX9_told_76 : decode cX9_told 76 = .ok (.ldc2_w 130, 3) := by decide +kernel
theorem dX9_told_79 : decode cX9_told 79 = .ok (.lreturn, 1) := by decide +kernel
theorem dX9_flow_0 : decode cX9_flow 0 = .ok (.iload_n 1, 1) := by decide +kernel
theorem dX9_flow_1 : decode cX9_flow 1 = .ok (.iconst 0, 1) := by decide +kernel
theorem dX9_flow_2 : decode cX9_flow 2 = .ok (.aload_n 0, 1) := by decide +kernel
theorem dX9_flow_3 : decode cX9_flow 3 = .ok (.getfield 16, 3) := by decide +kernel
theorem dX9_flow_6 : decode cX9_flow 6 = .ok (.invokevirtual 59, 3) := by decide +kernel
theorem dX9_flow_9 : decode cX9_flow 9 = .ok (.iconst 1, 1) := by decide +kernel
theorem dX9_flow_10 : decode cX9_flow 10 = .ok (.isub, 1) := by decide +kernel
theorem dX9_flow_11 : decode cX9_flow 11 = .ok (.invokestatic 68, 3) := by decide +kernel
theorem dX9_flow_14 : decode cX9_flow 14 = .ok (.ifCond .ne 7, 3) := by decide +kernel
theorem dX9_flow_17 : decode cX9_flow 17 = .ok (.ldc2_w 146, 3) := by decide +kernel
theorem dX9_flow_20 : decode cX9_flow 20 = .ok (.lreturn, 1) := by decide +kernel
theorem dX9_flow_21 : decode cX9_flow 21 = .ok (.aload_n 0, 1) := by decide +kernel
theorem dX9_flow_22 : decode cX9_flow 22 = .ok (.getfield 16, 3) := by decide +kernel
theorem dX9_flow_25 : decode cX9_flow 25 = .ok (.iload_n 1, 1) := by decide +kernel
theorem dX9_flow_26 : decode cX9_flow 26 = .ok (.invokevirtual 87, 3) := by decide +kernel
theorem dX9_flow_29 : decode cX9_flow 29 = .ok (.checkcast 85, 3) := by decide +kernel
theorem dX9_flow_32 : decode cX9_flow 32 = .ok (.astore_n 3, 1) := by decide +kernel
theorem dX9_flow_33 : decode cX9_flow 33 = .ok (.iload_n 2, 1) := by decide +kernel
theorem dX9_flow_34 : decode cX9_flow 34 = .ok (.tableswitch 41 0 2 #[26, 31, 36], 26) := by decide +kernel
theorem dX9_flow_60 : decode cX9_flow 60 = .ok (.aload_n 3, 1) := by decide +kernel
theorem dX9_flow_61 : decode cX9_flow 61 = .ok (.getfield 148, 3) := by decide +kernel
theorem dX9_flow_64 : decode cX9_flow 64 = .ok (.lreturn, 1) := by decide +kernel
theorem dX9_flow_65 : decode cX9_flow 65 = .ok (.aload_n 3, 1) := by decide +kernel
theorem dX9_flow_66 : decode cX9_flow 66 = .ok (.getfield 151, 3) := by decide +kernel
theorem dX9_flow_69 : decode cX9_flow 69 = .ok (.lreturn, 1) := by decide +kernel
theorem dX9_flow_70 : decode cX9_flow 70 = .ok (.aload_n 3, 1) := by decide +kernel
theorem dX9_flow_71 : decode cX9_flow 71 = .ok (.getfield 154, 3) := by decide +kernel
theorem dX9_flow_74 : decode cX9_flow 74 = .ok (.lreturn, 1) := by decide +kernel
theorem dX9_flow_75 : decode cX9_flow 75 = .ok (.ldc2_w 146, 3) := by decide +kernel
theorem dX9_flow_78 : decode cX9_flow 78 = .ok (.lreturn, 1) := by decide +kernel
theorem dX9_cell_0 : decode cX9_cell 0 = .ok (.iload_n 1, 1) := by decide +kernel
theorem dX9_cell_1 : decode cX9_cell 1 = .ok (.invokestatic 112, 3) := by decide +kernel
theorem dX9_cell_4 : decode cX9_cell 4 = .ok (.ifCond .eq 12, 3) := by decide +kernel
theorem dX9_cell_7 : decode cX9_cell 7 = .ok (.aload_n 0, 1) := by decide +kernel
theorem dX9_cell_8 : decode cX9_cell 8 = .ok (.getfield 35, 3) := by decide +kernel
theorem dX9_cell_11 : decode cX9_cell 11 = .ok (.iload_n 1, 1) := by decide +kernel
theorem dX9_cell_12 : decode cX9_cell 12 = .ok (.laload, 1) := by decide +kernel
theorem dX9_cell_13 : decode cX9_cell 13 = .ok (.goto 6, 3) := by decide +kernel
theorem dX9_cell_16 : decode cX9_cell 16 = .ok (.ldc2_w 157, 3) := by decide +kernel
theorem dX9_cell_19 : decode cX9_cell 19 = .ok (.lreturn, 1) := by decide +kernel
theorem dX9_pumps_0 : decode cX9_pumps 0 = .ok (.iload_n 1, 1) := by decide +kernel
theorem dX9_pumps_1 : decode cX9_pumps 1 = .ok (.iconst 0, 1) := by decide +kernel
theorem dX9_pumps_2 : decode cX9_pumps 2 = .ok (.aload_n 0, 1) := by decide +kernel
theorem dX9_pumps_3 : decode cX9_pumps 3 = .ok (.getfield 22, 3) := by decide +kernel
theorem dX9_pumps_6 : decode cX9_pumps 6 = .ok (.invokevirtual 59, 3) := by decide +kernel
theorem dX9_pumps_9 : decode cX9_pumps 9 = .ok (.iconst 1, 1) := by decide +kernel
theorem dX9_pumps_10 : decode cX9_pumps 10 = .ok (.isub, 1) := by decide +kernel
theorem dX9_pumps_11 : decode cX9_pumps 11 = .ok (.invokestatic 68, 3) := by decide +kernel
theorem dX9_pumps_14 : decode cX9_pumps 14 = .ok (.ifCond .ne 5, 3) := by decide +kernel
theorem dX9_pumps_17 : decode cX9_pumps 17 = .ok (.iconst (-1), 1) := by decide +kernel
theorem dX9_pumps_18 : decode cX9_pumps 18 = .ok (.ireturn, 1) := by decide +kernel
theorem dX9_pumps_19 : decode cX9_pumps 19 = .ok (.aload_n 0, 1) := by decide +kernel
theorem dX9_pumps_20 : decode cX9_pumps 20 = .ok (.getfield 22, 3) := by decide +kernel
theorem dX9_pumps_23 : decode cX9_pumps 23 = .ok (.iload_n 1, 1) := by decide +kernel
theorem dX9_pumps_24 : decode cX9_pumps 24 = .ok (.invokevirtual 87, 3) := by decide +kernel
theorem dX9_pumps_27 : decode cX9_pumps 27 = .ok (.checkcast 103, 3) := by decide +kernel
theorem dX9_pumps_30 : decode cX9_pumps 30 = .ok (.getfield 159, 3) := by decide +kernel
theorem dX9_pumps_33 : decode cX9_pumps 33 = .ok (.ifCond .eq 7, 3) := by decide +kernel
theorem dX9_pumps_36 : decode cX9_pumps 36 = .ok (.iconst 1, 1) := by decide +kernel
theorem dX9_pumps_37 : decode cX9_pumps 37 = .ok (.goto 4, 3) := by decide +kernel
theorem dX9_pumps_40 : decode cX9_pumps 40 = .ok (.iconst 0, 1) := by decide +kernel
theorem dX9_pumps_41 : decode cX9_pumps 41 = .ok (.ireturn, 1) := by decide +kernel
theorem dX9_litres_0 : decode cX9_litres 0 = .ok (.iload_n 1, 1) := by decide +kernel
theorem dX9_litres_1 : decode cX9_litres 1 = .ok (.tableswitch 60 0 4 #[35, 40, 45, 50, 55], 35) := by decide +kernel
theorem dX9_litres_36 : decode cX9_litres 36 = .ok (.aload_n 0, 1) := by decide +kernel
theorem dX9_litres_37 : decode cX9_litres 37 = .ok (.getfield 163, 3) := by decide +kernel
theorem dX9_litres_40 : decode cX9_litres 40 = .ok (.lreturn, 1) := by decide +kernel
theorem dX9_litres_41 : decode cX9_litres 41 = .ok (.aload_n 0, 1) := by decide +kernel
theorem dX9_litres_42 : decode cX9_litres 42 = .ok (.invokevirtual 166, 3) := by decide +kernel
theorem dX9_litres_45 : decode cX9_litres 45 = .ok (.lreturn, 1) := by decide +kernel
theorem dX9_litres_46 : decode cX9_litres 46 = .ok (.aload_n 0, 1) := by decide +kernel
theorem dX9_litres_47 : decode cX9_litres 47 = .ok (.invokevirtual 169, 3) := by decide +kernel
theorem dX9_litres_50 : decode cX9_litres 50 = .ok (.lreturn, 1) := by decide +kernel
theorem dX9_litres_51 : decode cX9_litres 51 = .ok (.aload_n 0, 1) := by decide +kernel
theorem dX9_litres_52 : decode cX9_litres 52 = .ok (.getfield 172, 3) := by decide +kernel
theorem dX9_litres_55 : decode cX9_litres 55 = .ok (.lreturn, 1) := by decide +kernel
theorem dX9_litres_56 : decode cX9_litres 56 = .ok (.aload_n 0, 1) := by decide +kernel
theorem dX9_litres_57 : decode cX9_litres 57 = .ok (.getfield 175, 3) := by decide +kernel
theorem dX9_litres_60 : decode cX9_litres 60 = .ok (.lreturn, 1) := by decide +kernel
theorem dX9_litres_61 : decode cX9_litres 61 = .ok (.ldc2_w 157, 3) := by decide +kernel
theorem dX9_litres_64 : decode cX9_litres 64 = .ok (.lreturn, 1) := by decide +kernel
theorem dX9_keeps_0 : decode cX9_keeps 0 = .ok (.aload_n 0, 1) := by decide +kernel
theorem dX9_keeps_1 : decode cX9_keeps 1 = .ok (.getfield 163, 3) := by decide +kernel
theorem dX9_keeps_4 : decode cX9_keeps 4 = .ok (.aload_n 0, 1) := by decide +kernel
theorem dX9_keeps_5 : decode cX9_keeps 5 = .ok (.invokevirtual 166, 3) := by decide +kernel
theorem dX9_keeps_8 : decode cX9_keeps 8 = .ok (.aload_n 0, 1) := by decide +kernel
theorem dX9_keeps_9 : decode cX9_keeps 9 = .ok (.invokevirtual 169, 3) := by decide +kernel
theorem dX9_keeps_12 : decode cX9_keeps 12 = .ok (.ladd, 1) := by decide +kernel
theorem dX9_keeps_13 : decode cX9_keeps 13 = .ok (.aload_n 0, 1) := by decide +kernel
theorem dX9_keeps_14 : decode cX9_keeps 14 = .ok (.getfield 172, 3) := by decide +kernel
theorem dX9_keeps_17 : decode cX9_keeps 17 = .ok (.ladd, 1) := by decide +kernel
theorem dX9_keeps_18 : decode cX9_keeps 18 = .ok (.aload_n 0, 1) := by decide +kernel
theorem dX9_keeps_19 : decode cX9_keeps 19 = .ok (.getfield 175, 3) := by decide +kernel
theorem dX9_keeps_22 : decode cX9_keeps 22 = .ok (.ladd, 1) := by decide +kernel
theorem dX9_keeps_23 : decode cX9_keeps 23 = .ok (.lcmp, 1) := by decide +kernel
theorem dX9_keeps_24 : decode cX9_keeps 24 = .ok (.ifCond .ne 7, 3) := by decide +kernel
theorem dX9_keeps_27 : decode cX9_keeps 27 = .ok (.iconst 1, 1) := by decide +kernel
theorem dX9_keeps_28 : decode cX9_keeps 28 = .ok (.goto 4, 3) := by decide +kernel
theorem dX9_keeps_31 : decode cX9_keeps 31 = .ok (.iconst 0, 1) := by decide +kernel
theorem dX9_keeps_32 : decode cX9_keeps 32 = .ok (.ireturn, 1) := by decide +kernel
theorem dX9_list_0 : decode cX9_list 0 = .ok (.iload_n 1, 1) := by decide +kernel
theorem dX9_list_1 : decode cX9_list 1 = .ok (.bipush 10, 2) := by decide +kernel
theorem dX9_list_3 : decode cX9_list 3 = .ok (.sipush 3000, 3) := by decide +kernel
theorem dX9_list_6 : decode cX9_list 6 = .ok (.invokestatic 68, 3) := by decide +kernel
theorem dX9_list_9 : decode cX9_list 9 = .ok (.ifCond .eq 13, 3) := by decide +kernel
theorem dX9_list_12 : decode cX9_list 12 = .ok (.iload_n 2, 1) := by decide +kernel
theorem dX9_list_13 : decode cX9_list 13 = .ok (.iconst 0, 1) := by decide +kernel
theorem dX9_list_14 : decode cX9_list 14 = .ok (.ldc 67, 2) := by decide +kernel
theorem dX9_list_16 : decode cX9_list 16 = .ok (.invokestatic 68, 3) := by decide +kernel
theorem dX9_list_19 : decode cX9_list 19 = .ok (.ifCond .ne 5, 3) := by decide +kernel
theorem dX9_list_22 : decode cX9_list 22 = .ok (.iconst (-1), 1) := by decide +kernel
theorem dX9_list_23 : decode cX9_list 23 = .ok (.ireturn, 1) := by decide +kernel
theorem dX9_list_24 : decode cX9_list 24 = .ok (.aload_n 0, 1) := by decide +kernel
theorem dX9_list_25 : decode cX9_list 25 = .ok (.getfield 42, 3) := by decide +kernel
theorem dX9_list_28 : decode cX9_list 28 = .ok (.iload_n 1, 1) := by decide +kernel
theorem dX9_list_29 : decode cX9_list 29 = .ok (.iload_n 2, 1) := by decide +kernel
theorem dX9_list_30 : decode cX9_list 30 = .ok (.invokevirtual 178, 3) := by decide +kernel
theorem dX9_list_33 : decode cX9_list 33 = .ok (.ireturn, 1) := by decide +kernel
theorem dX9_begin_0 : decode cX9_begin 0 = .ok (.iload_n 1, 1) := by decide +kernel
theorem dX9_begin_1 : decode cX9_begin 1 = .ok (.invokestatic 63, 3) := by decide +kernel
theorem dX9_begin_4 : decode cX9_begin 4 = .ok (.ifCond .eq 10, 3) := by decide +kernel
theorem dX9_begin_7 : decode cX9_begin 7 = .ok (.iload_n 2, 1) := by decide +kernel
theorem dX9_begin_8 : decode cX9_begin 8 = .ok (.invokestatic 63, 3) := by decide +kernel
theorem dX9_begin_11 : decode cX9_begin 11 = .ok (.ifCond .ne 5, 3) := by decide +kernel
theorem dX9_begin_14 : decode cX9_begin 14 = .ok (.iconst 0, 1) := by decide +kernel
theorem dX9_begin_15 : decode cX9_begin 15 = .ok (.ireturn, 1) := by decide +kernel
theorem dX9_begin_16 : decode cX9_begin 16 = .ok (.aload_n 0, 1) := by decide +kernel
theorem dX9_begin_17 : decode cX9_begin 17 = .ok (.getfield 42, 3) := by decide +kernel
theorem dX9_begin_20 : decode cX9_begin 20 = .ok (.iload_n 1, 1) := by decide +kernel
theorem dX9_begin_21 : decode cX9_begin 21 = .ok (.iload_n 2, 1) := by decide +kernel
theorem dX9_begin_22 : decode cX9_begin 22 = .ok (.invokevirtual 181, 3) := by decide +kernel
theorem dX9_begin_25 : decode cX9_begin 25 = .ok (.iconst 1, 1) := by decide +kernel
theorem dX9_begin_26 : decode cX9_begin 26 = .ok (.ireturn, 1) := by decide +kernel
theorem dX9_piece_0 : decode cX9_piece 0 = .ok (.iload_n 1, 1) := by decide +kernel
theorem dX9_piece_1 : decode cX9_piece 1 = .ok (.invokestatic 63, 3) := by decide +kernel
theorem dX9_piece_4 : decode cX9_piece 4 = .ok (.ifCond .eq 25, 3) := by decide +kernel
theorem dX9_piece_7 : decode cX9_piece 7 = .ok (.iload_n 2, 1) := by decide +kernel
theorem dX9_piece_8 : decode cX9_piece 8 = .ok (.iconst 1, 1) := by decide +kernel
theorem dX9_piece_9 : decode cX9_piece 9 = .ok (.sipush 10000, 3) := by decide +kernel
theorem dX9_piece_12 : decode cX9_piece 12 = .ok (.invokestatic 68, 3) := by decide +kernel
theorem dX9_piece_15 : decode cX9_piece 15 = .ok (.ifCond .eq 14, 3) := by decide +kernel
theorem dX9_piece_18 : decode cX9_piece 18 = .ok (.iload_n 3, 1) := by decide +kernel
theorem dX9_piece_19 : decode cX9_piece 19 = .ok (.iconst 0, 1) := by decide +kernel
theorem dX9_piece_20 : decode cX9_piece 20 = .ok (.sipush 10000, 3) := by decide +kernel
theorem dX9_piece_23 : decode cX9_piece 23 = .ok (.invokestatic 68, 3) := by decide +kernel
theorem dX9_piece_26 : decode cX9_piece 26 = .ok (.ifCond .ne 5, 3) := by decide +kernel
theorem dX9_piece_29 : decode cX9_piece 29 = .ok (.iconst (-1), 1) := by decide +kernel
theorem dX9_piece_30 : decode cX9_piece 30 = .ok (.ireturn, 1) := by decide +kernel
theorem dX9_piece_31 : decode cX9_piece 31 = .ok (.aload_n 0, 1) := by decide +kernel
theorem dX9_piece_32 : decode cX9_piece 32 = .ok (.getfield 42, 3) := by decide +kernel
theorem dX9_piece_35 : decode cX9_piece 35 = .ok (.iload_n 1, 1) := by decide +kernel
theorem dX9_piece_36 : decode cX9_piece 36 = .ok (.iload_n 2, 1) := by decide +kernel
theorem dX9_piece_37 : decode cX9_piece 37 = .ok (.iload_n 3, 1) := by decide +kernel
theorem dX9_piece_38 : decode cX9_piece 38 = .ok (.invokevirtual 185, 3) := by decide +kernel
theorem dX9_piece_41 : decode cX9_piece 41 = .ok (.ireturn, 1) := by decide +kernel
theorem dX9_lay_0 : decode cX9_lay 0 = .ok (.iload_n 1, 1) := by decide +kernel
theorem dX9_lay_1 : decode cX9_lay 1 = .ok (.iconst 0, 1) := by decide +kernel
theorem dX9_lay_2 : decode cX9_lay 2 = .ok (.sipush 10000, 3) := by decide +kernel
theorem dX9_lay_5 : decode cX9_lay 5 = .ok (.invokestatic 68, 3) := by decide +kernel
theorem dX9_lay_8 : decode cX9_lay 8 = .ok (.ifCond .eq 14, 3) := by decide +kernel
theorem dX9_lay_11 : decode cX9_lay 11 = .ok (.iload_n 2, 1) := by decide +kernel
theorem dX9_lay_12 : decode cX9_lay 12 = .ok (.iconst 0, 1) := by decide +kernel
theorem dX9_lay_13 : decode cX9_lay 13 = .ok (.sipush 1000, 3) := by decide +kernel
theorem dX9_lay_16 : decode cX9_lay 16 = .ok (.invokestatic 68, 3) := by decide +kernel
theorem dX9_lay_19 : decode cX9_lay 19 = .ok (.ifCond .ne 7, 3) := by decide +kernel
theorem dX9_lay_22 : decode cX9_lay 22 = .ok (.ldc2_w 157, 3) := by decide +kernel
theorem dX9_lay_25 : decode cX9_lay 25 = .ok (.lreturn, 1) := by decide +kernel
theorem dX9_lay_26 : decode cX9_lay 26 = .ok (.aload_n 0, 1) := by decide +kernel
theorem dX9_lay_27 : decode cX9_lay 27 = .ok (.getfield 42, 3) := by decide +kernel
theorem dX9_lay_30 : decode cX9_lay 30 = .ok (.iload_n 1, 1) := by decide +kernel
theorem dX9_lay_31 : decode cX9_lay 31 = .ok (.iload_n 2, 1) := by decide +kernel
theorem dX9_lay_32 : decode cX9_lay 32 = .ok (.invokevirtual 189, 3) := by decide +kernel
theorem dX9_lay_35 : decode cX9_lay 35 = .ok (.lreturn, 1) := by decide +kernel
theorem dX9_laid_0 : decode cX9_laid 0 = .ok (.aload_n 0, 1) := by decide +kernel
theorem dX9_laid_1 : decode cX9_laid 1 = .ok (.getfield 42, 3) := by decide +kernel
theorem dX9_laid_4 : decode cX9_laid 4 = .ok (.iload_n 1, 1) := by decide +kernel
theorem dX9_laid_5 : decode cX9_laid 5 = .ok (.iload_n 2, 1) := by decide +kernel
theorem dX9_laid_6 : decode cX9_laid 6 = .ok (.invokevirtual 193, 3) := by decide +kernel
theorem dX9_laid_9 : decode cX9_laid 9 = .ok (.ireturn, 1) := by decide +kernel
theorem dX9_count_0 : decode cX9_count 0 = .ok (.iload_n 1, 1) := by decide +kernel
theorem dX9_count_1 : decode cX9_count 1 = .ok (.tableswitch 123 0 8 #[51, 59, 67, 75, 83, 91, 99, 110, 118], 51) := by decide +kernel
theorem dX9_count_52 : decode cX9_count 52 = .ok (.aload_n 0, 1) := by decide +kernel
theorem dX9_count_53 : decode cX9_count 53 = .ok (.getfield 10, 3) := by decide +kernel
theorem dX9_count_56 : decode cX9_count 56 = .ok (.invokevirtual 59, 3) := by decide +kernel
theorem dX9_count_59 : decode cX9_count 59 = .ok (.ireturn, 1) := by decide +kernel
theorem dX9_count_60 : decode cX9_count 60 = .ok (.aload_n 0, 1) := by decide +kernel
theorem dX9_count_61 : decode cX9_count 61 = .ok (.getfield 16, 3) := by decide +kernel
theorem dX9_count_64 : decode cX9_count 64 = .ok (.invokevirtual 59, 3) := by decide +kernel
theorem dX9_count_67 : decode cX9_count 67 = .ok (.ireturn, 1) := by decide +kernel
theorem dX9_count_68 : decode cX9_count 68 = .ok (.aload_n 0, 1) := by decide +kernel
theorem dX9_count_69 : decode cX9_count 69 = .ok (.getfield 19, 3) := by decide +kernel
theorem dX9_count_72 : decode cX9_count 72 = .ok (.invokevirtual 59, 3) := by decide +kernel
theorem dX9_count_75 : decode cX9_count 75 = .ok (.ireturn, 1) := by decide +kernel
theorem dX9_count_76 : decode cX9_count 76 = .ok (.aload_n 0, 1) := by decide +kernel
theorem dX9_count_77 : decode cX9_count 77 = .ok (.getfield 22, 3) := by decide +kernel
theorem dX9_count_80 : decode cX9_count 80 = .ok (.invokevirtual 59, 3) := by decide +kernel
theorem dX9_count_83 : decode cX9_count 83 = .ok (.ireturn, 1) := by decide +kernel
theorem dX9_count_84 : decode cX9_count 84 = .ok (.aload_n 0, 1) := by decide +kernel
theorem dX9_count_85 : decode cX9_count 85 = .ok (.getfield 25, 3) := by decide +kernel
theorem dX9_count_88 : decode cX9_count 88 = .ok (.invokevirtual 59, 3) := by decide +kernel
theorem dX9_count_91 : decode cX9_count 91 = .ok (.ireturn, 1) := by decide +kernel
theorem dX9_count_92 : decode cX9_count 92 = .ok (.aload_n 0, 1) := by decide +kernel
theorem dX9_count_93 : decode cX9_count 93 = .ok (.getfield 28, 3) := by decide +kernel
theorem dX9_count_96 : decode cX9_count 96 = .ok (.invokevirtual 59, 3) := by decide +kernel
theorem dX9_count_99 : decode cX9_count 99 = .ok (.ireturn, 1) := by decide +kernel
theorem dX9_count_100 : decode cX9_count 100 = .ok (.aload_n 0, 1) := by decide +kernel
theorem dX9_count_101 : decode cX9_count 101 = .ok (.getfield 42, 3) := by decide +kernel
theorem dX9_count_104 : decode cX9_count 104 = .ok (.getfield 196, 3) := by decide +kernel
theorem dX9_count_107 : decode cX9_count 107 = .ok (.invokevirtual 59, 3) := by decide +kernel
theorem dX9_count_110 : decode cX9_count 110 = .ok (.ireturn, 1) := by decide +kernel
theorem dX9_count_111 : decode cX9_count 111 = .ok (.aload_n 0, 1) := by decide +kernel
theorem dX9_count_112 : decode cX9_count 112 = .ok (.getfield 42, 3) := by decide +kernel
theorem dX9_count_115 : decode cX9_count 115 = .ok (.getfield 199, 3) := by decide +kernel
theorem dX9_count_118 : decode cX9_count 118 = .ok (.ireturn, 1) := by decide +kernel
theorem dX9_count_119 : decode cX9_count 119 = .ok (.aload_n 0, 1) := by decide +kernel
theorem dX9_count_120 : decode cX9_count 120 = .ok (.getfield 123, 3) := by decide +kernel
theorem dX9_count_123 : decode cX9_count 123 = .ok (.ireturn, 1) := by decide +kernel
theorem dX9_count_124 : decode cX9_count 124 = .ok (.iconst (-1), 1) := by decide +kernel
theorem dX9_count_125 : decode cX9_count 125 = .ok (.ireturn, 1) := by decide +kernel
theorem dX9_isWithin_0 : decode cX9_isWithin 0 = .ok (.iload_n 0, 1) := by decide +kernel
theorem dX9_isWithin_1 : decode cX9_isWithin 1 = .ok (.iload_n 1, 1) := by decide +kernel
theorem dX9_isWithin_2 : decode cX9_isWithin 2 = .ok (.if_icmp .lt 12, 3) := by decide +kernel
theorem dX9_isWithin_5 : decode cX9_isWithin 5 = .ok (.iload_n 0, 1) := by decide +kernel
theorem dX9_isWithin_6 : decode cX9_isWithin 6 = .ok (.iload_n 2, 1) := by decide +kernel
theorem dX9_isWithin_7 : decode cX9_isWithin 7 = .ok (.if_icmp .gt 7, 3) := by decide +kernel
theorem dX9_isWithin_10 : decode cX9_isWithin 10 = .ok (.iconst 1, 1) := by decide +kernel
theorem dX9_isWithin_11 : decode cX9_isWithin 11 = .ok (.goto 4, 3) := by decide +kernel
theorem dX9_isWithin_14 : decode cX9_isWithin 14 = .ok (.iconst 0, 1) := by decide +kernel
theorem dX9_isWithin_15 : decode cX9_isWithin 15 = .ok (.ireturn, 1) := by decide +kernel
theorem dX9_isHeight_0 : decode cX9_isHeight 0 = .ok (.iload_n 0, 1) := by decide +kernel
theorem dX9_isHeight_1 : decode cX9_isHeight 1 = .ok (.ldc 202, 2) := by decide +kernel
theorem dX9_isHeight_3 : decode cX9_isHeight 3 = .ok (.ldc 67, 2) := by decide +kernel
theorem dX9_isHeight_5 : decode cX9_isHeight 5 = .ok (.invokestatic 68, 3) := by decide +kernel
theorem dX9_isHeight_8 : decode cX9_isHeight 8 = .ok (.ireturn, 1) := by decide +kernel
theorem dX9_isCell_0 : decode cX9_isCell 0 = .ok (.iload_n 0, 1) := by decide +kernel
theorem dX9_isCell_1 : decode cX9_isCell 1 = .ok (.iconst 0, 1) := by decide +kernel
theorem dX9_isCell_2 : decode cX9_isCell 2 = .ok (.bipush 7, 2) := by decide +kernel
theorem dX9_isCell_4 : decode cX9_isCell 4 = .ok (.invokestatic 68, 3) := by decide +kernel
theorem dX9_isCell_7 : decode cX9_isCell 7 = .ok (.ireturn, 1) := by decide +kernel
theorem dX9_isNode_0 : decode cX9_isNode 0 = .ok (.iload_n 1, 1) := by decide +kernel
theorem dX9_isNode_1 : decode cX9_isNode 1 = .ok (.iconst 0, 1) := by decide +kernel
theorem dX9_isNode_2 : decode cX9_isNode 2 = .ok (.aload_n 0, 1) := by decide +kernel
theorem dX9_isNode_3 : decode cX9_isNode 3 = .ok (.getfield 10, 3) := by decide +kernel
theorem dX9_isNode_6 : decode cX9_isNode 6 = .ok (.invokevirtual 59, 3) := by decide +kernel
theorem dX9_isNode_9 : decode cX9_isNode 9 = .ok (.iconst 1, 1) := by decide +kernel
theorem dX9_isNode_10 : decode cX9_isNode 10 = .ok (.isub, 1) := by decide +kernel
theorem dX9_isNode_11 : decode cX9_isNode 11 = .ok (.invokestatic 68, 3) := by decide +kernel
theorem dX9_isNode_14 : decode cX9_isNode 14 = .ok (.ireturn, 1) := by decide +kernel
theorem dX9_areTwoNodes_0 : decode cX9_areTwoNodes 0 = .ok (.aload_n 0, 1) := by decide +kernel
theorem dX9_areTwoNodes_1 : decode cX9_areTwoNodes 1 = .ok (.iload_n 1, 1) := by decide +kernel
theorem dX9_areTwoNodes_2 : decode cX9_areTwoNodes 2 = .ok (.invokevirtual 94, 3) := by decide +kernel
theorem dX9_areTwoNodes_5 : decode cX9_areTwoNodes 5 = .ok (.ifCond .eq 20, 3) := by decide +kernel
theorem dX9_areTwoNodes_8 : decode cX9_areTwoNodes 8 = .ok (.aload_n 0, 1) := by decide +kernel
theorem dX9_areTwoNodes_9 : decode cX9_areTwoNodes 9 = .ok (.iload_n 2, 1) := by decide +kernel
theorem dX9_areTwoNodes_10 : decode cX9_areTwoNodes 10 = .ok (.invokevirtual 94, 3) := by decide +kernel
theorem dX9_areTwoNodes_13 : decode cX9_areTwoNodes 13 = .ok (.ifCond .eq 12, 3) := by decide +kernel
theorem dX9_areTwoNodes_16 : decode cX9_areTwoNodes 16 = .ok (.iload_n 1, 1) := by decide +kernel
theorem dX9_areTwoNodes_17 : decode cX9_areTwoNodes 17 = .ok (.iload_n 2, 1) := by decide +kernel
theorem dX9_areTwoNodes_18 : decode cX9_areTwoNodes 18 = .ok (.if_icmp .eq 7, 3) := by decide +kernel
theorem dX9_areTwoNodes_21 : decode cX9_areTwoNodes 21 = .ok (.iconst 1, 1) := by decide +kernel
theorem dX9_areTwoNodes_22 : decode cX9_areTwoNodes 22 = .ok (.goto 4, 3) := by decide +kernel
theorem dX9_areTwoNodes_25 : decode cX9_areTwoNodes 25 = .ok (.iconst 0, 1) := by decide +kernel
theorem dX9_areTwoNodes_26 : decode cX9_areTwoNodes 26 = .ok (.ireturn, 1) := by decide +kernel
theorem dX9_litresInNodes_0 : decode cX9_litresInNodes 0 = .ok (.lconst 0, 1) := by decide +kernel
theorem dX9_litresInNodes_1 : decode cX9_litresInNodes 1 = .ok (.lstore_n 1, 1) := by decide +kernel
theorem dX9_litresInNodes_2 : decode cX9_litresInNodes 2 = .ok (.iconst 0, 1) := by decide +kernel
theorem dX9_litresInNodes_3 : decode cX9_litresInNodes 3 = .ok (.istore_n 3, 1) := by decide +kernel
theorem dX9_litresInNodes_4 : decode cX9_litresInNodes 4 = .ok (.iload_n 3, 1) := by decide +kernel
theorem dX9_litresInNodes_5 : decode cX9_litresInNodes 5 = .ok (.aload_n 0, 1) := by decide +kernel
theorem dX9_litresInNodes_6 : decode cX9_litresInNodes 6 = .ok (.getfield 10, 3) := by decide +kernel
theorem dX9_litresInNodes_9 : decode cX9_litresInNodes 9 = .ok (.invokevirtual 59, 3) := by decide +kernel
theorem dX9_litresInNodes_12 : decode cX9_litresInNodes 12 = .ok (.if_icmp .ge 26, 3) := by decide +kernel
theorem dX9_litresInNodes_15 : decode cX9_litresInNodes 15 = .ok (.lload_n 1, 1) := by decide +kernel
theorem dX9_litresInNodes_16 : decode cX9_litresInNodes 16 = .ok (.aload_n 0, 1) := by decide +kernel
theorem dX9_litresInNodes_17 : decode cX9_litresInNodes 17 = .ok (.getfield 10, 3) := by decide +kernel
theorem dX9_litresInNodes_20 : decode cX9_litresInNodes 20 = .ok (.iload_n 3, 1) := by decide +kernel
theorem dX9_litresInNodes_21 : decode cX9_litresInNodes 21 = .ok (.invokevirtual 87, 3) := by decide +kernel
theorem dX9_litresInNodes_24 : decode cX9_litresInNodes 24 = .ok (.checkcast 72, 3) := by decide +kernel
theorem dX9_litresInNodes_27 : decode cX9_litresInNodes 27 = .ok (.getfield 132, 3) := by decide +kernel
theorem dX9_litresInNodes_30 : decode cX9_litresInNodes 30 = .ok (.ladd, 1) := by decide +kernel
theorem dX9_litresInNodes_31 : decode cX9_litresInNodes 31 = .ok (.lstore_n 1, 1) := by decide +kernel
theorem dX9_litresInNodes_32 : decode cX9_litresInNodes 32 = .ok (.iinc 3 1, 3) := by decide +kernel
theorem dX9_litresInNodes_35 : decode cX9_litresInNodes 35 = .ok (.goto (-31), 3) := by decide +kernel
theorem dX9_litresInNodes_38 : decode cX9_litresInNodes 38 = .ok (.lload_n 1, 1) := by decide +kernel
theorem dX9_litresInNodes_39 : decode cX9_litresInNodes 39 = .ok (.lreturn, 1) := by decide +kernel
theorem dX9_litresInCells_0 : decode cX9_litresInCells 0 = .ok (.lconst 0, 1) := by decide +kernel
theorem dX9_litresInCells_1 : decode cX9_litresInCells 1 = .ok (.lstore_n 1, 1) := by decide +kernel
theorem dX9_litresInCells_2 : decode cX9_litresInCells 2 = .ok (.iconst 0, 1) := by decide +kernel
theorem dX9_litresInCells_3 : decode cX9_litresInCells 3 = .ok (.istore_n 3, 1) := by decide +kernel
theorem dX9_litresInCells_4 : decode cX9_litresInCells 4 = .ok (.iload_n 3, 1) := by decide +kernel
theorem dX9_litresInCells_5 : decode cX9_litresInCells 5 = .ok (.bipush 8, 2) := by decide +kernel
theorem dX9_litresInCells_7 : decode cX9_litresInCells 7 = .ok (.if_icmp .ge 18, 3) := by decide +kernel
theorem dX9_litresInCells_10 : decode cX9_litresInCells 10 = .ok (.lload_n 1, 1) := by decide +kernel
theorem dX9_litresInCells_11 : decode cX9_litresInCells 11 = .ok (.aload_n 0, 1) := by decide +kernel
theorem dX9_litresInCells_12 : decode cX9_litresInCells 12 = .ok (.getfield 35, 3) := by decide +kernel
theorem dX9_litresInCells_15 : decode cX9_litresInCells 15 = .ok (.iload_n 3, 1) := by decide +kernel
theorem dX9_litresInCells_16 : decode cX9_litresInCells 16 = .ok (.laload, 1) := by decide +kernel
theorem dX9_litresInCells_17 : decode cX9_litresInCells 17 = .ok (.ladd, 1) := by decide +kernel
theorem dX9_litresInCells_18 : decode cX9_litresInCells 18 = .ok (.lstore_n 1, 1) := by decide +kernel
theorem dX9_litresInCells_19 : decode cX9_litresInCells 19 = .ok (.iinc 3 1, 3) := by decide +kernel
theorem dX9_litresInCells_22 : decode cX9_litresInCells 22 = .ok (.goto (-18), 3) := by decide +kernel
theorem dX9_litresInCells_25 : decode cX9_litresInCells 25 = .ok (.lload_n 1, 1) := by decide +kernel
theorem dX9_litresInCells_26 : decode cX9_litresInCells 26 = .ok (.lreturn, 1) := by decide +kernel
theorem dX9_passSecond_0 : decode cX9_passSecond 0 = .ok (.aload_n 0, 1) := by decide +kernel
theorem dX9_passSecond_1 : decode cX9_passSecond 1 = .ok (.invokevirtual 203, 3) := by decide +kernel
theorem dX9_passSecond_4 : decode cX9_passSecond 4 = .ok (.aload_n 0, 1) := by decide +kernel
theorem dX9_passSecond_5 : decode cX9_passSecond 5 = .ok (.invokevirtual 206, 3) := by decide +kernel
theorem dX9_passSecond_8 : decode cX9_passSecond 8 = .ok (.iconst 0, 1) := by decide +kernel
theorem dX9_passSecond_9 : decode cX9_passSecond 9 = .ok (.istore_n 1, 1) := by decide +kernel
theorem dX9_passSecond_10 : decode cX9_passSecond 10 = .ok (.iload_n 1, 1) := by decide +kernel
theorem dX9_passSecond_11 : decode cX9_passSecond 11 = .ok (.aload_n 0, 1) := by decide +kernel
theorem dX9_passSecond_12 : decode cX9_passSecond 12 = .ok (.getfield 22, 3) := by decide +kernel
theorem dX9_passSecond_15 : decode cX9_passSecond 15 = .ok (.invokevirtual 59, 3) := by decide +kernel
theorem dX9_passSecond_18 : decode cX9_passSecond 18 = .ok (.if_icmp .ge 23, 3) := by decide +kernel
theorem dX9_passSecond_21 : decode cX9_passSecond 21 = .ok (.aload_n 0, 1) := by decide +kernel
theorem dX9_passSecond_22 : decode cX9_passSecond 22 = .ok (.getfield 22, 3) := by decide +kernel
theorem dX9_passSecond_25 : decode cX9_passSecond 25 = .ok (.iload_n 1, 1) := by decide +kernel
theorem dX9_passSecond_26 : decode cX9_passSecond 26 = .ok (.invokevirtual 87, 3) := by decide +kernel
theorem dX9_passSecond_29 : decode cX9_passSecond 29 = .ok (.checkcast 103, 3) := by decide +kernel
theorem dX9_passSecond_32 : decode cX9_passSecond 32 = .ok (.invokevirtual 209, 3) := by decide +kernel
theorem dX9_passSecond_35 : decode cX9_passSecond 35 = .ok (.iinc 1 1, 3) := by decide +kernel
theorem dX9_passSecond_38 : decode cX9_passSecond 38 = .ok (.goto (-28), 3) := by decide +kernel
theorem dX9_passSecond_41 : decode cX9_passSecond 41 = .ok (.iconst 0, 1) := by decide +kernel
theorem dX9_passSecond_42 : decode cX9_passSecond 42 = .ok (.istore_n 1, 1) := by decide +kernel
theorem dX9_passSecond_43 : decode cX9_passSecond 43 = .ok (.iload_n 1, 1) := by decide +kernel
theorem dX9_passSecond_44 : decode cX9_passSecond 44 = .ok (.aload_n 0, 1) := by decide +kernel
theorem dX9_passSecond_45 : decode cX9_passSecond 45 = .ok (.getfield 25, 3) := by decide +kernel
theorem dX9_passSecond_48 : decode cX9_passSecond 48 = .ok (.invokevirtual 59, 3) := by decide +kernel
theorem dX9_passSecond_51 : decode cX9_passSecond 51 = .ok (.if_icmp .ge 32, 3) := by decide +kernel
theorem dX9_passSecond_54 : decode cX9_passSecond 54 = .ok (.aload_n 0, 1) := by decide +kernel
theorem dX9_passSecond_55 : decode cX9_passSecond 55 = .ok (.dup, 1) := by decide +kernel
theorem dX9_passSecond_56 : decode cX9_passSecond 56 = .ok (.getfield 172, 3) := by decide +kernel
theorem dX9_passSecond_59 : decode cX9_passSecond 59 = .ok (.aload_n 0, 1) := by decide +kernel
theorem dX9_passSecond_60 : decode cX9_passSecond 60 = .ok (.getfield 25, 3) := by decide +kernel
theorem dX9_passSecond_63 : decode cX9_passSecond 63 = .ok (.iload_n 1, 1) := by decide +kernel
theorem dX9_passSecond_64 : decode cX9_passSecond 64 = .ok (.invokevirtual 87, 3) := by decide +kernel
theorem dX9_passSecond_67 : decode cX9_passSecond 67 = .ok (.checkcast 109, 3) := by decide +kernel
theorem dX9_passSecond_70 : decode cX9_passSecond 70 = .ok (.invokevirtual 212, 3) := by decide +kernel
theorem dX9_passSecond_73 : decode cX9_passSecond 73 = .ok (.ladd, 1) := by decide +kernel
theorem dX9_passSecond_74 : decode cX9_passSecond 74 = .ok (.putfield 172, 3) := by decide +kernel
theorem dX9_passSecond_77 : decode cX9_passSecond 77 = .ok (.iinc 1 1, 3) := by decide +kernel
theorem dX9_passSecond_80 : decode cX9_passSecond 80 = .ok (.goto (-37), 3) := by decide +kernel
theorem dX9_passSecond_83 : decode cX9_passSecond 83 = .ok (.aload_n 0, 1) := by decide +kernel
theorem dX9_passSecond_84 : decode cX9_passSecond 84 = .ok (.invokevirtual 215, 3) := by decide +kernel
theorem dX9_passSecond_87 : decode cX9_passSecond 87 = .ok (.aload_n 0, 1) := by decide +kernel
theorem dX9_passSecond_88 : decode cX9_passSecond 88 = .ok (.invokevirtual 218, 3) := by decide +kernel
theorem dX9_passSecond_91 : decode cX9_passSecond 91 = .ok (.aload_n 0, 1) := by decide +kernel
theorem dX9_passSecond_92 : decode cX9_passSecond 92 = .ok (.dup, 1) := by decide +kernel
theorem dX9_passSecond_93 : decode cX9_passSecond 93 = .ok (.getfield 123, 3) := by decide +kernel
theorem dX9_passSecond_96 : decode cX9_passSecond 96 = .ok (.iconst 1, 1) := by decide +kernel
theorem dX9_passSecond_97 : decode cX9_passSecond 97 = .ok (.iadd, 1) := by decide +kernel
theorem dX9_passSecond_98 : decode cX9_passSecond 98 = .ok (.putfield 123, 3) := by decide +kernel
theorem dX9_passSecond_101 : decode cX9_passSecond 101 = .ok (.return_, 1) := by decide +kernel
theorem dX9_rainOnAreas_0 : decode cX9_rainOnAreas 0 = .ok (.aload_n 0, 1) := by decide +kernel
theorem dX9_rainOnAreas_1 : decode cX9_rainOnAreas 1 = .ok (.getfield 31, 3) := by decide +kernel
theorem dX9_rainOnAreas_4 : decode cX9_rainOnAreas 4 = .ok (.aload_n 0, 1) := by decide +kernel
theorem dX9_rainOnAreas_5 : decode cX9_rainOnAreas 5 = .ok (.getfield 123, 3) := by decide +kernel
theorem dX9_rainOnAreas_8 : decode cX9_rainOnAreas 8 = .ok (.bipush 60, 2) := by decide +kernel
theorem dX9_rainOnAreas_10 : decode cX9_rainOnAreas 10 = .ok (.idiv, 1) := by decide +kernel
theorem dX9_rainOnAreas_11 : decode cX9_rainOnAreas 11 = .ok (.iaload, 1) := by decide +kernel
theorem dX9_rainOnAreas_12 : decode cX9_rainOnAreas 12 = .ok (.istore_n 1, 1) := by decide +kernel
theorem dX9_rainOnAreas_13 : decode cX9_rainOnAreas 13 = .ok (.iconst 0, 1) := by decide +kernel
theorem dX9_rainOnAreas_14 : decode cX9_rainOnAreas 14 = .ok (.istore_n 2, 1) := by decide +kernel
theorem dX9_rainOnAreas_15 : decode cX9_rainOnAreas 15 = .ok (.iload_n 2, 1) := by decide +kernel
theorem dX9_rainOnAreas_16 : decode cX9_rainOnAreas 16 = .ok (.aload_n 0, 1) := by decide +kernel
theorem dX9_rainOnAreas_17 : decode cX9_rainOnAreas 17 = .ok (.getfield 19, 3) := by decide +kernel
theorem dX9_rainOnAreas_20 : decode cX9_rainOnAreas 20 = .ok (.invokevirtual 59, 3) := by decide +kernel
theorem dX9_rainOnAreas_23 : decode cX9_rainOnAreas 23 = .ok (.if_icmp .ge 33, 3) := by decide +kernel
theorem dX9_rainOnAreas_26 : decode cX9_rainOnAreas 26 = .ok (.aload_n 0, 1) := by decide +kernel
theorem dX9_rainOnAreas_27 : decode cX9_rainOnAreas 27 = .ok (.dup, 1) := by decide +kernel
theorem dX9_rainOnAreas_28 : decode cX9_rainOnAreas 28 = .ok (.getfield 163, 3) := by decide +kernel
theorem dX9_rainOnAreas_31 : decode cX9_rainOnAreas 31 = .ok (.aload_n 0, 1) := by decide +kernel
theorem dX9_rainOnAreas_32 : decode cX9_rainOnAreas 32 = .ok (.getfield 19, 3) := by decide +kernel
theorem dX9_rainOnAreas_35 : decode cX9_rainOnAreas 35 = .ok (.iload_n 2, 1) := by decide +kernel
theorem dX9_rainOnAreas_36 : decode cX9_rainOnAreas 36 = .ok (.invokevirtual 87, 3) := by decide +kernel
theorem dX9_rainOnAreas_39 : decode cX9_rainOnAreas 39 = .ok (.checkcast 98, 3) := by decide +kernel
theorem dX9_rainOnAreas_42 : decode cX9_rainOnAreas 42 = .ok (.iload_n 1, 1) := by decide +kernel
theorem dX9_rainOnAreas_43 : decode cX9_rainOnAreas 43 = .ok (.invokevirtual 221, 3) := by decide +kernel
theorem dX9_rainOnAreas_46 : decode cX9_rainOnAreas 46 = .ok (.ladd, 1) := by decide +kernel
theorem dX9_rainOnAreas_47 : decode cX9_rainOnAreas 47 = .ok (.putfield 163, 3) := by decide +kernel
theorem dX9_rainOnAreas_50 : decode cX9_rainOnAreas 50 = .ok (.iinc 2 1, 3) := by decide +kernel
theorem dX9_rainOnAreas_53 : decode cX9_rainOnAreas 53 = .ok (.goto (-38), 3) := by decide +kernel
theorem dX9_rainOnAreas_56 : decode cX9_rainOnAreas 56 = .ok (.return_, 1) := by decide +kernel
theorem dX9_carryByPipes_0 : decode cX9_carryByPipes 0 = .ok (.iconst 0, 1) := by decide +kernel
theorem dX9_carryByPipes_1 : decode cX9_carryByPipes 1 = .ok (.istore_n 1, 1) := by decide +kernel
theorem dX9_carryByPipes_2 : decode cX9_carryByPipes 2 = .ok (.iload_n 1, 1) := by decide +kernel
theorem dX9_carryByPipes_3 : decode cX9_carryByPipes 3 = .ok (.aload_n 0, 1) := by decide +kernel
theorem dX9_carryByPipes_4 : decode cX9_carryByPipes 4 = .ok (.getfield 10, 3) := by decide +kernel
theorem dX9_carryByPipes_7 : decode cX9_carryByPipes 7 = .ok (.invokevirtual 59, 3) := by decide +kernel
theorem dX9_carryByPipes_10 : decode cX9_carryByPipes 10 = .ok (.if_icmp .ge 23, 3) := by decide +kernel
theorem dX9_carryByPipes_13 : decode cX9_carryByPipes 13 = .ok (.aload_n 0, 1) := by decide +kernel
theorem dX9_carryByPipes_14 : decode cX9_carryByPipes 14 = .ok (.getfield 10, 3) := by decide +kernel
theorem dX9_carryByPipes_17 : decode cX9_carryByPipes 17 = .ok (.iload_n 1, 1) := by decide +kernel
theorem dX9_carryByPipes_18 : decode cX9_carryByPipes 18 = .ok (.invokevirtual 87, 3) := by decide +kernel
theorem dX9_carryByPipes_21 : decode cX9_carryByPipes 21 = .ok (.checkcast 72, 3) := by decide +kernel
theorem dX9_carryByPipes_24 : decode cX9_carryByPipes 24 = .ok (.invokevirtual 225, 3) := by decide +kernel
theorem dX9_carryByPipes_27 : decode cX9_carryByPipes 27 = .ok (.iinc 1 1, 3) := by decide +kernel
theorem dX9_carryByPipes_30 : decode cX9_carryByPipes 30 = .ok (.goto (-28), 3) := by decide +kernel
theorem dX9_carryByPipes_33 : decode cX9_carryByPipes 33 = .ok (.iconst 0, 1) := by decide +kernel
theorem dX9_carryByPipes_34 : decode cX9_carryByPipes 34 = .ok (.istore_n 1, 1) := by decide +kernel
theorem dX9_carryByPipes_35 : decode cX9_carryByPipes 35 = .ok (.iload_n 1, 1) := by decide +kernel
theorem dX9_carryByPipes_36 : decode cX9_carryByPipes 36 = .ok (.aload_n 0, 1) := by decide +kernel
theorem dX9_carryByPipes_37 : decode cX9_carryByPipes 37 = .ok (.getfield 16, 3) := by decide +kernel
theorem dX9_carryByPipes_40 : decode cX9_carryByPipes 40 = .ok (.invokevirtual 59, 3) := by decide +kernel
theorem dX9_carryByPipes_43 : decode cX9_carryByPipes 43 = .ok (.if_icmp .ge 23, 3) := by decide +kernel
theorem dX9_carryByPipes_46 : decode cX9_carryByPipes 46 = .ok (.aload_n 0, 1) := by decide +kernel
theorem dX9_carryByPipes_47 : decode cX9_carryByPipes 47 = .ok (.getfield 16, 3) := by decide +kernel
theorem dX9_carryByPipes_50 : decode cX9_carryByPipes 50 = .ok (.iload_n 1, 1) := by decide +kernel
theorem dX9_carryByPipes_51 : decode cX9_carryByPipes 51 = .ok (.invokevirtual 87, 3) := by decide +kernel
theorem dX9_carryByPipes_54 : decode cX9_carryByPipes 54 = .ok (.checkcast 85, 3) := by decide +kernel
theorem dX9_carryByPipes_57 : decode cX9_carryByPipes 57 = .ok (.invokevirtual 228, 3) := by decide +kernel
theorem dX9_carryByPipes_60 : decode cX9_carryByPipes 60 = .ok (.iinc 1 1, 3) := by decide +kernel
theorem dX9_carryByPipes_63 : decode cX9_carryByPipes 63 = .ok (.goto (-28), 3) := by decide +kernel
theorem dX9_carryByPipes_66 : decode cX9_carryByPipes 66 = .ok (.return_, 1) := by decide +kernel
theorem dX9_drainCells_0 : decode cX9_drainCells 0 = .ok (.iconst 0, 1) := by decide +kernel
theorem dX9_drainCells_1 : decode cX9_drainCells 1 = .ok (.istore_n 1, 1) := by decide +kernel
theorem dX9_drainCells_2 : decode cX9_drainCells 2 = .ok (.iload_n 1, 1) := by decide +kernel
theorem dX9_drainCells_3 : decode cX9_drainCells 3 = .ok (.aload_n 0, 1) := by decide +kernel
theorem dX9_drainCells_4 : decode cX9_drainCells 4 = .ok (.getfield 28, 3) := by decide +kernel
theorem dX9_drainCells_7 : decode cX9_drainCells 7 = .ok (.invokevirtual 59, 3) := by decide +kernel
theorem dX9_drainCells_10 : decode cX9_drainCells 10 = .ok (.if_icmp .ge 46, 3) := by decide +kernel
theorem dX9_drainCells_13 : decode cX9_drainCells 13 = .ok (.aload_n 0, 1) := by decide +kernel
theorem dX9_drainCells_14 : decode cX9_drainCells 14 = .ok (.getfield 28, 3) := by decide +kernel
theorem dX9_drainCells_17 : decode cX9_drainCells 17 = .ok (.iload_n 1, 1) := by decide +kernel
theorem dX9_drainCells_18 : decode cX9_drainCells 18 = .ok (.invokevirtual 87, 3) := by decide +kernel
theorem dX9_drainCells_21 : decode cX9_drainCells 21 = .ok (.checkcast 115, 3) := by decide +kernel
theorem dX9_drainCells_24 : decode cX9_drainCells 24 = .ok (.astore_n 2, 1) := by decide +kernel
theorem dX9_drainCells_25 : decode cX9_drainCells 25 = .ok (.aload_n 0, 1) := by decide +kernel
theorem dX9_drainCells_26 : decode cX9_drainCells 26 = .ok (.getfield 35, 3) := by decide +kernel
theorem dX9_drainCells_29 : decode cX9_drainCells 29 = .ok (.aload_n 2, 1) := by decide +kernel
theorem dX9_drainCells_30 : decode cX9_drainCells 30 = .ok (.getfield 231, 3) := by decide +kernel
theorem dX9_drainCells_33 : decode cX9_drainCells 33 = .ok (.dup2, 1) := by decide +kernel
theorem dX9_drainCells_34 : decode cX9_drainCells 34 = .ok (.laload, 1) := by decide +kernel
theorem dX9_drainCells_35 : decode cX9_drainCells 35 = .ok (.aload_n 2, 1) := by decide +kernel
theorem dX9_drainCells_36 : decode cX9_drainCells 36 = .ok (.aload_n 0, 1) := by decide +kernel
theorem dX9_drainCells_37 : decode cX9_drainCells 37 = .ok (.getfield 35, 3) := by decide +kernel
theorem dX9_drainCells_40 : decode cX9_drainCells 40 = .ok (.aload_n 2, 1) := by decide +kernel
theorem dX9_drainCells_41 : decode cX9_drainCells 41 = .ok (.getfield 231, 3) := by decide +kernel
theorem dX9_drainCells_44 : decode cX9_drainCells 44 = .ok (.laload, 1) := by decide +kernel
theorem dX9_drainCells_45 : decode cX9_drainCells 45 = .ok (.invokevirtual 234, 3) := by decide +kernel
theorem dX9_drainCells_48 : decode cX9_drainCells 48 = .ok (.lsub, 1) := by decide +kernel
theorem dX9_drainCells_49 : decode cX9_drainCells 49 = .ok (.lastore, 1) := by decide +kernel
theorem dX9_drainCells_50 : decode cX9_drainCells 50 = .ok (.iinc 1 1, 3) := by decide +kernel
theorem dX9_drainCells_53 : decode cX9_drainCells 53 = .ok (.goto (-51), 3) := by decide +kernel
theorem dX9_drainCells_56 : decode cX9_drainCells 56 = .ok (.return_, 1) := by decide +kernel
theorem dX9_spillNodes_0 : decode cX9_spillNodes 0 = .ok (.iconst 0, 1) := by decide +kernel
theorem dX9_spillNodes_1 : decode cX9_spillNodes 1 = .ok (.istore_n 1, 1) := by decide +kernel
theorem dX9_spillNodes_2 : decode cX9_spillNodes 2 = .ok (.iload_n 1, 1) := by decide +kernel
theorem dX9_spillNodes_3 : decode cX9_spillNodes 3 = .ok (.aload_n 0, 1) := by decide +kernel
theorem dX9_spillNodes_4 : decode cX9_spillNodes 4 = .ok (.getfield 10, 3) := by decide +kernel
theorem dX9_spillNodes_7 : decode cX9_spillNodes 7 = .ok (.invokevirtual 59, 3) := by decide +kernel
theorem dX9_spillNodes_10 : decode cX9_spillNodes 10 = .ok (.if_icmp .ge 60, 3) := by decide +kernel
theorem dX9_spillNodes_13 : decode cX9_spillNodes 13 = .ok (.aload_n 0, 1) := by decide +kernel
theorem dX9_spillNodes_14 : decode cX9_spillNodes 14 = .ok (.getfield 10, 3) := by decide +kernel
theorem dX9_spillNodes_17 : decode cX9_spillNodes 17 = .ok (.iload_n 1, 1) := by decide +kernel
theorem dX9_spillNodes_18 : decode cX9_spillNodes 18 = .ok (.invokevirtual 87, 3) := by decide +kernel
theorem dX9_spillNodes_21 : decode cX9_spillNodes 21 = .ok (.checkcast 72, 3) := by decide +kernel
theorem dX9_spillNodes_24 : decode cX9_spillNodes 24 = .ok (.astore_n 2, 1) := by decide +kernel
theorem dX9_spillNodes_25 : decode cX9_spillNodes 25 = .ok (.aload_n 2, 1) := by decide +kernel
theorem dX9_spillNodes_26 : decode cX9_spillNodes 26 = .ok (.invokevirtual 238, 3) := by decide +kernel
theorem dX9_spillNodes_29 : decode cX9_spillNodes 29 = .ok (.lstore_n 3, 1) := by decide +kernel
theorem dX9_spillNodes_30 : decode cX9_spillNodes 30 = .ok (.aload_n 2, 1) := by decide +kernel
theorem dX9_spillNodes_31 : decode cX9_spillNodes 31 = .ok (.getfield 120, 3) := by decide +kernel
theorem dX9_spillNodes_34 : decode cX9_spillNodes 34 = .ok (.iconst (-1), 1) := by decide +kernel
theorem dX9_spillNodes_35 : decode cX9_spillNodes 35 = .ok (.if_icmp .ne 16, 3) := by decide +kernel
theorem dX9_spillNodes_38 : decode cX9_spillNodes 38 = .ok (.aload_n 0, 1) := by decide +kernel
theorem dX9_spillNodes_39 : decode cX9_spillNodes 39 = .ok (.dup, 1) := by decide +kernel
theorem dX9_spillNodes_40 : decode cX9_spillNodes 40 = .ok (.getfield 175, 3) := by decide +kernel
theorem dX9_spillNodes_43 : decode cX9_spillNodes 43 = .ok (.lload_n 3, 1) := by decide +kernel
theorem dX9_spillNodes_44 : decode cX9_spillNodes 44 = .ok (.ladd, 1) := by decide +kernel
theorem dX9_spillNodes_45 : decode cX9_spillNodes 45 = .ok (.putfield 175, 3) := by decide +kernel
theorem dX9_spillNodes_48 : decode cX9_spillNodes 48 = .ok (.goto 16, 3) := by decide +kernel
theorem dX9_spillNodes_51 : decode cX9_spillNodes 51 = .ok (.aload_n 0, 1) := by decide +kernel
theorem dX9_spillNodes_52 : decode cX9_spillNodes 52 = .ok (.getfield 35, 3) := by decide +kernel
theorem dX9_spillNodes_55 : decode cX9_spillNodes 55 = .ok (.aload_n 2, 1) := by decide +kernel
theorem dX9_spillNodes_56 : decode cX9_spillNodes 56 = .ok (.getfield 120, 3) := by decide +kernel
theorem dX9_spillNodes_59 : decode cX9_spillNodes 59 = .ok (.dup2, 1) := by decide +kernel
theorem dX9_spillNodes_60 : decode cX9_spillNodes 60 = .ok (.laload, 1) := by decide +kernel
theorem dX9_spillNodes_61 : decode cX9_spillNodes 61 = .ok (.lload_n 3, 1) := by decide +kernel
theorem dX9_spillNodes_62 : decode cX9_spillNodes 62 = .ok (.ladd, 1) := by decide +kernel
theorem dX9_spillNodes_63 : decode cX9_spillNodes 63 = .ok (.lastore, 1) := by decide +kernel
theorem dX9_spillNodes_64 : decode cX9_spillNodes 64 = .ok (.iinc 1 1, 3) := by decide +kernel
theorem dX9_spillNodes_67 : decode cX9_spillNodes 67 = .ok (.goto (-65), 3) := by decide +kernel
theorem dX9_spillNodes_70 : decode cX9_spillNodes 70 = .ok (.return_, 1) := by decide +kernel
theorem dX10_init_0 : decode cX10_init 0 = .ok (.aload_n 0, 1) := by decide +kernel
theorem dX10_init_1 : decode cX10_init 1 = .ok (.invokespecial 1, 3) := by decide +kernel
theorem dX10_init_4 : decode cX10_init 4 = .ok (.aload_n 0, 1) := by decide +kernel
theorem dX10_init_5 : decode cX10_init 5 = .ok (.bipush 24, 2) := by decide +kernel
theorem dX10_init_7 : decode cX10_init 7 = .ok (.newarray .int, 2) := by decide +kernel
theorem dX10_init_9 : decode cX10_init 9 = .ok (.putfield 7, 3) := by decide +kernel
theorem dX10_init_12 : decode cX10_init 12 = .ok (.aload_n 0, 1) := by decide +kernel
theorem dX10_init_13 : decode cX10_init 13 = .ok (.bipush 24, 2) := by decide +kernel
theorem dX10_init_15 : decode cX10_init 15 = .ok (.newarray .int, 2) := by decide +kernel
theorem dX10_init_17 : decode cX10_init 17 = .ok (.putfield 13, 3) := by decide +kernel
theorem dX10_init_20 : decode cX10_init 20 = .ok (.aload_n 0, 1) := by decide +kernel
theorem dX10_init_21 : decode cX10_init 21 = .ok (.bipush 24, 2) := by decide +kernel
theorem dX10_init_23 : decode cX10_init 23 = .ok (.newarray .int, 2) := by decide +kernel
theorem dX10_init_25 : decode cX10_init 25 = .ok (.putfield 16, 3) := by decide +kernel
theorem dX10_init_28 : decode cX10_init 28 = .ok (.aload_n 0, 1) := by decide +kernel
theorem dX10_init_29 : decode cX10_init 29 = .ok (.bipush 24, 2) := by decide +kernel
theorem dX10_init_31 : decode cX10_init 31 = .ok (.newarray .int, 2) := by decide +kernel
theorem dX10_init_33 : decode cX10_init 33 = .ok (.putfield 19, 3) := by decide +kernel
theorem dX10_init_36 : decode cX10_init 36 = .ok (.aload_n 0, 1) := by decide +kernel
theorem dX10_init_37 : decode cX10_init 37 = .ok (.bipush 24, 2) := by decide +kernel
theorem dX10_init_39 : decode cX10_init 39 = .ok (.newarray .long, 2) := by decide +kernel
theorem dX10_init_41 : decode cX10_init 41 = .ok (.putfield 22, 3) := by decide +kernel
theorem dX10_init_44 : decode cX10_init 44 = .ok (.aload_n 0, 1) := by decide +kernel
theorem dX10_init_45 : decode cX10_init 45 = .ok (.bipush 24, 2) := by decide +kernel
theorem dX10_init_47 : decode cX10_init 47 = .ok (.newarray .long, 2) := by decide +kernel
theorem dX10_init_49 : decode cX10_init 49 = .ok (.putfield 26, 3) := by decide +kernel
theorem dX10_init_52 : decode cX10_init 52 = .ok (.aload_n 0, 1) := by decide +kernel
theorem dX10_init_53 : decode cX10_init 53 = .ok (.bipush 24, 2) := by decide +kernel
theorem dX10_init_55 : decode cX10_init 55 = .ok (.newarray .long, 2) := by decide +kernel
theorem dX10_init_57 : decode cX10_init 57 = .ok (.putfield 29, 3) := by decide +kernel
theorem dX10_init_60 : decode cX10_init 60 = .ok (.aload_n 0, 1) := by decide +kernel
theorem dX10_init_61 : decode cX10_init 61 = .ok (.bipush 24, 2) := by decide +kernel
theorem dX10_init_63 : decode cX10_init 63 = .ok (.newarray .long, 2) := by decide +kernel
theorem dX10_init_65 : decode cX10_init 65 = .ok (.putfield 32, 3) := by decide +kernel
theorem dX10_init_68 : decode cX10_init 68 = .ok (.aload_n 0, 1) := by decide +kernel
theorem dX10_init_69 : decode cX10_init 69 = .ok (.bipush 40, 2) := by decide +kernel
theorem dX10_init_71 : decode cX10_init 71 = .ok (.newarray .int, 2) := by decide +kernel
theorem dX10_init_73 : decode cX10_init 73 = .ok (.putfield 35, 3) := by decide +kernel
theorem dX10_init_76 : decode cX10_init 76 = .ok (.aload_n 0, 1) := by decide +kernel
theorem dX10_init_77 : decode cX10_init 77 = .ok (.bipush 40, 2) := by decide +kernel
theorem dX10_init_79 : decode cX10_init 79 = .ok (.newarray .int, 2) := by decide +kernel
theorem dX10_init_81 : decode cX10_init 81 = .ok (.putfield 38, 3) := by decide +kernel
theorem dX10_init_84 : decode cX10_init 84 = .ok (.aload_n 0, 1) := by decide +kernel
theorem dX10_init_85 : decode cX10_init 85 = .ok (.bipush 40, 2) := by decide +kernel
theorem dX10_init_87 : decode cX10_init 87 = .ok (.newarray .int, 2) := by decide +kernel
theorem dX10_init_89 : decode cX10_init 89 = .ok (.putfield 41, 3) := by decide +kernel
theorem dX10_init_92 : decode cX10_init 92 = .ok (.aload_n 0, 1) := by decide +kernel
theorem dX10_init_93 : decode cX10_init 93 = .ok (.bipush 40, 2) := by decide +kernel
theorem dX10_init_95 : decode cX10_init 95 = .ok (.newarray .int, 2) := by decide +kernel
theorem dX10_init_97 : decode cX10_init 97 = .ok (.putfield 44, 3) := by decide +kernel
theorem dX10_init_100 : decode cX10_init 100 = .ok (.aload_n 0, 1) := by decide +kernel
theorem dX10_init_101 : decode cX10_init 101 = .ok (.bipush 40, 2) := by decide +kernel
theorem dX10_init_103 : decode cX10_init 103 = .ok (.newarray .long, 2) := by decide +kernel
theorem dX10_init_105 : decode cX10_init 105 = .ok (.putfield 47, 3) := by decide +kernel
theorem dX10_init_108 : decode cX10_init 108 = .ok (.aload_n 0, 1) := by decide +kernel
theorem dX10_init_109 : decode cX10_init 109 = .ok (.bipush 40, 2) := by decide +kernel
theorem dX10_init_111 : decode cX10_init 111 = .ok (.newarray .long, 2) := by decide +kernel
theorem dX10_init_113 : decode cX10_init 113 = .ok (.putfield 50, 3) := by decide +kernel
theorem dX10_init_116 : decode cX10_init 116 = .ok (.aload_n 0, 1) := by decide +kernel
theorem dX10_init_117 : decode cX10_init 117 = .ok (.bipush 40, 2) := by decide +kernel
theorem dX10_init_119 : decode cX10_init 119 = .ok (.newarray .long, 2) := by decide +kernel
theorem dX10_init_121 : decode cX10_init 121 = .ok (.putfield 53, 3) := by decide +kernel
theorem dX10_init_124 : decode cX10_init 124 = .ok (.aload_n 0, 1) := by decide +kernel
theorem dX10_init_125 : decode cX10_init 125 = .ok (.bipush 24, 2) := by decide +kernel
theorem dX10_init_127 : decode cX10_init 127 = .ok (.newarray .int, 2) := by decide +kernel
theorem dX10_init_129 : decode cX10_init 129 = .ok (.putfield 56, 3) := by decide +kernel
theorem dX10_init_132 : decode cX10_init 132 = .ok (.aload_n 0, 1) := by decide +kernel
theorem dX10_init_133 : decode cX10_init 133 = .ok (.bipush 24, 2) := by decide +kernel
theorem dX10_init_135 : decode cX10_init 135 = .ok (.newarray .int, 2) := by decide +kernel
theorem dX10_init_137 : decode cX10_init 137 = .ok (.putfield 59, 3) := by decide +kernel
theorem dX10_init_140 : decode cX10_init 140 = .ok (.aload_n 0, 1) := by decide +kernel
theorem dX10_init_141 : decode cX10_init 141 = .ok (.bipush 24, 2) := by decide +kernel
theorem dX10_init_143 : decode cX10_init 143 = .ok (.newarray .int, 2) := by decide +kernel
theorem dX10_init_145 : decode cX10_init 145 = .ok (.putfield 62, 3) := by decide +kernel
theorem dX10_init_148 : decode cX10_init 148 = .ok (.aload_n 0, 1) := by decide +kernel
theorem dX10_init_149 : decode cX10_init 149 = .ok (.bipush 24, 2) := by decide +kernel
theorem dX10_init_151 : decode cX10_init 151 = .ok (.newarray .long, 2) := by decide +kernel
theorem dX10_init_153 : decode cX10_init 153 = .ok (.putfield 65, 3) := by decide +kernel
theorem dX10_init_156 : decode cX10_init 156 = .ok (.aload_n 0, 1) := by decide +kernel
theorem dX10_init_157 : decode cX10_init 157 = .ok (.sipush 1440, 3) := by decide +kernel
theorem dX10_init_160 : decode cX10_init 160 = .ok (.newarray .int, 2) := by decide +kernel
theorem dX10_init_162 : decode cX10_init 162 = .ok (.putfield 68, 3) := by decide +kernel
theorem dX10_init_165 : decode cX10_init 165 = .ok (.aload_n 0, 1) := by decide +kernel
theorem dX10_init_166 : decode cX10_init 166 = .ok (.bipush 8, 2) := by decide +kernel
theorem dX10_init_168 : decode cX10_init 168 = .ok (.newarray .int, 2) := by decide +kernel
theorem dX10_init_170 : decode cX10_init 170 = .ok (.putfield 71, 3) := by decide +kernel
theorem dX10_init_173 : decode cX10_init 173 = .ok (.aload_n 0, 1) := by decide +kernel
theorem dX10_init_174 : decode cX10_init 174 = .ok (.bipush 8, 2) := by decide +kernel
theorem dX10_init_176 : decode cX10_init 176 = .ok (.newarray .int, 2) := by decide +kernel
theorem dX10_init_178 : decode cX10_init 178 = .ok (.putfield 74, 3) := by decide +kernel
theorem dX10_init_181 : decode cX10_init 181 = .ok (.aload_n 0, 1) := by decide +kernel
theorem dX10_init_182 : decode cX10_init 182 = .ok (.bipush 8, 2) := by decide +kernel
theorem dX10_init_184 : decode cX10_init 184 = .ok (.newarray .int, 2) := by decide +kernel
theorem dX10_init_186 : decode cX10_init 186 = .ok (.putfield 77, 3) := by decide +kernel
theorem dX10_init_189 : decode cX10_init 189 = .ok (.aload_n 0, 1) := by decide +kernel
theorem dX10_init_190 : decode cX10_init 190 = .ok (.bipush 8, 2) := by decide +kernel
theorem dX10_init_192 : decode cX10_init 192 = .ok (.newarray .int, 2) := by decide +kernel
theorem dX10_init_194 : decode cX10_init 194 = .ok (.putfield 80, 3) := by decide +kernel
theorem dX10_init_197 : decode cX10_init 197 = .ok (.aload_n 0, 1) := by decide +kernel
theorem dX10_init_198 : decode cX10_init 198 = .ok (.bipush 8, 2) := by decide +kernel
theorem dX10_init_200 : decode cX10_init 200 = .ok (.newarray .int, 2) := by decide +kernel
theorem dX10_init_202 : decode cX10_init 202 = .ok (.putfield 83, 3) := by decide +kernel
theorem dX10_init_205 : decode cX10_init 205 = .ok (.aload_n 0, 1) := by decide +kernel
theorem dX10_init_206 : decode cX10_init 206 = .ok (.bipush 8, 2) := by decide +kernel
theorem dX10_init_208 : decode cX10_init 208 = .ok (.newarray .boolean, 2) := by decide +kernel
theorem dX10_init_210 : decode cX10_init 210 = .ok (.putfield 86, 3) := by decide +kernel
theorem dX10_init_213 : decode cX10_init 213 = .ok (.aload_n 0, 1) := by decide +kernel
theorem dX10_init_214 : decode cX10_init 214 = .ok (.bipush 8, 2) := by decide +kernel
theorem dX10_init_216 : decode cX10_init 216 = .ok (.newarray .int, 2) := by decide +kernel
theorem dX10_init_218 : decode cX10_init 218 = .ok (.putfield 90, 3) := by decide +kernel
theorem dX10_init_221 : decode cX10_init 221 = .ok (.aload_n 0, 1) := by decide +kernel
theorem dX10_init_222 : decode cX10_init 222 = .ok (.bipush 8, 2) := by decide +kernel
theorem dX10_init_224 : decode cX10_init 224 = .ok (.newarray .int, 2) := by decide +kernel
theorem dX10_init_226 : decode cX10_init 226 = .ok (.putfield 93, 3) := by decide +kernel
theorem dX10_init_229 : decode cX10_init 229 = .ok (.aload_n 0, 1) := by decide +kernel
theorem dX10_init_230 : decode cX10_init 230 = .ok (.bipush 8, 2) := by decide +kernel
theorem dX10_init_232 : decode cX10_init 232 = .ok (.newarray .int, 2) := by decide +kernel
theorem dX10_init_234 : decode cX10_init 234 = .ok (.putfield 96, 3) := by decide +kernel
theorem dX10_init_237 : decode cX10_init 237 = .ok (.aload_n 0, 1) := by decide +kernel
theorem dX10_init_238 : decode cX10_init 238 = .ok (.bipush 8, 2) := by decide +kernel
theorem dX10_init_240 : decode cX10_init 240 = .ok (.newarray .int, 2) := by decide +kernel
theorem dX10_init_242 : decode cX10_init 242 = .ok (.putfield 99, 3) := by decide +kernel
theorem dX10_init_245 : decode cX10_init 245 = .ok (.aload_n 0, 1) := by decide +kernel
theorem dX10_init_246 : decode cX10_init 246 = .ok (.bipush 8, 2) := by decide +kernel
theorem dX10_init_248 : decode cX10_init 248 = .ok (.newarray .int, 2) := by decide +kernel
theorem dX10_init_250 : decode cX10_init 250 = .ok (.putfield 102, 3) := by decide +kernel
theorem dX10_init_253 : decode cX10_init 253 = .ok (.aload_n 0, 1) := by decide +kernel
theorem dX10_init_254 : decode cX10_init 254 = .ok (.bipush 8, 2) := by decide +kernel
theorem dX10_init_256 : decode cX10_init 256 = .ok (.newarray .int, 2) := by decide +kernel
theorem dX10_init_258 : decode cX10_init 258 = .ok (.putfield 105, 3) := by decide +kernel
theorem dX10_init_261 : decode cX10_init 261 = .ok (.aload_n 0, 1) := by decide +kernel
theorem dX10_init_262 : decode cX10_init 262 = .ok (.bipush 8, 2) := by decide +kernel
theorem dX10_init_264 : decode cX10_init 264 = .ok (.newarray .long, 2) := by decide +kernel
theorem dX10_init_266 : decode cX10_init 266 = .ok (.putfield 108, 3) := by decide +kernel
theorem dX10_init_269 : decode cX10_init 269 = .ok (.aload_n 0, 1) := by decide +kernel
theorem dX10_init_270 : decode cX10_init 270 = .ok (.bipush 6, 2) := by decide +kernel
theorem dX10_init_272 : decode cX10_init 272 = .ok (.newarray .int, 2) := by decide +kernel
theorem dX10_init_274 : decode cX10_init 274 = .ok (.putfield 111, 3) := by decide +kernel
theorem dX10_init_277 : decode cX10_init 277 = .ok (.aload_n 0, 1) := by decide +kernel
theorem dX10_init_278 : decode cX10_init 278 = .ok (.bipush 6, 2) := by decide +kernel
theorem dX10_init_280 : decode cX10_init 280 = .ok (.newarray .int, 2) := by decide +kernel
theorem dX10_init_282 : decode cX10_init 282 = .ok (.putfield 114, 3) := by decide +kernel
theorem dX10_init_285 : decode cX10_init 285 = .ok (.aload_n 0, 1) := by decide +kernel
theorem dX10_init_286 : decode cX10_init 286 = .ok (.bipush 10, 2) := by decide +kernel
theorem dX10_init_288 : decode cX10_init 288 = .ok (.newarray .int, 2) := by decide +kernel
theorem dX10_init_290 : decode cX10_init 290 = .ok (.putfield 117, 3) := by decide +kernel
theorem dX10_init_293 : decode cX10_init 293 = .ok (.aload_n 0, 1) := by decide +kernel
theorem dX10_init_294 : decode cX10_init 294 = .ok (.bipush 10, 2) := by decide +kernel
theorem dX10_init_296 : decode cX10_init 296 = .ok (.newarray .int, 2) := by decide +kernel
theorem dX10_init_298 : decode cX10_init 298 = .ok (.putfield 120, 3) := by decide +kernel
theorem dX10_init_301 : decode cX10_init 301 = .ok (.aload_n 0, 1) := by decide +kernel
theorem dX10_init_302 : decode cX10_init 302 = .ok (.bipush 10, 2) := by decide +kernel
theorem dX10_init_304 : decode cX10_init 304 = .ok (.newarray .int, 2) := by decide +kernel
theorem dX10_init_306 : decode cX10_init 306 = .ok (.putfield 123, 3) := by decide +kernel
theorem dX10_init_309 : decode cX10_init 309 = .ok (.aload_n 0, 1) := by decide +kernel
theorem dX10_init_310 : decode cX10_init 310 = .ok (.sipush 26466, 3) := by decide +kernel
theorem dX10_init_313 : decode cX10_init 313 = .ok (.newarray .long, 2) := by decide +kernel
theorem dX10_init_315 : decode cX10_init 315 = .ok (.putfield 126, 3) := by decide +kernel
theorem dX10_init_318 : decode cX10_init 318 = .ok (.aload_n 0, 1) := by decide +kernel
theorem dX10_init_319 : decode cX10_init 319 = .ok (.bipush 10, 2) := by decide +kernel
theorem dX10_init_321 : decode cX10_init 321 = .ok (.newarray .int, 2) := by decide +kernel
theorem dX10_init_323 : decode cX10_init 323 = .ok (.putfield 129, 3) := by decide +kernel
theorem dX10_init_326 : decode cX10_init 326 = .ok (.aload_n 0, 1) := by decide +kernel
theorem dX10_init_327 : decode cX10_init 327 = .ok (.bipush 10, 2) := by decide +kernel
theorem dX10_init_329 : decode cX10_init 329 = .ok (.newarray .int, 2) := by decide +kernel
theorem dX10_init_331 : decode cX10_init 331 = .ok (.putfield 132, 3) := by decide +kernel
theorem dX10_init_334 : decode cX10_init 334 = .ok (.aload_n 0, 1) := by decide +kernel
theorem dX10_init_335 : decode cX10_init 335 = .ok (.bipush 10, 2) := by decide +kernel
theorem dX10_init_337 : decode cX10_init 337 = .ok (.newarray .int, 2) := by decide +kernel
theorem dX10_init_339 : decode cX10_init 339 = .ok (.putfield 135, 3) := by decide +kernel
theorem dX10_init_342 : decode cX10_init 342 = .ok (.aload_n 0, 1) := by decide +kernel
theorem dX10_init_343 : decode cX10_init 343 = .ok (.iload_n 1, 1) := by decide +kernel
theorem dX10_init_344 : decode cX10_init 344 = .ok (.iconst 1, 1) := by decide +kernel
theorem dX10_init_345 : decode cX10_init 345 = .ok (.if_icmp .ge 7, 3) := by decide +kernel
theorem dX10_init_348 : decode cX10_init 348 = .ok (.iconst 1, 1) := by decide +kernel
theorem dX10_init_349 : decode cX10_init 349 = .ok (.goto 15, 3) := by decide +kernel
theorem dX10_init_352 : decode cX10_init 352 = .ok (.iload_n 1, 1) := by decide +kernel
theorem dX10_init_353 : decode cX10_init 353 = .ok (.bipush 24, 2) := by decide +kernel
theorem dX10_init_355 : decode cX10_init 355 = .ok (.if_icmp .le 8, 3) := by decide +kernel
theorem dX10_init_358 : decode cX10_init 358 = .ok (.bipush 24, 2) := by decide +kernel
theorem dX10_init_360 : decode cX10_init 360 = .ok (.goto 4, 3) := by decide +kernel
theorem dX10_init_363 : decode cX10_init 363 = .ok (.iload_n 1, 1) := by decide +kernel
theorem dX10_init_364 : decode cX10_init 364 = .ok (.putfield 138, 3) := by decide +kernel
theorem dX10_init_367 : decode cX10_init 367 = .ok (.return_, 1) := by decide +kernel
theorem dX10_is_0 : decode cX10_is 0 = .ok (.iload_n 0, 1) := by decide +kernel
theorem dX10_is_1 : decode cX10_is 1 = .ok (.iload_n 1, 1) := by decide +kernel
theorem dX10_is_2 : decode cX10_is 2 = .ok (.if_icmp .lt 12, 3) := by decide +kernel
theorem dX10_is_5 : decode cX10_is 5 = .ok (.iload_n 0, 1) := by decide +kernel
theorem dX10_is_6 : decode cX10_is 6 = .ok (.iload_n 2, 1) := by decide +kernel
theorem dX10_is_7 : decode cX10_is 7 = .ok (.if_icmp .gt 7, 3) := by decide +kernel
theorem dX10_is_10 : decode cX10_is 10 = .ok (.iconst 1, 1) := by decide +kernel
theorem dX10_is_11 : decode cX10_is 11 = .ok (.goto 4, 3) := by decide +kernel
theorem dX10_is_14 : decode cX10_is 14 = .ok (.iconst 0, 1) := by decide +kernel
theorem dX10_is_15 : decode cX10_is 15 = .ok (.ireturn, 1) := by decide +kernel
theorem dX10_isNode_0 : decode cX10_isNode 0 = .ok (.iload_n 1, 1) := by decide +kernel
theorem dX10_isNode_1 : decode cX10_isNode 1 = .ok (.iconst 0, 1) := by decide +kernel
theorem dX10_isNode_2 : decode cX10_isNode 2 = .ok (.aload_n 0, 1) := by decide +kernel
theorem dX10_isNode_3 : decode cX10_isNode 3 = .ok (.getfield 142, 3) := by decide +kernel
theorem dX10_isNode_6 : decode cX10_isNode 6 = .ok (.iconst 1, 1) := by decide +kernel
theorem dX10_isNode_7 : decode cX10_isNode 7 = .ok (.isub, 1) := by decide +kernel
theorem dX10_isNode_8 : decode cX10_isNode 8 = .ok (.invokestatic 145, 3) := by decide +kernel
theorem dX10_isNode_11 : decode cX10_isNode 11 = .ok (.ireturn, 1) := by decide +kernel
theorem dX10_node_0 : decode cX10_node 0 = .ok (.aload_n 0, 1) := by decide +kernel
theorem dX10_node_1 : decode cX10_node 1 = .ok (.getfield 142, 3) := by decide +kernel
theorem dX10_node_4 : decode cX10_node 4 = .ok (.aload_n 0, 1) := by decide +kernel
theorem dX10_node_5 : decode cX10_node 5 = .ok (.getfield 138, 3) := by decide +kernel
theorem dX10_node_8 : decode cX10_node 8 = .ok (.if_icmp .eq 40, 3) := by decide +kernel
theorem dX10_node_11 : decode cX10_node 11 = .ok (.iload_n 1, 1) := by decide +kernel
theorem dX10_node_12 : decode cX10_node 12 = .ok (.ldc 149, 2) := by decide +kernel
theorem dX10_node_14 : decode cX10_node 14 = .ok (.ldc 150, 2) := by decide +kernel
theorem dX10_node_16 : decode cX10_node 16 = .ok (.invokestatic 145, 3) := by decide +kernel
theorem dX10_node_19 : decode cX10_node 19 = .ok (.ifCond .eq 29, 3) := by decide +kernel
theorem dX10_node_22 : decode cX10_node 22 = .ok (.iload_n 2, 1) := by decide +kernel
theorem dX10_node_23 : decode cX10_node 23 = .ok (.ldc 149, 2) := by decide +kernel
theorem dX10_node_25 : decode cX10_node 25 = .ok (.ldc 150, 2) := by decide +kernel
theorem dX10_node_27 : decode cX10_node 27 = .ok (.invokestatic 145, 3) := by decide +kernel
theorem dX10_node_30 : decode cX10_node 30 = .ok (.ifCond .eq 18, 3) := by decide +kernel
theorem dX10_node_33 : decode cX10_node 33 = .ok (.iload_n 2, 1) := by decide +kernel
theorem dX10_node_34 : decode cX10_node 34 = .ok (.iload_n 1, 1) := by decide +kernel
theorem dX10_node_35 : decode cX10_node 35 = .ok (.if_icmp .ge 13, 3) := by decide +kernel
theorem dX10_node_38 : decode cX10_node 38 = .ok (.iload_n 3, 1) := by decide +kernel
theorem dX10_node_39 : decode cX10_node 39 = .ok (.iconst 1, 1) := by decide +kernel
theorem dX10_node_40 : decode cX10_node 40 = .ok (.ldc 150, 2) := by decide +kernel
theorem dX10_node_42 : decode cX10_node 42 = .ok (.invokestatic 145, 3) := by decide +kernel
theorem dX10_node_45 : decode cX10_node 45 = .ok (.ifCond .ne 5, 3) := by decide +kernel
theorem dX10_node_48 : decode cX10_node 48 = .ok (.iconst (-1), 1) := by decide +kernel
theorem dX10_node_49 : decode cX10_node 49 = .ok (.ireturn, 1) := by decide +kernel
theorem dX10_node_50 : decode cX10_node 50 = .ok (.aload_n 0, 1) := by decide +kernel
theorem dX10_node_51 : decode cX10_node 51 = .ok (.getfield 7, 3) := by decide +kernel
theorem dX10_node_54 : decode cX10_node 54 = .ok (.aload_n 0, 1) := by decide +kernel
theorem dX10_node_55 : decode cX10_node 55 = .ok (.getfield 142, 3) := by decide +kernel
theorem dX10_node_58 : decode cX10_node 58 = .ok (.iload_n 1, 1) := by decide +kernel
theorem dX10_node_59 : decode cX10_node 59 = .ok (.iastore, 1) := by decide +kernel
theorem dX10_node_60 : decode cX10_node 60 = .ok (.aload_n 0, 1) := by decide +kernel
theorem dX10_node_61 : decode cX10_node 61 = .ok (.getfield 13, 3) := by decide +kernel
theorem dX10_node_64 : decode cX10_node 64 = .ok (.aload_n 0, 1) := by decide +kernel
theorem dX10_node_65 : decode cX10_node 65 = .ok (.getfield 142, 3) := by decide +kernel
theorem dX10_node_68 : decode cX10_node 68 = .ok (.iload_n 2, 1) := by decide +kernel
theorem dX10_node_69 : decode cX10_node 69 = .ok (.iastore, 1) := by decide +kernel
theorem dX10_node_70 : decode cX10_node 70 = .ok (.aload_n 0, 1) := by decide +kernel
theorem dX10_node_71 : decode cX10_node 71 = .ok (.getfield 16, 3) := by decide +kernel
theorem dX10_node_74 : decode cX10_node 74 = .ok (.aload_n 0, 1) := by decide +kernel
theorem dX10_node_75 : decode cX10_node 75 = .ok (.getfield 142, 3) := by decide +kernel
theorem dX10_node_78 : decode cX10_node 78 = .ok (.iload_n 3, 1) := by decide +kernel
theorem dX10_node_79 : decode cX10_node 79 = .ok (.iastore, 1) := by decide +kernel
theorem dX10_node_80 : decode cX10_node 80 = .ok (.aload_n 0, 1) := by decide +kernel
theorem dX10_node_81 : decode cX10_node 81 = .ok (.getfield 19, 3) := by decide +kernel
theorem dX10_node_84 : decode cX10_node 84 = .ok (.aload_n 0, 1) := by decide +kernel
theorem dX10_node_85 : decode cX10_node 85 = .ok (.getfield 142, 3) := by decide +kernel
theorem dX10_node_88 : decode cX10_node 88 = .ok (.iconst (-1), 1) := by decide +kernel
theorem dX10_node_89 : decode cX10_node 89 = .ok (.iastore, 1) := by decide +kernel
theorem dX10_node_90 : decode cX10_node 90 = .ok (.aload_n 0, 1) := by decide +kernel
theorem dX10_node_91 : decode cX10_node 91 = .ok (.dup, 1) := by decide +kernel
theorem dX10_node_92 : decode cX10_node 92 = .ok (.getfield 142, 3) := by decide +kernel
theorem dX10_node_95 : decode cX10_node 95 = .ok (.iconst 1, 1) := by decide +kernel
theorem dX10_node_96 : decode cX10_node 96 = .ok (.iadd, 1) := by decide +kernel
theorem dX10_node_97 : decode cX10_node 97 = .ok (.putfield 142, 3) := by decide +kernel
theorem dX10_node_100 : decode cX10_node 100 = .ok (.aload_n 0, 1) := by decide +kernel
theorem dX10_node_101 : decode cX10_node 101 = .ok (.getfield 142, 3) := by decide +kernel
theorem dX10_node_104 : decode cX10_node 104 = .ok (.iconst 1, 1) := by decide +kernel
theorem dX10_node_105 : decode cX10_node 105 = .ok (.isub, 1) := by decide +kernel
theorem dX10_node_106 : decode cX10_node 106 = .ok (.ireturn, 1) := by decide +kernel
theorem dX10_pipe_0 : decode cX10_pipe 0 = .ok (.aload_n 0, 1) := by decide +kernel
theorem dX10_pipe_1 : decode cX10_pipe 1 = .ok (.getfield 151, 3) := by decide +kernel
theorem dX10_pipe_4 : decode cX10_pipe 4 = .ok (.bipush 40, 2) := by decide +kernel
theorem dX10_pipe_6 : decode cX10_pipe 6 = .ok (.if_icmp .eq 48, 3) := by decide +kernel
theorem dX10_pipe_9 : decode cX10_pipe 9 = .ok (.aload_n 0, 1) := by decide +kernel
theorem dX10_pipe_10 : decode cX10_pipe 10 = .ok (.iload_n 1, 1) := by decide +kernel
theorem dX10_pipe_11 : decode cX10_pipe 11 = .ok (.invokevirtual 154, 3) := by decide +kernel
theorem dX10_pipe_14 : decode cX10_pipe 14 = .ok (.ifCond .eq 40, 3) := by decide +kernel
theorem dX10_pipe_17 : decode cX10_pipe 17 = .ok (.aload_n 0, 1) := by decide +kernel
theorem dX10_pipe_18 : decode cX10_pipe 18 = .ok (.iload_n 2, 1) := by decide +kernel
theorem dX10_pipe_19 : decode cX10_pipe 19 = .ok (.invokevirtual 154, 3) := by decide +kernel
theorem dX10_pipe_22 : decode cX10_pipe 22 = .ok (.ifCond .eq 32, 3) := by decide +kernel
theorem dX10_pipe_25 : decode cX10_pipe 25 = .ok (.iload_n 1, 1) := by decide +kernel
theorem dX10_pipe_26 : decode cX10_pipe 26 = .ok (.iload_n 2, 1) := by decide +kernel
theorem dX10_pipe_27 : decode cX10_pipe 27 = .ok (.if_icmp .eq 27, 3) := by decide +kernel
theorem dX10_pipe_30 : decode cX10_pipe 30 = .ok (.iload_n 3, 1) := by decide +kernel
theorem dX10_pipe_31 : decode cX10_pipe 31 = .ok (.iconst 1, 1) := by decide +kernel
theorem dX10_pipe_32 : decode cX10_pipe 32 = .ok (.sipush 10000, 3) := by decide +kernel
theorem dX10_pipe_35 : decode cX10_pipe 35 = .ok (.invokestatic 145, 3) := by decide +kernel
theorem dX10_pipe_38 : decode cX10_pipe 38 = .ok (.ifCond .eq 16, 3) := by decide +kernel
theorem dX10_pipe_41 : decode cX10_pipe 41 = .ok (.iload 4, 2) := by decide +kernel
theorem dX10_pipe_43 : decode cX10_pipe 43 = .ok (.bipush 10, 2) := by decide +kernel
theorem dX10_pipe_45 : decode cX10_pipe 45 = .ok (.sipush 3000, 3) := by decide +kernel
theorem dX10_pipe_48 : decode cX10_pipe 48 = .ok (.invokestatic 145, 3) := by decide +kernel
theorem dX10_pipe_51 : decode cX10_pipe 51 = .ok (.ifCond .ne 5, 3) := by decide +kernel
theorem dX10_pipe_54 : decode cX10_pipe 54 = .ok (.iconst (-1), 1) := by decide +kernel
theorem dX10_pipe_55 : decode cX10_pipe 55 = .ok (.ireturn, 1) := by decide +kernel
theorem dX10_pipe_56 : decode cX10_pipe 56 = .ok (.aload_n 0, 1) := by decide +kernel
theorem dX10_pipe_57 : decode cX10_pipe 57 = .ok (.getfield 35, 3) := by decide +kernel
theorem dX10_pipe_60 : decode cX10_pipe 60 = .ok (.aload_n 0, 1) := by decide +kernel
theorem dX10_pipe_61 : decode cX10_pipe 61 = .ok (.getfield 151, 3) := by decide +kernel
theorem dX10_pipe_64 : decode cX10_pipe 64 = .ok (.iload_n 1, 1) := by decide +kernel
theorem dX10_pipe_65 : decode cX10_pipe 65 = .ok (.iastore, 1) := by decide +kernel
theorem dX10_pipe_66 : decode cX10_pipe 66 = .ok (.aload_n 0, 1) := by decide +kernel
theorem dX10_pipe_67 : decode cX10_pipe 67 = .ok (.getfield 38, 3) := by decide +kernel
theorem dX10_pipe_70 : decode cX10_pipe 70 = .ok (.aload_n 0, 1) := by decide +kernel
theorem dX10_pipe_71 : decode cX10_pipe 71 = .ok (.getfield 151, 3) := by decide +kernel
theorem dX10_pipe_74 : decode cX10_pipe 74 = .ok (.iload_n 2, 1) := by decide +kernel
theorem dX10_pipe_75 : decode cX10_pipe 75 = .ok (.iastore, 1) := by decide +kernel
theorem dX10_pipe_76 : decode cX10_pipe 76 = .ok (.aload_n 0, 1) := by decide +kernel
theorem dX10_pipe_77 : decode cX10_pipe 77 = .ok (.getfield 41, 3) := by decide +kernel
theorem dX10_pipe_80 : decode cX10_pipe 80 = .ok (.aload_n 0, 1) := by decide +kernel
theorem dX10_pipe_81 : decode cX10_pipe 81 = .ok (.getfield 151, 3) := by decide +kernel
theorem dX10_pipe_84 : decode cX10_pipe 84 = .ok (.iload_n 3, 1) := by decide +kernel
theorem dX10_pipe_85 : decode cX10_pipe 85 = .ok (.iastore, 1) := by decide +kernel
theorem dX10_pipe_86 : decode cX10_pipe 86 = .ok (.aload_n 0, 1) := by decide +kernel
theorem dX10_pipe_87 : decode cX10_pipe 87 = .ok (.getfield 44, 3) := by decide +kernel
theorem dX10_pipe_90 : decode cX10_pipe 90 = .ok (.aload_n 0, 1) := by decide +kernel
theorem dX10_pipe_91 : decode cX10_pipe 91 = .ok (.getfield 151, 3) := by decide +kernel
theorem dX10_pipe_94 : decode cX10_pipe 94 = .ok (.iload 4, 2) := by decide +kernel
theorem dX10_pipe_96 : decode cX10_pipe 96 = .ok (.iastore, 1) := by decide +kernel
theorem dX10_pipe_97 : decode cX10_pipe 97 = .ok (.aload_n 0, 1) := by decide +kernel
theorem dX10_pipe_98 : decode cX10_pipe 98 = .ok (.dup, 1) := by decide +kernel
theorem dX10_pipe_99 : decode cX10_pipe 99 = .ok (.getfield 151, 3) := by decide +kernel
theorem dX10_pipe_102 : decode cX10_pipe 102 = .ok (.iconst 1, 1) := by decide +kernel
theorem dX10_pipe_103 : decode cX10_pipe 103 = .ok (.iadd, 1) := by decide +kernel
theorem dX10_pipe_104 : decode cX10_pipe 104 = .ok (.putfield 151, 3) := by decide +kernel
theorem dX10_pipe_107 : decode cX10_pipe 107 = .ok (.aload_n 0, 1) := by decide +kernel
theorem dX10_pipe_108 : decode cX10_pipe 108 = .ok (.getfield 151, 3) := by decide +kernel
theorem dX10_pipe_111 : decode cX10_pipe 111 = .ok (.iconst 1, 1) := by decide +kernel
theorem dX10_pipe_112 : decode cX10_pipe 112 = .ok (.isub, 1) := by decide +kernel
theorem dX10_pipe_113 : decode cX10_pipe 113 = .ok (.ireturn, 1) := by decide +kernel
theorem dX10_area_0 : decode cX10_area 0 = .ok (.aload_n 0, 1) := by decide +kernel
theorem dX10_area_1 : decode cX10_area 1 = .ok (.getfield 158, 3) := by decide +kernel
theorem dX10_area_4 : decode cX10_area 4 = .ok (.bipush 24, 2) := by decide +kernel
theorem dX10_area_6 : decode cX10_area 6 = .ok (.if_icmp .eq 32, 3) := by decide +kernel
theorem dX10_area_9 : decode cX10_area 9 = .ok (.aload_n 0, 1) := by decide +kernel
theorem dX10_area_10 : decode cX10_area 10 = .ok (.iload_n 1, 1) := by decide +kernel
theorem dX10_area_11 : decode cX10_area 11 = .ok (.invokevirtual 154, 3) := by decide +kernel
theorem dX10_area_14 : decode cX10_area 14 = .ok (.ifCond .eq 24, 3) := by decide +kernel
theorem dX10_area_17 : decode cX10_area 17 = .ok (.iload_n 2, 1) := by decide +kernel
theorem dX10_area_18 : decode cX10_area 18 = .ok (.iconst 1, 1) := by decide +kernel
theorem dX10_area_19 : decode cX10_area 19 = .ok (.ldc 161, 2) := by decide +kernel
theorem dX10_area_21 : decode cX10_area 21 = .ok (.invokestatic 145, 3) := by decide +kernel
theorem dX10_area_24 : decode cX10_area 24 = .ok (.ifCond .eq 14, 3) := by decide +kernel
theorem dX10_area_27 : decode cX10_area 27 = .ok (.iload_n 3, 1) := by decide +kernel
theorem dX10_area_28 : decode cX10_area 28 = .ok (.iconst 0, 1) := by decide +kernel
theorem dX10_area_29 : decode cX10_area 29 = .ok (.sipush 1000, 3) := by decide +kernel
theorem dX10_area_32 : decode cX10_area 32 = .ok (.invokestatic 145, 3) := by decide +kernel
theorem dX10_area_35 : decode cX10_area 35 = .ok (.ifCond .ne 5, 3) := by decide +kernel
theorem dX10_area_38 : decode cX10_area 38 = .ok (.iconst (-1), 1) := by decide +kernel
theorem dX10_area_39 : decode cX10_area 39 = .ok (.ireturn, 1) := by decide +kernel
theorem dX10_area_40 : decode cX10_area 40 = .ok (.aload_n 0, 1) := by decide +kernel
theorem dX10_area_41 : decode cX10_area 41 = .ok (.getfield 56, 3) := by decide +kernel
theorem dX10_area_44 : decode cX10_area 44 = .ok (.aload_n 0, 1) := by decide +kernel
theorem dX10_area_45 : decode cX10_area 45 = .ok (.getfield 158, 3) := by decide +kernel
theorem dX10_area_48 : decode cX10_area 48 = .ok (.iload_n 1, 1) := by decide +kernel
theorem dX10_area_49 : decode cX10_area 49 = .ok (.iastore, 1) := by decide +kernel
theorem dX10_area_50 : decode cX10_area 50 = .ok (.aload_n 0, 1) := by decide +kernel
theorem dX10_area_51 : decode cX10_area 51 = .ok (.getfield 59, 3) := by decide +kernel
theorem dX10_area_54 : decode cX10_area 54 = .ok (.aload_n 0, 1) := by decide +kernel
theorem dX10_area_55 : decode cX10_area 55 = .ok (.getfield 158, 3) := by decide +kernel
theorem dX10_area_58 : decode cX10_area 58 = .ok (.iload_n 2, 1) := by decide +kernel
theorem dX10_area_59 : decode cX10_area 59 = .ok (.iastore, 1) := by decide +kernel
theorem dX10_area_60 : decode cX10_area 60 = .ok (.aload_n 0, 1) := by decide +kernel
theorem dX10_area_61 : decode cX10_area 61 = .ok (.getfield 62, 3) := by decide +kernel
theorem dX10_area_64 : decode cX10_area 64 = .ok (.aload_n 0, 1) := by decide +kernel
theorem dX10_area_65 : decode cX10_area 65 = .ok (.getfield 158, 3) := by decide +kernel
theorem dX10_area_68 : decode cX10_area 68 = .ok (.iload_n 3, 1) := by decide +kernel
theorem dX10_area_69 : decode cX10_area 69 = .ok (.iastore, 1) := by decide +kernel
theorem dX10_area_70 : decode cX10_area 70 = .ok (.aload_n 0, 1) := by decide +kernel
theorem dX10_area_71 : decode cX10_area 71 = .ok (.dup, 1) := by decide +kernel
theorem dX10_area_72 : decode cX10_area 72 = .ok (.getfield 158, 3) := by decide +kernel
theorem dX10_area_75 : decode cX10_area 75 = .ok (.iconst 1, 1) := by decide +kernel
theorem dX10_area_76 : decode cX10_area 76 = .ok (.iadd, 1) := by decide +kernel
theorem dX10_area_77 : decode cX10_area 77 = .ok (.putfield 158, 3) := by decide +kernel
theorem dX10_area_80 : decode cX10_area 80 = .ok (.aload_n 0, 1) := by decide +kernel
theorem dX10_area_81 : decode cX10_area 81 = .ok (.getfield 158, 3) := by decide +kernel
theorem dX10_area_84 : decode cX10_area 84 = .ok (.iconst 1, 1) := by decide +kernel
theorem dX10_area_85 : decode cX10_area 85 = .ok (.isub, 1) := by decide +kernel
theorem dX10_area_86 : decode cX10_area 86 = .ok (.ireturn, 1) := by decide +kernel
theorem dX10_rain_0 : decode cX10_rain 0 = .ok (.iload_n 1, 1) := by decide +kernel
theorem dX10_rain_1 : decode cX10_rain 1 = .ok (.iconst 0, 1) := by decide +kernel
theorem dX10_rain_2 : decode cX10_rain 2 = .ok (.sipush 1439, 3) := by decide +kernel
theorem dX10_rain_5 : decode cX10_rain 5 = .ok (.invokestatic 145, 3) := by decide +kernel
theorem dX10_rain_8 : decode cX10_rain 8 = .ok (.ifCond .eq 14, 3) := by decide +kernel
theorem dX10_rain_11 : decode cX10_rain 11 = .ok (.iload_n 2, 1) := by decide +kernel
theorem dX10_rain_12 : decode cX10_rain 12 = .ok (.iconst 0, 1) := by decide +kernel
theorem dX10_rain_13 : decode cX10_rain 13 = .ok (.sipush 20000, 3) := by decide +kernel
theorem dX10_rain_16 : decode cX10_rain 16 = .ok (.invokestatic 145, 3) := by decide +kernel
theorem dX10_rain_19 : decode cX10_rain 19 = .ok (.ifCond .ne 5, 3) := by decide +kernel
theorem dX10_rain_22 : decode cX10_rain 22 = .ok (.iconst (-1), 1) := by decide +kernel
theorem dX10_rain_23 : decode cX10_rain 23 = .ok (.ireturn, 1) := by decide +kernel
theorem dX10_rain_24 : decode cX10_rain 24 = .ok (.aload_n 0, 1) := by decide +kernel
theorem dX10_rain_25 : decode cX10_rain 25 = .ok (.getfield 68, 3) := by decide +kernel
theorem dX10_rain_28 : decode cX10_rain 28 = .ok (.iload_n 1, 1) := by decide +kernel
theorem dX10_rain_29 : decode cX10_rain 29 = .ok (.iaload, 1) := by decide +kernel
theorem dX10_rain_30 : decode cX10_rain 30 = .ok (.istore_n 3, 1) := by decide +kernel
theorem dX10_rain_31 : decode cX10_rain 31 = .ok (.aload_n 0, 1) := by decide +kernel
theorem dX10_rain_32 : decode cX10_rain 32 = .ok (.getfield 68, 3) := by decide +kernel
theorem dX10_rain_35 : decode cX10_rain 35 = .ok (.iload_n 1, 1) := by decide +kernel
theorem dX10_rain_36 : decode cX10_rain 36 = .ok (.iload_n 2, 1) := by decide +kernel
theorem dX10_rain_37 : decode cX10_rain 37 = .ok (.iastore, 1) := by decide +kernel
theorem dX10_rain_38 : decode cX10_rain 38 = .ok (.iload_n 3, 1) := by decide +kernel
theorem dX10_rain_39 : decode cX10_rain 39 = .ok (.ireturn, 1) := by decide +kernel
theorem dX10_pump_0 : decode cX10_pump 0 = .ok (.aload_n 0, 1) := by decide +kernel
theorem dX10_pump_1 : decode cX10_pump 1 = .ok (.getfield 162, 3) := by decide +kernel
theorem dX10_pump_4 : decode cX10_pump 4 = .ok (.bipush 8, 2) := by decide +kernel
theorem dX10_pump_6 : decode cX10_pump 6 = .ok (.if_icmp .eq 41, 3) := by decide +kernel
theorem dX10_pump_9 : decode cX10_pump 9 = .ok (.aload_n 0, 1) := by decide +kernel
theorem dX10_pump_10 : decode cX10_pump 10 = .ok (.iload_n 1, 1) := by decide +kernel
theorem dX10_pump_11 : decode cX10_pump 11 = .ok (.invokevirtual 154, 3) := by decide +kernel
theorem dX10_pump_14 : decode cX10_pump 14 = .ok (.ifCond .eq 33, 3) := by decide +kernel
theorem dX10_pump_17 : decode cX10_pump 17 = .ok (.aload_n 0, 1) := by decide +kernel
theorem dX10_pump_18 : decode cX10_pump 18 = .ok (.iload_n 2, 1) := by decide +kernel
theorem dX10_pump_19 : decode cX10_pump 19 = .ok (.invokevirtual 154, 3) := by decide +kernel
theorem dX10_pump_22 : decode cX10_pump 22 = .ok (.ifCond .eq 25, 3) := by decide +kernel
theorem dX10_pump_25 : decode cX10_pump 25 = .ok (.iload_n 1, 1) := by decide +kernel
theorem dX10_pump_26 : decode cX10_pump 26 = .ok (.iload_n 2, 1) := by decide +kernel
theorem dX10_pump_27 : decode cX10_pump 27 = .ok (.if_icmp .eq 20, 3) := by decide +kernel
theorem dX10_pump_30 : decode cX10_pump 30 = .ok (.iload_n 3, 1) := by decide +kernel
theorem dX10_pump_31 : decode cX10_pump 31 = .ok (.iload 4, 2) := by decide +kernel
theorem dX10_pump_33 : decode cX10_pump 33 = .ok (.if_icmp .le 14, 3) := by decide +kernel
theorem dX10_pump_36 : decode cX10_pump 36 = .ok (.iload 5, 2) := by decide +kernel
theorem dX10_pump_38 : decode cX10_pump 38 = .ok (.iconst 1, 1) := by decide +kernel
theorem dX10_pump_39 : decode cX10_pump 39 = .ok (.ldc 150, 2) := by decide +kernel
theorem dX10_pump_41 : decode cX10_pump 41 = .ok (.invokestatic 145, 3) := by decide +kernel
theorem dX10_pump_44 : decode cX10_pump 44 = .ok (.ifCond .ne 5, 3) := by decide +kernel
theorem dX10_pump_47 : decode cX10_pump 47 = .ok (.iconst (-1), 1) := by decide +kernel
theorem dX10_pump_48 : decode cX10_pump 48 = .ok (.ireturn, 1) := by decide +kernel
theorem dX10_pump_49 : decode cX10_pump 49 = .ok (.aload_n 0, 1) := by decide +kernel
theorem dX10_pump_50 : decode cX10_pump 50 = .ok (.getfield 71, 3) := by decide +kernel
theorem dX10_pump_53 : decode cX10_pump 53 = .ok (.aload_n 0, 1) := by decide +kernel
theorem dX10_pump_54 : decode cX10_pump 54 = .ok (.getfield 162, 3) := by decide +kernel
theorem dX10_pump_57 : decode cX10_pump 57 = .ok (.iload_n 1, 1) := by decide +kernel
theorem dX10_pump_58 : decode cX10_pump 58 = .ok (.iastore, 1) := by decide +kernel
end
section
theorem dX10_pump_59 : decode cX10_pump 59 = .ok (.aload_n 0, 1) := by decide +kernel
theorem dX10_pump_60 : decode cX10_pump 60 = .ok (.getfield 74, 3) := by decide +kernel
theorem dX10_pump_63 : decode cX10_pump 63 = .ok (.aload_n 0, 1) := by decide +kernel
theorem dX10_pump_64 : decode cX10_pump 64 = .ok (.getfield 162, 3) := by decide +kernel
theorem dX10_pump_67 : decode cX10_pump 67 = .ok (.iload_n 2, 1) := by decide +kernel
theorem dX10_pump_68 : decode cX10_pump 68 = .ok (.iastore, 1) := by decide +kernel
theorem dX10_pump_69 : decode cX10_pump 69 = .ok (.aload_n 0, 1) := by decide +kernel
theorem dX10_pump_70 : decode cX10_pump 70 = .ok (.getfield 77, 3) := by decide +kernel
theorem dX10_pump_73 : decode cX10_pump 73 = .ok (.aload_n 0, 1) := by decide +kernel
theorem dX10_pump_74 : decode cX10_pump 74 = .ok (.getfield 162, 3) := by decide +kernel
theorem dX10_pump_77 : decode cX10_pump 77 = .ok (.iload_n 3, 1) := by decide +kernel
theorem dX10_pump_78 : decode cX10_pump 78 = .ok (.iastore, 1) := by decide +kernel
theorem dX10_pump_79 : decode cX10_pump 79 = .ok (.aload_n 0, 1) := by decide +kernel
theorem dX10_pump_80 : decode cX10_pump 80 = .ok (.getfield 80, 3) := by decide +kernel
theorem dX10_pump_83 : decode cX10_pump 83 = .ok (.aload_n 0, 1) := by decide +kernel
theorem dX10_pump_84 : decode cX10_pump 84 = .ok (.getfield 162, 3) := by decide +kernel
theorem dX10_pump_87 : decode cX10_pump 87 = .ok (.iload 4, 2) := by decide +kernel
theorem dX10_pump_89 : decode cX10_pump 89 = .ok (.iastore, 1) := by decide +kernel
theorem dX10_pump_90 : decode cX10_pump 90 = .ok (.aload_n 0, 1) := by decide +kernel
theorem dX10_pump_91 : decode cX10_pump 91 = .ok (.getfield 83, 3) := by decide +kernel
theorem dX10_pump_94 : decode cX10_pump 94 = .ok (.aload_n 0, 1) := by decide +kernel
theorem dX10_pump_95 : decode cX10_pump 95 = .ok (.getfield 162, 3) := by decide +kernel
theorem dX10_pump_98 : decode cX10_pump 98 = .ok (.iload 5, 2) := by decide +kernel
theorem dX10_pump_100 : decode cX10_pump 100 = .ok (.iastore, 1) := by decide +kernel
theorem dX10_pump_101 : decode cX10_pump 101 = .ok (.aload_n 0, 1) := by decide +kernel
theorem dX10_pump_102 : decode cX10_pump 102 = .ok (.dup, 1) := by decide +kernel
theorem dX10_pump_103 : decode cX10_pump 103 = .ok (.getfield 162, 3) := by decide +kernel
theorem dX10_pump_106 : decode cX10_pump 106 = .ok (.iconst 1, 1) := by decide +kernel
theorem dX10_pump_107 : decode cX10_pump 107 = .ok (.iadd, 1) := by decide +kernel
theorem dX10_pump_108 : decode cX10_pump 108 = .ok (.putfield 162, 3) := by decide +kernel
theorem dX10_pump_111 : decode cX10_pump 111 = .ok (.aload_n 0, 1) := by decide +kernel
theorem dX10_pump_112 : decode cX10_pump 112 = .ok (.getfield 162, 3) := by decide +kernel
theorem dX10_pump_115 : decode cX10_pump 115 = .ok (.iconst 1, 1) := by decide +kernel
theorem dX10_pump_116 : decode cX10_pump 116 = .ok (.isub, 1) := by decide +kernel
theorem dX10_pump_117 : decode cX10_pump 117 = .ok (.ireturn, 1) := by decide +kernel
theorem dX10_gate_0 : decode cX10_gate 0 = .ok (.aload_n 0, 1) := by decide +kernel
theorem dX10_gate_1 : decode cX10_gate 1 = .ok (.getfield 165, 3) := by decide +kernel
theorem dX10_gate_4 : decode cX10_gate 4 = .ok (.bipush 8, 2) := by decide +kernel
theorem dX10_gate_6 : decode cX10_gate 6 = .ok (.if_icmp .eq 31, 3) := by decide +kernel
theorem dX10_gate_9 : decode cX10_gate 9 = .ok (.aload_n 0, 1) := by decide +kernel
theorem dX10_gate_10 : decode cX10_gate 10 = .ok (.iload_n 1, 1) := by decide +kernel
theorem dX10_gate_11 : decode cX10_gate 11 = .ok (.invokevirtual 154, 3) := by decide +kernel
theorem dX10_gate_14 : decode cX10_gate 14 = .ok (.ifCond .eq 23, 3) := by decide +kernel
theorem dX10_gate_17 : decode cX10_gate 17 = .ok (.iload_n 2, 1) := by decide +kernel
theorem dX10_gate_18 : decode cX10_gate 18 = .ok (.iconst 0, 1) := by decide +kernel
theorem dX10_gate_19 : decode cX10_gate 19 = .ok (.ldc 168, 2) := by decide +kernel
theorem dX10_gate_21 : decode cX10_gate 21 = .ok (.invokestatic 145, 3) := by decide +kernel
theorem dX10_gate_24 : decode cX10_gate 24 = .ok (.ifCond .eq 13, 3) := by decide +kernel
theorem dX10_gate_27 : decode cX10_gate 27 = .ok (.iload_n 3, 1) := by decide +kernel
theorem dX10_gate_28 : decode cX10_gate 28 = .ok (.iconst 1, 1) := by decide +kernel
theorem dX10_gate_29 : decode cX10_gate 29 = .ok (.ldc 161, 2) := by decide +kernel
theorem dX10_gate_31 : decode cX10_gate 31 = .ok (.invokestatic 145, 3) := by decide +kernel
theorem dX10_gate_34 : decode cX10_gate 34 = .ok (.ifCond .ne 5, 3) := by decide +kernel
theorem dX10_gate_37 : decode cX10_gate 37 = .ok (.iconst (-1), 1) := by decide +kernel
theorem dX10_gate_38 : decode cX10_gate 38 = .ok (.ireturn, 1) := by decide +kernel
theorem dX10_gate_39 : decode cX10_gate 39 = .ok (.aload_n 0, 1) := by decide +kernel
theorem dX10_gate_40 : decode cX10_gate 40 = .ok (.getfield 90, 3) := by decide +kernel
theorem dX10_gate_43 : decode cX10_gate 43 = .ok (.aload_n 0, 1) := by decide +kernel
theorem dX10_gate_44 : decode cX10_gate 44 = .ok (.getfield 165, 3) := by decide +kernel
theorem dX10_gate_47 : decode cX10_gate 47 = .ok (.iload_n 1, 1) := by decide +kernel
theorem dX10_gate_48 : decode cX10_gate 48 = .ok (.iastore, 1) := by decide +kernel
theorem dX10_gate_49 : decode cX10_gate 49 = .ok (.aload_n 0, 1) := by decide +kernel
theorem dX10_gate_50 : decode cX10_gate 50 = .ok (.getfield 93, 3) := by decide +kernel
theorem dX10_gate_53 : decode cX10_gate 53 = .ok (.aload_n 0, 1) := by decide +kernel
theorem dX10_gate_54 : decode cX10_gate 54 = .ok (.getfield 165, 3) := by decide +kernel
theorem dX10_gate_57 : decode cX10_gate 57 = .ok (.iload_n 2, 1) := by decide +kernel
theorem dX10_gate_58 : decode cX10_gate 58 = .ok (.iastore, 1) := by decide +kernel
theorem dX10_gate_59 : decode cX10_gate 59 = .ok (.aload_n 0, 1) := by decide +kernel
theorem dX10_gate_60 : decode cX10_gate 60 = .ok (.getfield 96, 3) := by decide +kernel
theorem dX10_gate_63 : decode cX10_gate 63 = .ok (.aload_n 0, 1) := by decide +kernel
theorem dX10_gate_64 : decode cX10_gate 64 = .ok (.getfield 165, 3) := by decide +kernel
theorem dX10_gate_67 : decode cX10_gate 67 = .ok (.iload_n 3, 1) := by decide +kernel
theorem dX10_gate_68 : decode cX10_gate 68 = .ok (.iastore, 1) := by decide +kernel
theorem dX10_gate_69 : decode cX10_gate 69 = .ok (.aload_n 0, 1) := by decide +kernel
theorem dX10_gate_70 : decode cX10_gate 70 = .ok (.dup, 1) := by decide +kernel
theorem dX10_gate_71 : decode cX10_gate 71 = .ok (.getfield 165, 3) := by decide +kernel
theorem dX10_gate_74 : decode cX10_gate 74 = .ok (.iconst 1, 1) := by decide +kernel
theorem dX10_gate_75 : decode cX10_gate 75 = .ok (.iadd, 1) := by decide +kernel
theorem dX10_gate_76 : decode cX10_gate 76 = .ok (.putfield 165, 3) := by decide +kernel
theorem dX10_gate_79 : decode cX10_gate 79 = .ok (.aload_n 0, 1) := by decide +kernel
theorem dX10_gate_80 : decode cX10_gate 80 = .ok (.getfield 165, 3) := by decide +kernel
theorem dX10_gate_83 : decode cX10_gate 83 = .ok (.iconst 1, 1) := by decide +kernel
theorem dX10_gate_84 : decode cX10_gate 84 = .ok (.isub, 1) := by decide +kernel
theorem dX10_gate_85 : decode cX10_gate 85 = .ok (.ireturn, 1) := by decide +kernel
theorem dX10_gully_0 : decode cX10_gully 0 = .ok (.aload_n 0, 1) := by decide +kernel
theorem dX10_gully_1 : decode cX10_gully 1 = .ok (.getfield 169, 3) := by decide +kernel
theorem dX10_gully_4 : decode cX10_gully 4 = .ok (.bipush 8, 2) := by decide +kernel
theorem dX10_gully_6 : decode cX10_gully 6 = .ok (.if_icmp .eq 31, 3) := by decide +kernel
theorem dX10_gully_9 : decode cX10_gully 9 = .ok (.iload_n 1, 1) := by decide +kernel
theorem dX10_gully_10 : decode cX10_gully 10 = .ok (.iconst 0, 1) := by decide +kernel
theorem dX10_gully_11 : decode cX10_gully 11 = .ok (.bipush 7, 2) := by decide +kernel
theorem dX10_gully_13 : decode cX10_gully 13 = .ok (.invokestatic 145, 3) := by decide +kernel
theorem dX10_gully_16 : decode cX10_gully 16 = .ok (.ifCond .eq 21, 3) := by decide +kernel
theorem dX10_gully_19 : decode cX10_gully 19 = .ok (.aload_n 0, 1) := by decide +kernel
theorem dX10_gully_20 : decode cX10_gully 20 = .ok (.iload_n 2, 1) := by decide +kernel
theorem dX10_gully_21 : decode cX10_gully 21 = .ok (.invokevirtual 154, 3) := by decide +kernel
theorem dX10_gully_24 : decode cX10_gully 24 = .ok (.ifCond .eq 13, 3) := by decide +kernel
theorem dX10_gully_27 : decode cX10_gully 27 = .ok (.iload_n 3, 1) := by decide +kernel
theorem dX10_gully_28 : decode cX10_gully 28 = .ok (.iconst 1, 1) := by decide +kernel
theorem dX10_gully_29 : decode cX10_gully 29 = .ok (.ldc 150, 2) := by decide +kernel
theorem dX10_gully_31 : decode cX10_gully 31 = .ok (.invokestatic 145, 3) := by decide +kernel
theorem dX10_gully_34 : decode cX10_gully 34 = .ok (.ifCond .ne 5, 3) := by decide +kernel
theorem dX10_gully_37 : decode cX10_gully 37 = .ok (.iconst (-1), 1) := by decide +kernel
theorem dX10_gully_38 : decode cX10_gully 38 = .ok (.ireturn, 1) := by decide +kernel
theorem dX10_gully_39 : decode cX10_gully 39 = .ok (.aload_n 0, 1) := by decide +kernel
theorem dX10_gully_40 : decode cX10_gully 40 = .ok (.getfield 99, 3) := by decide +kernel
theorem dX10_gully_43 : decode cX10_gully 43 = .ok (.aload_n 0, 1) := by decide +kernel
theorem dX10_gully_44 : decode cX10_gully 44 = .ok (.getfield 169, 3) := by decide +kernel
theorem dX10_gully_47 : decode cX10_gully 47 = .ok (.iload_n 1, 1) := by decide +kernel
theorem dX10_gully_48 : decode cX10_gully 48 = .ok (.iastore, 1) := by decide +kernel
theorem dX10_gully_49 : decode cX10_gully 49 = .ok (.aload_n 0, 1) := by decide +kernel
theorem dX10_gully_50 : decode cX10_gully 50 = .ok (.getfield 102, 3) := by decide +kernel
theorem dX10_gully_53 : decode cX10_gully 53 = .ok (.aload_n 0, 1) := by decide +kernel
theorem dX10_gully_54 : decode cX10_gully 54 = .ok (.getfield 169, 3) := by decide +kernel
theorem dX10_gully_57 : decode cX10_gully 57 = .ok (.iload_n 2, 1) := by decide +kernel
theorem dX10_gully_58 : decode cX10_gully 58 = .ok (.iastore, 1) := by decide +kernel
theorem dX10_gully_59 : decode cX10_gully 59 = .ok (.aload_n 0, 1) := by decide +kernel
theorem dX10_gully_60 : decode cX10_gully 60 = .ok (.getfield 105, 3) := by decide +kernel
theorem dX10_gully_63 : decode cX10_gully 63 = .ok (.aload_n 0, 1) := by decide +kernel
theorem dX10_gully_64 : decode cX10_gully 64 = .ok (.getfield 169, 3) := by decide +kernel
theorem dX10_gully_67 : decode cX10_gully 67 = .ok (.iload_n 3, 1) := by decide +kernel
theorem dX10_gully_68 : decode cX10_gully 68 = .ok (.iastore, 1) := by decide +kernel
theorem dX10_gully_69 : decode cX10_gully 69 = .ok (.aload_n 0, 1) := by decide +kernel
theorem dX10_gully_70 : decode cX10_gully 70 = .ok (.dup, 1) := by decide +kernel
theorem dX10_gully_71 : decode cX10_gully 71 = .ok (.getfield 169, 3) := by decide +kernel
theorem dX10_gully_74 : decode cX10_gully 74 = .ok (.iconst 1, 1) := by decide +kernel
theorem dX10_gully_75 : decode cX10_gully 75 = .ok (.iadd, 1) := by decide +kernel
theorem dX10_gully_76 : decode cX10_gully 76 = .ok (.putfield 169, 3) := by decide +kernel
theorem dX10_gully_79 : decode cX10_gully 79 = .ok (.aload_n 0, 1) := by decide +kernel
theorem dX10_gully_80 : decode cX10_gully 80 = .ok (.getfield 169, 3) := by decide +kernel
theorem dX10_gully_83 : decode cX10_gully 83 = .ok (.iconst 1, 1) := by decide +kernel
theorem dX10_gully_84 : decode cX10_gully 84 = .ok (.isub, 1) := by decide +kernel
theorem dX10_gully_85 : decode cX10_gully 85 = .ok (.ireturn, 1) := by decide +kernel
theorem dX10_street_0 : decode cX10_street 0 = .ok (.aload_n 0, 1) := by decide +kernel
theorem dX10_street_1 : decode cX10_street 1 = .ok (.iload_n 1, 1) := by decide +kernel
theorem dX10_street_2 : decode cX10_street 2 = .ok (.invokevirtual 154, 3) := by decide +kernel
theorem dX10_street_5 : decode cX10_street 5 = .ok (.ifCond .eq 13, 3) := by decide +kernel
theorem dX10_street_8 : decode cX10_street 8 = .ok (.iload_n 2, 1) := by decide +kernel
theorem dX10_street_9 : decode cX10_street 9 = .ok (.iconst (-1), 1) := by decide +kernel
theorem dX10_street_10 : decode cX10_street 10 = .ok (.bipush 7, 2) := by decide +kernel
theorem dX10_street_12 : decode cX10_street 12 = .ok (.invokestatic 145, 3) := by decide +kernel
theorem dX10_street_15 : decode cX10_street 15 = .ok (.ifCond .ne 6, 3) := by decide +kernel
theorem dX10_street_18 : decode cX10_street 18 = .ok (.bipush (-2), 2) := by decide +kernel
theorem dX10_street_20 : decode cX10_street 20 = .ok (.ireturn, 1) := by decide +kernel
theorem dX10_street_21 : decode cX10_street 21 = .ok (.aload_n 0, 1) := by decide +kernel
theorem dX10_street_22 : decode cX10_street 22 = .ok (.getfield 19, 3) := by decide +kernel
theorem dX10_street_25 : decode cX10_street 25 = .ok (.iload_n 1, 1) := by decide +kernel
theorem dX10_street_26 : decode cX10_street 26 = .ok (.iaload, 1) := by decide +kernel
theorem dX10_street_27 : decode cX10_street 27 = .ok (.istore_n 3, 1) := by decide +kernel
theorem dX10_street_28 : decode cX10_street 28 = .ok (.aload_n 0, 1) := by decide +kernel
theorem dX10_street_29 : decode cX10_street 29 = .ok (.getfield 19, 3) := by decide +kernel
theorem dX10_street_32 : decode cX10_street 32 = .ok (.iload_n 1, 1) := by decide +kernel
theorem dX10_street_33 : decode cX10_street 33 = .ok (.iload_n 2, 1) := by decide +kernel
theorem dX10_street_34 : decode cX10_street 34 = .ok (.iastore, 1) := by decide +kernel
theorem dX10_street_35 : decode cX10_street 35 = .ok (.iload_n 3, 1) := by decide +kernel
theorem dX10_street_36 : decode cX10_street 36 = .ok (.ireturn, 1) := by decide +kernel
theorem dX10_levelOf_0 : decode cX10_levelOf 0 = .ok (.aload_n 0, 1) := by decide +kernel
theorem dX10_levelOf_1 : decode cX10_levelOf 1 = .ok (.getfield 13, 3) := by decide +kernel
theorem dX10_levelOf_4 : decode cX10_levelOf 4 = .ok (.iload_n 1, 1) := by decide +kernel
theorem dX10_levelOf_5 : decode cX10_levelOf 5 = .ok (.iaload, 1) := by decide +kernel
theorem dX10_levelOf_6 : decode cX10_levelOf 6 = .ok (.i2l, 1) := by decide +kernel
theorem dX10_levelOf_7 : decode cX10_levelOf 7 = .ok (.aload_n 0, 1) := by decide +kernel
theorem dX10_levelOf_8 : decode cX10_levelOf 8 = .ok (.getfield 22, 3) := by decide +kernel
theorem dX10_levelOf_11 : decode cX10_levelOf 11 = .ok (.iload_n 1, 1) := by decide +kernel
theorem dX10_levelOf_12 : decode cX10_levelOf 12 = .ok (.laload, 1) := by decide +kernel
theorem dX10_levelOf_13 : decode cX10_levelOf 13 = .ok (.aload_n 0, 1) := by decide +kernel
theorem dX10_levelOf_14 : decode cX10_levelOf 14 = .ok (.getfield 16, 3) := by decide +kernel
theorem dX10_levelOf_17 : decode cX10_levelOf 17 = .ok (.iload_n 1, 1) := by decide +kernel
theorem dX10_levelOf_18 : decode cX10_levelOf 18 = .ok (.iaload, 1) := by decide +kernel
theorem dX10_levelOf_19 : decode cX10_levelOf 19 = .ok (.i2l, 1) := by decide +kernel
theorem dX10_levelOf_20 : decode cX10_levelOf 20 = .ok (.ldiv, 1) := by decide +kernel
theorem dX10_levelOf_21 : decode cX10_levelOf 21 = .ok (.ladd, 1) := by decide +kernel
theorem dX10_levelOf_22 : decode cX10_levelOf 22 = .ok (.lreturn, 1) := by decide +kernel
theorem dX10_fullOf_0 : decode cX10_fullOf 0 = .ok (.aload_n 0, 1) := by decide +kernel
theorem dX10_fullOf_1 : decode cX10_fullOf 1 = .ok (.getfield 16, 3) := by decide +kernel
theorem dX10_fullOf_4 : decode cX10_fullOf 4 = .ok (.iload_n 1, 1) := by decide +kernel
theorem dX10_fullOf_5 : decode cX10_fullOf 5 = .ok (.iaload, 1) := by decide +kernel
theorem dX10_fullOf_6 : decode cX10_fullOf 6 = .ok (.i2l, 1) := by decide +kernel
theorem dX10_fullOf_7 : decode cX10_fullOf 7 = .ok (.aload_n 0, 1) := by decide +kernel
theorem dX10_fullOf_8 : decode cX10_fullOf 8 = .ok (.getfield 7, 3) := by decide +kernel
theorem dX10_fullOf_11 : decode cX10_fullOf 11 = .ok (.iload_n 1, 1) := by decide +kernel
theorem dX10_fullOf_12 : decode cX10_fullOf 12 = .ok (.iaload, 1) := by decide +kernel
theorem dX10_fullOf_13 : decode cX10_fullOf 13 = .ok (.aload_n 0, 1) := by decide +kernel
theorem dX10_fullOf_14 : decode cX10_fullOf 14 = .ok (.getfield 13, 3) := by decide +kernel
theorem dX10_fullOf_17 : decode cX10_fullOf 17 = .ok (.iload_n 1, 1) := by decide +kernel
theorem dX10_fullOf_18 : decode cX10_fullOf 18 = .ok (.iaload, 1) := by decide +kernel
theorem dX10_fullOf_19 : decode cX10_fullOf 19 = .ok (.isub, 1) := by decide +kernel
theorem dX10_fullOf_20 : decode cX10_fullOf 20 = .ok (.i2l, 1) := by decide +kernel
theorem dX10_fullOf_21 : decode cX10_fullOf 21 = .ok (.lmul, 1) := by decide +kernel
theorem dX10_fullOf_22 : decode cX10_fullOf 22 = .ok (.lreturn, 1) := by decide +kernel
theorem dX10_less_0 : decode cX10_less 0 = .ok (.lload_n 0, 1) := by decide +kernel
theorem dX10_less_1 : decode cX10_less 1 = .ok (.lload_n 2, 1) := by decide +kernel
theorem dX10_less_2 : decode cX10_less 2 = .ok (.lcmp, 1) := by decide +kernel
theorem dX10_less_3 : decode cX10_less 3 = .ok (.ifCond .ge 7, 3) := by decide +kernel
theorem dX10_less_6 : decode cX10_less 6 = .ok (.lload_n 0, 1) := by decide +kernel
theorem dX10_less_7 : decode cX10_less 7 = .ok (.goto 4, 3) := by decide +kernel
theorem dX10_less_10 : decode cX10_less 10 = .ok (.lload_n 2, 1) := by decide +kernel
theorem dX10_less_11 : decode cX10_less 11 = .ok (.lreturn, 1) := by decide +kernel
theorem dX10_rainOf_0 : decode cX10_rainOf 0 = .ok (.aload_n 0, 1) := by decide +kernel
theorem dX10_rainOf_1 : decode cX10_rainOf 1 = .ok (.getfield 65, 3) := by decide +kernel
theorem dX10_rainOf_4 : decode cX10_rainOf 4 = .ok (.iload_n 1, 1) := by decide +kernel
theorem dX10_rainOf_5 : decode cX10_rainOf 5 = .ok (.dup2, 1) := by decide +kernel
theorem dX10_rainOf_6 : decode cX10_rainOf 6 = .ok (.laload, 1) := by decide +kernel
theorem dX10_rainOf_7 : decode cX10_rainOf 7 = .ok (.aload_n 0, 1) := by decide +kernel
theorem dX10_rainOf_8 : decode cX10_rainOf 8 = .ok (.getfield 59, 3) := by decide +kernel
theorem dX10_rainOf_11 : decode cX10_rainOf 11 = .ok (.iload_n 1, 1) := by decide +kernel
theorem dX10_rainOf_12 : decode cX10_rainOf 12 = .ok (.iaload, 1) := by decide +kernel
theorem dX10_rainOf_13 : decode cX10_rainOf 13 = .ok (.i2l, 1) := by decide +kernel
theorem dX10_rainOf_14 : decode cX10_rainOf 14 = .ok (.aload_n 0, 1) := by decide +kernel
theorem dX10_rainOf_15 : decode cX10_rainOf 15 = .ok (.getfield 68, 3) := by decide +kernel
theorem dX10_rainOf_18 : decode cX10_rainOf 18 = .ok (.iload_n 2, 1) := by decide +kernel
theorem dX10_rainOf_19 : decode cX10_rainOf 19 = .ok (.iaload, 1) := by decide +kernel
theorem dX10_rainOf_20 : decode cX10_rainOf 20 = .ok (.i2l, 1) := by decide +kernel
theorem dX10_rainOf_21 : decode cX10_rainOf 21 = .ok (.lmul, 1) := by decide +kernel
theorem dX10_rainOf_22 : decode cX10_rainOf 22 = .ok (.sipush 1000, 3) := by decide +kernel
theorem dX10_rainOf_25 : decode cX10_rainOf 25 = .ok (.aload_n 0, 1) := by decide +kernel
theorem dX10_rainOf_26 : decode cX10_rainOf 26 = .ok (.getfield 62, 3) := by decide +kernel
theorem dX10_rainOf_29 : decode cX10_rainOf 29 = .ok (.iload_n 1, 1) := by decide +kernel
theorem dX10_rainOf_30 : decode cX10_rainOf 30 = .ok (.iaload, 1) := by decide +kernel
theorem dX10_rainOf_31 : decode cX10_rainOf 31 = .ok (.isub, 1) := by decide +kernel
theorem dX10_rainOf_32 : decode cX10_rainOf 32 = .ok (.i2l, 1) := by decide +kernel
theorem dX10_rainOf_33 : decode cX10_rainOf 33 = .ok (.lmul, 1) := by decide +kernel
theorem dX10_rainOf_34 : decode cX10_rainOf 34 = .ok (.ladd, 1) := by decide +kernel
theorem dX10_rainOf_35 : decode cX10_rainOf 35 = .ok (.lastore, 1) := by decide +kernel
theorem dX10_rainOf_36 : decode cX10_rainOf 36 = .ok (.aload_n 0, 1) := by decide +kernel
theorem dX10_rainOf_37 : decode cX10_rainOf 37 = .ok (.getfield 65, 3) := by decide +kernel
theorem dX10_rainOf_40 : decode cX10_rainOf 40 = .ok (.iload_n 1, 1) := by decide +kernel
theorem dX10_rainOf_41 : decode cX10_rainOf 41 = .ok (.laload, 1) := by decide +kernel
theorem dX10_rainOf_42 : decode cX10_rainOf 42 = .ok (.ldc2_w 172, 3) := by decide +kernel
theorem dX10_rainOf_45 : decode cX10_rainOf 45 = .ok (.ldiv, 1) := by decide +kernel
theorem dX10_rainOf_46 : decode cX10_rainOf 46 = .ok (.lstore_n 3, 1) := by decide +kernel
theorem dX10_rainOf_47 : decode cX10_rainOf 47 = .ok (.aload_n 0, 1) := by decide +kernel
theorem dX10_rainOf_48 : decode cX10_rainOf 48 = .ok (.getfield 65, 3) := by decide +kernel
theorem dX10_rainOf_51 : decode cX10_rainOf 51 = .ok (.iload_n 1, 1) := by decide +kernel
theorem dX10_rainOf_52 : decode cX10_rainOf 52 = .ok (.dup2, 1) := by decide +kernel
theorem dX10_rainOf_53 : decode cX10_rainOf 53 = .ok (.laload, 1) := by decide +kernel
theorem dX10_rainOf_54 : decode cX10_rainOf 54 = .ok (.lload_n 3, 1) := by decide +kernel
theorem dX10_rainOf_55 : decode cX10_rainOf 55 = .ok (.ldc2_w 172, 3) := by decide +kernel
theorem dX10_rainOf_58 : decode cX10_rainOf 58 = .ok (.lmul, 1) := by decide +kernel
theorem dX10_rainOf_59 : decode cX10_rainOf 59 = .ok (.lsub, 1) := by decide +kernel
theorem dX10_rainOf_60 : decode cX10_rainOf 60 = .ok (.lastore, 1) := by decide +kernel
theorem dX10_rainOf_61 : decode cX10_rainOf 61 = .ok (.aload_n 0, 1) := by decide +kernel
theorem dX10_rainOf_62 : decode cX10_rainOf 62 = .ok (.getfield 22, 3) := by decide +kernel
theorem dX10_rainOf_65 : decode cX10_rainOf 65 = .ok (.aload_n 0, 1) := by decide +kernel
theorem dX10_rainOf_66 : decode cX10_rainOf 66 = .ok (.getfield 56, 3) := by decide +kernel
theorem dX10_rainOf_69 : decode cX10_rainOf 69 = .ok (.iload_n 1, 1) := by decide +kernel
theorem dX10_rainOf_70 : decode cX10_rainOf 70 = .ok (.iaload, 1) := by decide +kernel
theorem dX10_rainOf_71 : decode cX10_rainOf 71 = .ok (.dup2, 1) := by decide +kernel
theorem dX10_rainOf_72 : decode cX10_rainOf 72 = .ok (.laload, 1) := by decide +kernel
theorem dX10_rainOf_73 : decode cX10_rainOf 73 = .ok (.lload_n 3, 1) := by decide +kernel
theorem dX10_rainOf_74 : decode cX10_rainOf 74 = .ok (.ladd, 1) := by decide +kernel
theorem dX10_rainOf_75 : decode cX10_rainOf 75 = .ok (.lastore, 1) := by decide +kernel
theorem dX10_rainOf_76 : decode cX10_rainOf 76 = .ok (.aload_n 0, 1) := by decide +kernel
theorem dX10_rainOf_77 : decode cX10_rainOf 77 = .ok (.dup, 1) := by decide +kernel
theorem dX10_rainOf_78 : decode cX10_rainOf 78 = .ok (.getfield 174, 3) := by decide +kernel
theorem dX10_rainOf_81 : decode cX10_rainOf 81 = .ok (.lload_n 3, 1) := by decide +kernel
theorem dX10_rainOf_82 : decode cX10_rainOf 82 = .ok (.ladd, 1) := by decide +kernel
theorem dX10_rainOf_83 : decode cX10_rainOf 83 = .ok (.putfield 174, 3) := by decide +kernel
theorem dX10_rainOf_86 : decode cX10_rainOf 86 = .ok (.return_, 1) := by decide +kernel
theorem dX10_flowOf_0 : decode cX10_flowOf 0 = .ok (.aload_n 0, 1) := by decide +kernel
theorem dX10_flowOf_1 : decode cX10_flowOf 1 = .ok (.getfield 35, 3) := by decide +kernel
theorem dX10_flowOf_4 : decode cX10_flowOf 4 = .ok (.iload_n 1, 1) := by decide +kernel
theorem dX10_flowOf_5 : decode cX10_flowOf 5 = .ok (.iaload, 1) := by decide +kernel
theorem dX10_flowOf_6 : decode cX10_flowOf 6 = .ok (.istore_n 2, 1) := by decide +kernel
theorem dX10_flowOf_7 : decode cX10_flowOf 7 = .ok (.aload_n 0, 1) := by decide +kernel
theorem dX10_flowOf_8 : decode cX10_flowOf 8 = .ok (.getfield 38, 3) := by decide +kernel
theorem dX10_flowOf_11 : decode cX10_flowOf 11 = .ok (.iload_n 1, 1) := by decide +kernel
theorem dX10_flowOf_12 : decode cX10_flowOf 12 = .ok (.iaload, 1) := by decide +kernel
theorem dX10_flowOf_13 : decode cX10_flowOf 13 = .ok (.istore_n 3, 1) := by decide +kernel
theorem dX10_flowOf_14 : decode cX10_flowOf 14 = .ok (.aload_n 0, 1) := by decide +kernel
theorem dX10_flowOf_15 : decode cX10_flowOf 15 = .ok (.getfield 47, 3) := by decide +kernel
theorem dX10_flowOf_18 : decode cX10_flowOf 18 = .ok (.iload_n 1, 1) := by decide +kernel
theorem dX10_flowOf_19 : decode cX10_flowOf 19 = .ok (.dup2, 1) := by decide +kernel
theorem dX10_flowOf_20 : decode cX10_flowOf 20 = .ok (.laload, 1) := by decide +kernel
theorem dX10_flowOf_21 : decode cX10_flowOf 21 = .ok (.aload_n 0, 1) := by decide +kernel
theorem dX10_flowOf_22 : decode cX10_flowOf 22 = .ok (.getfield 44, 3) := by decide +kernel
theorem dX10_flowOf_25 : decode cX10_flowOf 25 = .ok (.iload_n 1, 1) := by decide +kernel
theorem dX10_flowOf_26 : decode cX10_flowOf 26 = .ok (.iaload, 1) := by decide +kernel
theorem dX10_flowOf_27 : decode cX10_flowOf 27 = .ok (.i2l, 1) := by decide +kernel
theorem dX10_flowOf_28 : decode cX10_flowOf 28 = .ok (.aload_n 0, 1) := by decide +kernel
theorem dX10_flowOf_29 : decode cX10_flowOf 29 = .ok (.getfield 44, 3) := by decide +kernel
theorem dX10_flowOf_32 : decode cX10_flowOf 32 = .ok (.iload_n 1, 1) := by decide +kernel
theorem dX10_flowOf_33 : decode cX10_flowOf 33 = .ok (.iaload, 1) := by decide +kernel
theorem dX10_flowOf_34 : decode cX10_flowOf 34 = .ok (.i2l, 1) := by decide +kernel
theorem dX10_flowOf_35 : decode cX10_flowOf 35 = .ok (.lmul, 1) := by decide +kernel
theorem dX10_flowOf_36 : decode cX10_flowOf 36 = .ok (.aload_n 0, 1) := by decide +kernel
theorem dX10_flowOf_37 : decode cX10_flowOf 37 = .ok (.getfield 32, 3) := by decide +kernel
theorem dX10_flowOf_40 : decode cX10_flowOf 40 = .ok (.iload_n 2, 1) := by decide +kernel
theorem dX10_flowOf_41 : decode cX10_flowOf 41 = .ok (.laload, 1) := by decide +kernel
theorem dX10_flowOf_42 : decode cX10_flowOf 42 = .ok (.aload_n 0, 1) := by decide +kernel
theorem dX10_flowOf_43 : decode cX10_flowOf 43 = .ok (.getfield 32, 3) := by decide +kernel
theorem dX10_flowOf_46 : decode cX10_flowOf 46 = .ok (.iload_n 3, 1) := by decide +kernel
theorem dX10_flowOf_47 : decode cX10_flowOf 47 = .ok (.laload, 1) := by decide +kernel
theorem dX10_flowOf_48 : decode cX10_flowOf 48 = .ok (.lsub, 1) := by decide +kernel
theorem dX10_flowOf_49 : decode cX10_flowOf 49 = .ok (.lmul, 1) := by decide +kernel
theorem dX10_flowOf_50 : decode cX10_flowOf 50 = .ok (.ladd, 1) := by decide +kernel
theorem dX10_flowOf_51 : decode cX10_flowOf 51 = .ok (.lastore, 1) := by decide +kernel
theorem dX10_flowOf_52 : decode cX10_flowOf 52 = .ok (.ldc2_w 178, 3) := by decide +kernel
theorem dX10_flowOf_55 : decode cX10_flowOf 55 = .ok (.aload_n 0, 1) := by decide +kernel
theorem dX10_flowOf_56 : decode cX10_flowOf 56 = .ok (.getfield 41, 3) := by decide +kernel
theorem dX10_flowOf_59 : decode cX10_flowOf 59 = .ok (.iload_n 1, 1) := by decide +kernel
theorem dX10_flowOf_60 : decode cX10_flowOf 60 = .ok (.iaload, 1) := by decide +kernel
theorem dX10_flowOf_61 : decode cX10_flowOf 61 = .ok (.i2l, 1) := by decide +kernel
theorem dX10_flowOf_62 : decode cX10_flowOf 62 = .ok (.lmul, 1) := by decide +kernel
theorem dX10_flowOf_63 : decode cX10_flowOf 63 = .ok (.lstore 4, 2) := by decide +kernel
theorem dX10_flowOf_65 : decode cX10_flowOf 65 = .ok (.aload_n 0, 1) := by decide +kernel
theorem dX10_flowOf_66 : decode cX10_flowOf 66 = .ok (.getfield 47, 3) := by decide +kernel
theorem dX10_flowOf_69 : decode cX10_flowOf 69 = .ok (.iload_n 1, 1) := by decide +kernel
theorem dX10_flowOf_70 : decode cX10_flowOf 70 = .ok (.laload, 1) := by decide +kernel
theorem dX10_flowOf_71 : decode cX10_flowOf 71 = .ok (.lload 4, 2) := by decide +kernel
theorem dX10_flowOf_73 : decode cX10_flowOf 73 = .ok (.ldiv, 1) := by decide +kernel
theorem dX10_flowOf_74 : decode cX10_flowOf 74 = .ok (.lstore 6, 2) := by decide +kernel
theorem dX10_flowOf_76 : decode cX10_flowOf 76 = .ok (.aload_n 0, 1) := by decide +kernel
theorem dX10_flowOf_77 : decode cX10_flowOf 77 = .ok (.getfield 47, 3) := by decide +kernel
theorem dX10_flowOf_80 : decode cX10_flowOf 80 = .ok (.iload_n 1, 1) := by decide +kernel
theorem dX10_flowOf_81 : decode cX10_flowOf 81 = .ok (.dup2, 1) := by decide +kernel
theorem dX10_flowOf_82 : decode cX10_flowOf 82 = .ok (.laload, 1) := by decide +kernel
theorem dX10_flowOf_83 : decode cX10_flowOf 83 = .ok (.lload 6, 2) := by decide +kernel
theorem dX10_flowOf_85 : decode cX10_flowOf 85 = .ok (.lload 4, 2) := by decide +kernel
theorem dX10_flowOf_87 : decode cX10_flowOf 87 = .ok (.lmul, 1) := by decide +kernel
theorem dX10_flowOf_88 : decode cX10_flowOf 88 = .ok (.lsub, 1) := by decide +kernel
theorem dX10_flowOf_89 : decode cX10_flowOf 89 = .ok (.lastore, 1) := by decide +kernel
theorem dX10_flowOf_90 : decode cX10_flowOf 90 = .ok (.lload 6, 2) := by decide +kernel
theorem dX10_flowOf_92 : decode cX10_flowOf 92 = .ok (.lconst 0, 1) := by decide +kernel
theorem dX10_flowOf_93 : decode cX10_flowOf 93 = .ok (.lcmp, 1) := by decide +kernel
theorem dX10_flowOf_94 : decode cX10_flowOf 94 = .ok (.ifCond .lt 17, 3) := by decide +kernel
theorem dX10_flowOf_97 : decode cX10_flowOf 97 = .ok (.lload 6, 2) := by decide +kernel
theorem dX10_flowOf_99 : decode cX10_flowOf 99 = .ok (.aload_n 0, 1) := by decide +kernel
theorem dX10_flowOf_100 : decode cX10_flowOf 100 = .ok (.getfield 22, 3) := by decide +kernel
theorem dX10_flowOf_103 : decode cX10_flowOf 103 = .ok (.iload_n 2, 1) := by decide +kernel
theorem dX10_flowOf_104 : decode cX10_flowOf 104 = .ok (.laload, 1) := by decide +kernel
theorem dX10_flowOf_105 : decode cX10_flowOf 105 = .ok (.invokestatic 180, 3) := by decide +kernel
theorem dX10_flowOf_108 : decode cX10_flowOf 108 = .ok (.goto 16, 3) := by decide +kernel
theorem dX10_flowOf_111 : decode cX10_flowOf 111 = .ok (.lload 6, 2) := by decide +kernel
theorem dX10_flowOf_113 : decode cX10_flowOf 113 = .ok (.lneg, 1) := by decide +kernel
theorem dX10_flowOf_114 : decode cX10_flowOf 114 = .ok (.aload_n 0, 1) := by decide +kernel
theorem dX10_flowOf_115 : decode cX10_flowOf 115 = .ok (.getfield 22, 3) := by decide +kernel
theorem dX10_flowOf_118 : decode cX10_flowOf 118 = .ok (.iload_n 3, 1) := by decide +kernel
theorem dX10_flowOf_119 : decode cX10_flowOf 119 = .ok (.laload, 1) := by decide +kernel
theorem dX10_flowOf_120 : decode cX10_flowOf 120 = .ok (.invokestatic 180, 3) := by decide +kernel
theorem dX10_flowOf_123 : decode cX10_flowOf 123 = .ok (.lneg, 1) := by decide +kernel
theorem dX10_flowOf_124 : decode cX10_flowOf 124 = .ok (.lstore 8, 2) := by decide +kernel
theorem dX10_flowOf_126 : decode cX10_flowOf 126 = .ok (.aload_n 0, 1) := by decide +kernel
theorem dX10_flowOf_127 : decode cX10_flowOf 127 = .ok (.getfield 22, 3) := by decide +kernel
theorem dX10_flowOf_130 : decode cX10_flowOf 130 = .ok (.iload_n 2, 1) := by decide +kernel
theorem dX10_flowOf_131 : decode cX10_flowOf 131 = .ok (.dup2, 1) := by decide +kernel
theorem dX10_flowOf_132 : decode cX10_flowOf 132 = .ok (.laload, 1) := by decide +kernel
theorem dX10_flowOf_133 : decode cX10_flowOf 133 = .ok (.lload 8, 2) := by decide +kernel
theorem dX10_flowOf_135 : decode cX10_flowOf 135 = .ok (.lsub, 1) := by decide +kernel
theorem dX10_flowOf_136 : decode cX10_flowOf 136 = .ok (.lastore, 1) := by decide +kernel
theorem dX10_flowOf_137 : decode cX10_flowOf 137 = .ok (.aload_n 0, 1) := by decide +kernel
theorem dX10_flowOf_138 : decode cX10_flowOf 138 = .ok (.getfield 22, 3) := by decide +kernel
theorem dX10_flowOf_141 : decode cX10_flowOf 141 = .ok (.iload_n 3, 1) := by decide +kernel
theorem dX10_flowOf_142 : decode cX10_flowOf 142 = .ok (.dup2, 1) := by decide +kernel
theorem dX10_flowOf_143 : decode cX10_flowOf 143 = .ok (.laload, 1) := by decide +kernel
theorem dX10_flowOf_144 : decode cX10_flowOf 144 = .ok (.lload 8, 2) := by decide +kernel
theorem dX10_flowOf_146 : decode cX10_flowOf 146 = .ok (.ladd, 1) := by decide +kernel
theorem dX10_flowOf_147 : decode cX10_flowOf 147 = .ok (.lastore, 1) := by decide +kernel
theorem dX10_flowOf_148 : decode cX10_flowOf 148 = .ok (.aload_n 0, 1) := by decide +kernel
theorem dX10_flowOf_149 : decode cX10_flowOf 149 = .ok (.getfield 50, 3) := by decide +kernel
theorem dX10_flowOf_152 : decode cX10_flowOf 152 = .ok (.iload_n 1, 1) := by decide +kernel
theorem dX10_flowOf_153 : decode cX10_flowOf 153 = .ok (.lload 8, 2) := by decide +kernel
theorem dX10_flowOf_155 : decode cX10_flowOf 155 = .ok (.lastore, 1) := by decide +kernel
theorem dX10_flowOf_156 : decode cX10_flowOf 156 = .ok (.aload_n 0, 1) := by decide +kernel
theorem dX10_flowOf_157 : decode cX10_flowOf 157 = .ok (.getfield 53, 3) := by decide +kernel
theorem dX10_flowOf_160 : decode cX10_flowOf 160 = .ok (.iload_n 1, 1) := by decide +kernel
theorem dX10_flowOf_161 : decode cX10_flowOf 161 = .ok (.dup2, 1) := by decide +kernel
theorem dX10_flowOf_162 : decode cX10_flowOf 162 = .ok (.laload, 1) := by decide +kernel
theorem dX10_flowOf_163 : decode cX10_flowOf 163 = .ok (.lload 8, 2) := by decide +kernel
theorem dX10_flowOf_165 : decode cX10_flowOf 165 = .ok (.ladd, 1) := by decide +kernel
theorem dX10_flowOf_166 : decode cX10_flowOf 166 = .ok (.lastore, 1) := by decide +kernel
theorem dX10_flowOf_167 : decode cX10_flowOf 167 = .ok (.return_, 1) := by decide +kernel
theorem dX10_pumpOf_0 : decode cX10_pumpOf 0 = .ok (.aload_n 0, 1) := by decide +kernel
theorem dX10_pumpOf_1 : decode cX10_pumpOf 1 = .ok (.aload_n 0, 1) := by decide +kernel
theorem dX10_pumpOf_2 : decode cX10_pumpOf 2 = .ok (.getfield 71, 3) := by decide +kernel
theorem dX10_pumpOf_5 : decode cX10_pumpOf 5 = .ok (.iload_n 1, 1) := by decide +kernel
theorem dX10_pumpOf_6 : decode cX10_pumpOf 6 = .ok (.iaload, 1) := by decide +kernel
theorem dX10_pumpOf_7 : decode cX10_pumpOf 7 = .ok (.invokevirtual 184, 3) := by decide +kernel
theorem dX10_pumpOf_10 : decode cX10_pumpOf 10 = .ok (.lstore_n 2, 1) := by decide +kernel
theorem dX10_pumpOf_11 : decode cX10_pumpOf 11 = .ok (.lload_n 2, 1) := by decide +kernel
theorem dX10_pumpOf_12 : decode cX10_pumpOf 12 = .ok (.aload_n 0, 1) := by decide +kernel
theorem dX10_pumpOf_13 : decode cX10_pumpOf 13 = .ok (.getfield 77, 3) := by decide +kernel
theorem dX10_pumpOf_16 : decode cX10_pumpOf 16 = .ok (.iload_n 1, 1) := by decide +kernel
theorem dX10_pumpOf_17 : decode cX10_pumpOf 17 = .ok (.iaload, 1) := by decide +kernel
theorem dX10_pumpOf_18 : decode cX10_pumpOf 18 = .ok (.i2l, 1) := by decide +kernel
theorem dX10_pumpOf_19 : decode cX10_pumpOf 19 = .ok (.lcmp, 1) := by decide +kernel
theorem dX10_pumpOf_20 : decode cX10_pumpOf 20 = .ok (.ifCond .lt 13, 3) := by decide +kernel
theorem dX10_pumpOf_23 : decode cX10_pumpOf 23 = .ok (.aload_n 0, 1) := by decide +kernel
theorem dX10_pumpOf_24 : decode cX10_pumpOf 24 = .ok (.getfield 86, 3) := by decide +kernel
theorem dX10_pumpOf_27 : decode cX10_pumpOf 27 = .ok (.iload_n 1, 1) := by decide +kernel
theorem dX10_pumpOf_28 : decode cX10_pumpOf 28 = .ok (.iconst 1, 1) := by decide +kernel
theorem dX10_pumpOf_29 : decode cX10_pumpOf 29 = .ok (.bastore, 1) := by decide +kernel
theorem dX10_pumpOf_30 : decode cX10_pumpOf 30 = .ok (.goto 22, 3) := by decide +kernel
theorem dX10_pumpOf_33 : decode cX10_pumpOf 33 = .ok (.lload_n 2, 1) := by decide +kernel
theorem dX10_pumpOf_34 : decode cX10_pumpOf 34 = .ok (.aload_n 0, 1) := by decide +kernel
theorem dX10_pumpOf_35 : decode cX10_pumpOf 35 = .ok (.getfield 80, 3) := by decide +kernel
theorem dX10_pumpOf_38 : decode cX10_pumpOf 38 = .ok (.iload_n 1, 1) := by decide +kernel
theorem dX10_pumpOf_39 : decode cX10_pumpOf 39 = .ok (.iaload, 1) := by decide +kernel
theorem dX10_pumpOf_40 : decode cX10_pumpOf 40 = .ok (.i2l, 1) := by decide +kernel
theorem dX10_pumpOf_41 : decode cX10_pumpOf 41 = .ok (.lcmp, 1) := by decide +kernel
theorem dX10_pumpOf_42 : decode cX10_pumpOf 42 = .ok (.ifCond .gt 10, 3) := by decide +kernel
theorem dX10_pumpOf_45 : decode cX10_pumpOf 45 = .ok (.aload_n 0, 1) := by decide +kernel
theorem dX10_pumpOf_46 : decode cX10_pumpOf 46 = .ok (.getfield 86, 3) := by decide +kernel
theorem dX10_pumpOf_49 : decode cX10_pumpOf 49 = .ok (.iload_n 1, 1) := by decide +kernel
theorem dX10_pumpOf_50 : decode cX10_pumpOf 50 = .ok (.iconst 0, 1) := by decide +kernel
theorem dX10_pumpOf_51 : decode cX10_pumpOf 51 = .ok (.bastore, 1) := by decide +kernel
theorem dX10_pumpOf_52 : decode cX10_pumpOf 52 = .ok (.aload_n 0, 1) := by decide +kernel
theorem dX10_pumpOf_53 : decode cX10_pumpOf 53 = .ok (.getfield 86, 3) := by decide +kernel
theorem dX10_pumpOf_56 : decode cX10_pumpOf 56 = .ok (.iload_n 1, 1) := by decide +kernel
theorem dX10_pumpOf_57 : decode cX10_pumpOf 57 = .ok (.baload, 1) := by decide +kernel
theorem dX10_pumpOf_58 : decode cX10_pumpOf 58 = .ok (.ifCond .eq 27, 3) := by decide +kernel
theorem dX10_pumpOf_61 : decode cX10_pumpOf 61 = .ok (.aload_n 0, 1) := by decide +kernel
theorem dX10_pumpOf_62 : decode cX10_pumpOf 62 = .ok (.getfield 83, 3) := by decide +kernel
theorem dX10_pumpOf_65 : decode cX10_pumpOf 65 = .ok (.iload_n 1, 1) := by decide +kernel
theorem dX10_pumpOf_66 : decode cX10_pumpOf 66 = .ok (.iaload, 1) := by decide +kernel
theorem dX10_pumpOf_67 : decode cX10_pumpOf 67 = .ok (.i2l, 1) := by decide +kernel
theorem dX10_pumpOf_68 : decode cX10_pumpOf 68 = .ok (.aload_n 0, 1) := by decide +kernel
theorem dX10_pumpOf_69 : decode cX10_pumpOf 69 = .ok (.getfield 22, 3) := by decide +kernel
theorem dX10_pumpOf_72 : decode cX10_pumpOf 72 = .ok (.aload_n 0, 1) := by decide +kernel
theorem dX10_pumpOf_73 : decode cX10_pumpOf 73 = .ok (.getfield 71, 3) := by decide +kernel
theorem dX10_pumpOf_76 : decode cX10_pumpOf 76 = .ok (.iload_n 1, 1) := by decide +kernel
theorem dX10_pumpOf_77 : decode cX10_pumpOf 77 = .ok (.iaload, 1) := by decide +kernel
theorem dX10_pumpOf_78 : decode cX10_pumpOf 78 = .ok (.laload, 1) := by decide +kernel
theorem dX10_pumpOf_79 : decode cX10_pumpOf 79 = .ok (.invokestatic 180, 3) := by decide +kernel
theorem dX10_pumpOf_82 : decode cX10_pumpOf 82 = .ok (.goto 4, 3) := by decide +kernel
theorem dX10_pumpOf_85 : decode cX10_pumpOf 85 = .ok (.lconst 0, 1) := by decide +kernel
theorem dX10_pumpOf_86 : decode cX10_pumpOf 86 = .ok (.lstore 4, 2) := by decide +kernel
theorem dX10_pumpOf_88 : decode cX10_pumpOf 88 = .ok (.aload_n 0, 1) := by decide +kernel
theorem dX10_pumpOf_89 : decode cX10_pumpOf 89 = .ok (.getfield 22, 3) := by decide +kernel
theorem dX10_pumpOf_92 : decode cX10_pumpOf 92 = .ok (.aload_n 0, 1) := by decide +kernel
theorem dX10_pumpOf_93 : decode cX10_pumpOf 93 = .ok (.getfield 71, 3) := by decide +kernel
theorem dX10_pumpOf_96 : decode cX10_pumpOf 96 = .ok (.iload_n 1, 1) := by decide +kernel
theorem dX10_pumpOf_97 : decode cX10_pumpOf 97 = .ok (.iaload, 1) := by decide +kernel
theorem dX10_pumpOf_98 : decode cX10_pumpOf 98 = .ok (.dup2, 1) := by decide +kernel
theorem dX10_pumpOf_99 : decode cX10_pumpOf 99 = .ok (.laload, 1) := by decide +kernel
theorem dX10_pumpOf_100 : decode cX10_pumpOf 100 = .ok (.lload 4, 2) := by decide +kernel
theorem dX10_pumpOf_102 : decode cX10_pumpOf 102 = .ok (.lsub, 1) := by decide +kernel
theorem dX10_pumpOf_103 : decode cX10_pumpOf 103 = .ok (.lastore, 1) := by decide +kernel
theorem dX10_pumpOf_104 : decode cX10_pumpOf 104 = .ok (.aload_n 0, 1) := by decide +kernel
theorem dX10_pumpOf_105 : decode cX10_pumpOf 105 = .ok (.getfield 22, 3) := by decide +kernel
theorem dX10_pumpOf_108 : decode cX10_pumpOf 108 = .ok (.aload_n 0, 1) := by decide +kernel
theorem dX10_pumpOf_109 : decode cX10_pumpOf 109 = .ok (.getfield 74, 3) := by decide +kernel
theorem dX10_pumpOf_112 : decode cX10_pumpOf 112 = .ok (.iload_n 1, 1) := by decide +kernel
theorem dX10_pumpOf_113 : decode cX10_pumpOf 113 = .ok (.iaload, 1) := by decide +kernel
theorem dX10_pumpOf_114 : decode cX10_pumpOf 114 = .ok (.dup2, 1) := by decide +kernel
theorem dX10_pumpOf_115 : decode cX10_pumpOf 115 = .ok (.laload, 1) := by decide +kernel
theorem dX10_pumpOf_116 : decode cX10_pumpOf 116 = .ok (.lload 4, 2) := by decide +kernel
theorem dX10_pumpOf_118 : decode cX10_pumpOf 118 = .ok (.ladd, 1) := by decide +kernel
theorem dX10_pumpOf_119 : decode cX10_pumpOf 119 = .ok (.lastore, 1) := by decide +kernel
theorem dX10_pumpOf_120 : decode cX10_pumpOf 120 = .ok (.return_, 1) := by decide +kernel
theorem dX10_gateOf_0 : decode cX10_gateOf 0 = .ok (.aload_n 0, 1) := by decide +kernel
theorem dX10_gateOf_1 : decode cX10_gateOf 1 = .ok (.getfield 90, 3) := by decide +kernel
theorem dX10_gateOf_4 : decode cX10_gateOf 4 = .ok (.iload_n 1, 1) := by decide +kernel
theorem dX10_gateOf_5 : decode cX10_gateOf 5 = .ok (.iaload, 1) := by decide +kernel
theorem dX10_gateOf_6 : decode cX10_gateOf 6 = .ok (.istore_n 2, 1) := by decide +kernel
theorem dX10_gateOf_7 : decode cX10_gateOf 7 = .ok (.aload_n 0, 1) := by decide +kernel
theorem dX10_gateOf_8 : decode cX10_gateOf 8 = .ok (.getfield 22, 3) := by decide +kernel
theorem dX10_gateOf_11 : decode cX10_gateOf 11 = .ok (.iload_n 2, 1) := by decide +kernel
theorem dX10_gateOf_12 : decode cX10_gateOf 12 = .ok (.laload, 1) := by decide +kernel
theorem dX10_gateOf_13 : decode cX10_gateOf 13 = .ok (.aload_n 0, 1) := by decide +kernel
theorem dX10_gateOf_14 : decode cX10_gateOf 14 = .ok (.getfield 93, 3) := by decide +kernel
theorem dX10_gateOf_17 : decode cX10_gateOf 17 = .ok (.iload_n 1, 1) := by decide +kernel
theorem dX10_gateOf_18 : decode cX10_gateOf 18 = .ok (.iaload, 1) := by decide +kernel
theorem dX10_gateOf_19 : decode cX10_gateOf 19 = .ok (.i2l, 1) := by decide +kernel
theorem dX10_gateOf_20 : decode cX10_gateOf 20 = .ok (.aload_n 0, 1) := by decide +kernel
theorem dX10_gateOf_21 : decode cX10_gateOf 21 = .ok (.getfield 16, 3) := by decide +kernel
theorem dX10_gateOf_24 : decode cX10_gateOf 24 = .ok (.iload_n 2, 1) := by decide +kernel
theorem dX10_gateOf_25 : decode cX10_gateOf 25 = .ok (.iaload, 1) := by decide +kernel
theorem dX10_gateOf_26 : decode cX10_gateOf 26 = .ok (.i2l, 1) := by decide +kernel
theorem dX10_gateOf_27 : decode cX10_gateOf 27 = .ok (.lmul, 1) := by decide +kernel
theorem dX10_gateOf_28 : decode cX10_gateOf 28 = .ok (.lsub, 1) := by decide +kernel
theorem dX10_gateOf_29 : decode cX10_gateOf 29 = .ok (.lstore_n 3, 1) := by decide +kernel
theorem dX10_gateOf_30 : decode cX10_gateOf 30 = .ok (.lload_n 3, 1) := by decide +kernel
theorem dX10_gateOf_31 : decode cX10_gateOf 31 = .ok (.lconst 0, 1) := by decide +kernel
theorem dX10_gateOf_32 : decode cX10_gateOf 32 = .ok (.lcmp, 1) := by decide +kernel
theorem dX10_gateOf_33 : decode cX10_gateOf 33 = .ok (.ifCond .le 17, 3) := by decide +kernel
theorem dX10_gateOf_36 : decode cX10_gateOf 36 = .ok (.lload_n 3, 1) := by decide +kernel
theorem dX10_gateOf_37 : decode cX10_gateOf 37 = .ok (.aload_n 0, 1) := by decide +kernel
theorem dX10_gateOf_38 : decode cX10_gateOf 38 = .ok (.getfield 96, 3) := by decide +kernel
theorem dX10_gateOf_41 : decode cX10_gateOf 41 = .ok (.iload_n 1, 1) := by decide +kernel
theorem dX10_gateOf_42 : decode cX10_gateOf 42 = .ok (.iaload, 1) := by decide +kernel
theorem dX10_gateOf_43 : decode cX10_gateOf 43 = .ok (.i2l, 1) := by decide +kernel
theorem dX10_gateOf_44 : decode cX10_gateOf 44 = .ok (.invokestatic 180, 3) := by decide +kernel
theorem dX10_gateOf_47 : decode cX10_gateOf 47 = .ok (.goto 4, 3) := by decide +kernel
theorem dX10_gateOf_50 : decode cX10_gateOf 50 = .ok (.lconst 0, 1) := by decide +kernel
theorem dX10_gateOf_51 : decode cX10_gateOf 51 = .ok (.lstore 5, 2) := by decide +kernel
theorem dX10_gateOf_53 : decode cX10_gateOf 53 = .ok (.aload_n 0, 1) := by decide +kernel
theorem dX10_gateOf_54 : decode cX10_gateOf 54 = .ok (.getfield 22, 3) := by decide +kernel
theorem dX10_gateOf_57 : decode cX10_gateOf 57 = .ok (.iload_n 2, 1) := by decide +kernel
theorem dX10_gateOf_58 : decode cX10_gateOf 58 = .ok (.dup2, 1) := by decide +kernel
theorem dX10_gateOf_59 : decode cX10_gateOf 59 = .ok (.laload, 1) := by decide +kernel
theorem dX10_gateOf_60 : decode cX10_gateOf 60 = .ok (.lload 5, 2) := by decide +kernel
theorem dX10_gateOf_62 : decode cX10_gateOf 62 = .ok (.lsub, 1) := by decide +kernel
theorem dX10_gateOf_63 : decode cX10_gateOf 63 = .ok (.lastore, 1) := by decide +kernel
theorem dX10_gateOf_64 : decode cX10_gateOf 64 = .ok (.aload_n 0, 1) := by decide +kernel
theorem dX10_gateOf_65 : decode cX10_gateOf 65 = .ok (.getfield 29, 3) := by decide +kernel
theorem dX10_gateOf_68 : decode cX10_gateOf 68 = .ok (.iload_n 2, 1) := by decide +kernel
theorem dX10_gateOf_69 : decode cX10_gateOf 69 = .ok (.dup2, 1) := by decide +kernel
theorem dX10_gateOf_70 : decode cX10_gateOf 70 = .ok (.laload, 1) := by decide +kernel
theorem dX10_gateOf_71 : decode cX10_gateOf 71 = .ok (.lload 5, 2) := by decide +kernel
theorem dX10_gateOf_73 : decode cX10_gateOf 73 = .ok (.ladd, 1) := by decide +kernel
theorem dX10_gateOf_74 : decode cX10_gateOf 74 = .ok (.lastore, 1) := by decide +kernel
theorem dX10_gateOf_75 : decode cX10_gateOf 75 = .ok (.aload_n 0, 1) := by decide +kernel
theorem dX10_gateOf_76 : decode cX10_gateOf 76 = .ok (.dup, 1) := by decide +kernel
theorem dX10_gateOf_77 : decode cX10_gateOf 77 = .ok (.getfield 188, 3) := by decide +kernel
theorem dX10_gateOf_80 : decode cX10_gateOf 80 = .ok (.lload 5, 2) := by decide +kernel
theorem dX10_gateOf_82 : decode cX10_gateOf 82 = .ok (.ladd, 1) := by decide +kernel
theorem dX10_gateOf_83 : decode cX10_gateOf 83 = .ok (.putfield 188, 3) := by decide +kernel
theorem dX10_gateOf_86 : decode cX10_gateOf 86 = .ok (.return_, 1) := by decide +kernel
theorem dX10_gullyOf_0 : decode cX10_gullyOf 0 = .ok (.aload_n 0, 1) := by decide +kernel
theorem dX10_gullyOf_1 : decode cX10_gullyOf 1 = .ok (.getfield 102, 3) := by decide +kernel
theorem dX10_gullyOf_4 : decode cX10_gullyOf 4 = .ok (.iload_n 1, 1) := by decide +kernel
theorem dX10_gullyOf_5 : decode cX10_gullyOf 5 = .ok (.iaload, 1) := by decide +kernel
theorem dX10_gullyOf_6 : decode cX10_gullyOf 6 = .ok (.istore_n 2, 1) := by decide +kernel
theorem dX10_gullyOf_7 : decode cX10_gullyOf 7 = .ok (.aload_n 0, 1) := by decide +kernel
theorem dX10_gullyOf_8 : decode cX10_gullyOf 8 = .ok (.iload_n 2, 1) := by decide +kernel
theorem dX10_gullyOf_9 : decode cX10_gullyOf 9 = .ok (.invokevirtual 191, 3) := by decide +kernel
theorem dX10_gullyOf_12 : decode cX10_gullyOf 12 = .ok (.aload_n 0, 1) := by decide +kernel
theorem dX10_gullyOf_13 : decode cX10_gullyOf 13 = .ok (.getfield 22, 3) := by decide +kernel
theorem dX10_gullyOf_16 : decode cX10_gullyOf 16 = .ok (.iload_n 2, 1) := by decide +kernel
theorem dX10_gullyOf_17 : decode cX10_gullyOf 17 = .ok (.laload, 1) := by decide +kernel
theorem dX10_gullyOf_18 : decode cX10_gullyOf 18 = .ok (.lsub, 1) := by decide +kernel
theorem dX10_gullyOf_19 : decode cX10_gullyOf 19 = .ok (.lstore_n 3, 1) := by decide +kernel
theorem dX10_gullyOf_20 : decode cX10_gullyOf 20 = .ok (.lload_n 3, 1) := by decide +kernel
theorem dX10_gullyOf_21 : decode cX10_gullyOf 21 = .ok (.lconst 0, 1) := by decide +kernel
theorem dX10_gullyOf_22 : decode cX10_gullyOf 22 = .ok (.lcmp, 1) := by decide +kernel
theorem dX10_gullyOf_23 : decode cX10_gullyOf 23 = .ok (.ifCond .le 31, 3) := by decide +kernel
theorem dX10_gullyOf_26 : decode cX10_gullyOf 26 = .ok (.lload_n 3, 1) := by decide +kernel
theorem dX10_gullyOf_27 : decode cX10_gullyOf 27 = .ok (.aload_n 0, 1) := by decide +kernel
theorem dX10_gullyOf_28 : decode cX10_gullyOf 28 = .ok (.getfield 105, 3) := by decide +kernel
theorem dX10_gullyOf_31 : decode cX10_gullyOf 31 = .ok (.iload_n 1, 1) := by decide +kernel
theorem dX10_gullyOf_32 : decode cX10_gullyOf 32 = .ok (.iaload, 1) := by decide +kernel
theorem dX10_gullyOf_33 : decode cX10_gullyOf 33 = .ok (.i2l, 1) := by decide +kernel
theorem dX10_gullyOf_34 : decode cX10_gullyOf 34 = .ok (.aload_n 0, 1) := by decide +kernel
theorem dX10_gullyOf_35 : decode cX10_gullyOf 35 = .ok (.getfield 108, 3) := by decide +kernel
theorem dX10_gullyOf_38 : decode cX10_gullyOf 38 = .ok (.aload_n 0, 1) := by decide +kernel
theorem dX10_gullyOf_39 : decode cX10_gullyOf 39 = .ok (.getfield 99, 3) := by decide +kernel
theorem dX10_gullyOf_42 : decode cX10_gullyOf 42 = .ok (.iload_n 1, 1) := by decide +kernel
theorem dX10_gullyOf_43 : decode cX10_gullyOf 43 = .ok (.iaload, 1) := by decide +kernel
theorem dX10_gullyOf_44 : decode cX10_gullyOf 44 = .ok (.laload, 1) := by decide +kernel
theorem dX10_gullyOf_45 : decode cX10_gullyOf 45 = .ok (.invokestatic 180, 3) := by decide +kernel
theorem dX10_gullyOf_48 : decode cX10_gullyOf 48 = .ok (.invokestatic 180, 3) := by decide +kernel
theorem dX10_gullyOf_51 : decode cX10_gullyOf 51 = .ok (.goto 4, 3) := by decide +kernel
theorem dX10_gullyOf_54 : decode cX10_gullyOf 54 = .ok (.lconst 0, 1) := by decide +kernel
theorem dX10_gullyOf_55 : decode cX10_gullyOf 55 = .ok (.lstore 5, 2) := by decide +kernel
theorem dX10_gullyOf_57 : decode cX10_gullyOf 57 = .ok (.aload_n 0, 1) := by decide +kernel
theorem dX10_gullyOf_58 : decode cX10_gullyOf 58 = .ok (.getfield 108, 3) := by decide +kernel
theorem dX10_gullyOf_61 : decode cX10_gullyOf 61 = .ok (.aload_n 0, 1) := by decide +kernel
theorem dX10_gullyOf_62 : decode cX10_gullyOf 62 = .ok (.getfield 99, 3) := by decide +kernel
theorem dX10_gullyOf_65 : decode cX10_gullyOf 65 = .ok (.iload_n 1, 1) := by decide +kernel
theorem dX10_gullyOf_66 : decode cX10_gullyOf 66 = .ok (.iaload, 1) := by decide +kernel
theorem dX10_gullyOf_67 : decode cX10_gullyOf 67 = .ok (.dup2, 1) := by decide +kernel
theorem dX10_gullyOf_68 : decode cX10_gullyOf 68 = .ok (.laload, 1) := by decide +kernel
theorem dX10_gullyOf_69 : decode cX10_gullyOf 69 = .ok (.lload 5, 2) := by decide +kernel
theorem dX10_gullyOf_71 : decode cX10_gullyOf 71 = .ok (.lsub, 1) := by decide +kernel
theorem dX10_gullyOf_72 : decode cX10_gullyOf 72 = .ok (.lastore, 1) := by decide +kernel
theorem dX10_gullyOf_73 : decode cX10_gullyOf 73 = .ok (.aload_n 0, 1) := by decide +kernel
theorem dX10_gullyOf_74 : decode cX10_gullyOf 74 = .ok (.getfield 22, 3) := by decide +kernel
theorem dX10_gullyOf_77 : decode cX10_gullyOf 77 = .ok (.iload_n 2, 1) := by decide +kernel
theorem dX10_gullyOf_78 : decode cX10_gullyOf 78 = .ok (.dup2, 1) := by decide +kernel
theorem dX10_gullyOf_79 : decode cX10_gullyOf 79 = .ok (.laload, 1) := by decide +kernel
theorem dX10_gullyOf_80 : decode cX10_gullyOf 80 = .ok (.lload 5, 2) := by decide +kernel
theorem dX10_gullyOf_82 : decode cX10_gullyOf 82 = .ok (.ladd, 1) := by decide +kernel
theorem dX10_gullyOf_83 : decode cX10_gullyOf 83 = .ok (.lastore, 1) := by decide +kernel
theorem dX10_gullyOf_84 : decode cX10_gullyOf 84 = .ok (.return_, 1) := by decide +kernel
theorem dX10_nodeOf_0 : decode cX10_nodeOf 0 = .ok (.aload_n 0, 1) := by decide +kernel
theorem dX10_nodeOf_1 : decode cX10_nodeOf 1 = .ok (.getfield 22, 3) := by decide +kernel
theorem dX10_nodeOf_4 : decode cX10_nodeOf 4 = .ok (.iload_n 1, 1) := by decide +kernel
theorem dX10_nodeOf_5 : decode cX10_nodeOf 5 = .ok (.laload, 1) := by decide +kernel
theorem dX10_nodeOf_6 : decode cX10_nodeOf 6 = .ok (.aload_n 0, 1) := by decide +kernel
theorem dX10_nodeOf_7 : decode cX10_nodeOf 7 = .ok (.iload_n 1, 1) := by decide +kernel
theorem dX10_nodeOf_8 : decode cX10_nodeOf 8 = .ok (.invokevirtual 191, 3) := by decide +kernel
theorem dX10_nodeOf_11 : decode cX10_nodeOf 11 = .ok (.lsub, 1) := by decide +kernel
theorem dX10_nodeOf_12 : decode cX10_nodeOf 12 = .ok (.lstore_n 2, 1) := by decide +kernel
theorem dX10_nodeOf_13 : decode cX10_nodeOf 13 = .ok (.lload_n 2, 1) := by decide +kernel
theorem dX10_nodeOf_14 : decode cX10_nodeOf 14 = .ok (.lconst 0, 1) := by decide +kernel
theorem dX10_nodeOf_15 : decode cX10_nodeOf 15 = .ok (.lcmp, 1) := by decide +kernel
theorem dX10_nodeOf_16 : decode cX10_nodeOf 16 = .ok (.ifCond .gt 4, 3) := by decide +kernel
theorem dX10_nodeOf_19 : decode cX10_nodeOf 19 = .ok (.return_, 1) := by decide +kernel
theorem dX10_nodeOf_20 : decode cX10_nodeOf 20 = .ok (.aload_n 0, 1) := by decide +kernel
theorem dX10_nodeOf_21 : decode cX10_nodeOf 21 = .ok (.getfield 22, 3) := by decide +kernel
theorem dX10_nodeOf_24 : decode cX10_nodeOf 24 = .ok (.iload_n 1, 1) := by decide +kernel
theorem dX10_nodeOf_25 : decode cX10_nodeOf 25 = .ok (.dup2, 1) := by decide +kernel
theorem dX10_nodeOf_26 : decode cX10_nodeOf 26 = .ok (.laload, 1) := by decide +kernel
theorem dX10_nodeOf_27 : decode cX10_nodeOf 27 = .ok (.lload_n 2, 1) := by decide +kernel
theorem dX10_nodeOf_28 : decode cX10_nodeOf 28 = .ok (.lsub, 1) := by decide +kernel
theorem dX10_nodeOf_29 : decode cX10_nodeOf 29 = .ok (.lastore, 1) := by decide +kernel
theorem dX10_nodeOf_30 : decode cX10_nodeOf 30 = .ok (.aload_n 0, 1) := by decide +kernel
theorem dX10_nodeOf_31 : decode cX10_nodeOf 31 = .ok (.getfield 26, 3) := by decide +kernel
theorem dX10_nodeOf_34 : decode cX10_nodeOf 34 = .ok (.iload_n 1, 1) := by decide +kernel
theorem dX10_nodeOf_35 : decode cX10_nodeOf 35 = .ok (.dup2, 1) := by decide +kernel
theorem dX10_nodeOf_36 : decode cX10_nodeOf 36 = .ok (.laload, 1) := by decide +kernel
theorem dX10_nodeOf_37 : decode cX10_nodeOf 37 = .ok (.lload_n 2, 1) := by decide +kernel
theorem dX10_nodeOf_38 : decode cX10_nodeOf 38 = .ok (.ladd, 1) := by decide +kernel
theorem dX10_nodeOf_39 : decode cX10_nodeOf 39 = .ok (.lastore, 1) := by decide +kernel
theorem dX10_nodeOf_40 : decode cX10_nodeOf 40 = .ok (.aload_n 0, 1) := by decide +kernel
theorem dX10_nodeOf_41 : decode cX10_nodeOf 41 = .ok (.getfield 19, 3) := by decide +kernel
theorem dX10_nodeOf_44 : decode cX10_nodeOf 44 = .ok (.iload_n 1, 1) := by decide +kernel
theorem dX10_nodeOf_45 : decode cX10_nodeOf 45 = .ok (.iaload, 1) := by decide +kernel
theorem dX10_nodeOf_46 : decode cX10_nodeOf 46 = .ok (.ifCond .lt 21, 3) := by decide +kernel
theorem dX10_nodeOf_49 : decode cX10_nodeOf 49 = .ok (.aload_n 0, 1) := by decide +kernel
theorem dX10_nodeOf_50 : decode cX10_nodeOf 50 = .ok (.getfield 108, 3) := by decide +kernel
theorem dX10_nodeOf_53 : decode cX10_nodeOf 53 = .ok (.aload_n 0, 1) := by decide +kernel
theorem dX10_nodeOf_54 : decode cX10_nodeOf 54 = .ok (.getfield 19, 3) := by decide +kernel
theorem dX10_nodeOf_57 : decode cX10_nodeOf 57 = .ok (.iload_n 1, 1) := by decide +kernel
theorem dX10_nodeOf_58 : decode cX10_nodeOf 58 = .ok (.iaload, 1) := by decide +kernel
theorem dX10_nodeOf_59 : decode cX10_nodeOf 59 = .ok (.dup2, 1) := by decide +kernel
theorem dX10_nodeOf_60 : decode cX10_nodeOf 60 = .ok (.laload, 1) := by decide +kernel
theorem dX10_nodeOf_61 : decode cX10_nodeOf 61 = .ok (.lload_n 2, 1) := by decide +kernel
theorem dX10_nodeOf_62 : decode cX10_nodeOf 62 = .ok (.ladd, 1) := by decide +kernel
theorem dX10_nodeOf_63 : decode cX10_nodeOf 63 = .ok (.lastore, 1) := by decide +kernel
theorem dX10_nodeOf_64 : decode cX10_nodeOf 64 = .ok (.goto 13, 3) := by decide +kernel
theorem dX10_nodeOf_67 : decode cX10_nodeOf 67 = .ok (.aload_n 0, 1) := by decide +kernel
theorem dX10_nodeOf_68 : decode cX10_nodeOf 68 = .ok (.dup, 1) := by decide +kernel
theorem dX10_nodeOf_69 : decode cX10_nodeOf 69 = .ok (.getfield 194, 3) := by decide +kernel
theorem dX10_nodeOf_72 : decode cX10_nodeOf 72 = .ok (.lload_n 2, 1) := by decide +kernel
theorem dX10_nodeOf_73 : decode cX10_nodeOf 73 = .ok (.ladd, 1) := by decide +kernel
theorem dX10_nodeOf_74 : decode cX10_nodeOf 74 = .ok (.putfield 194, 3) := by decide +kernel
theorem dX10_nodeOf_77 : decode cX10_nodeOf 77 = .ok (.return_, 1) := by decide +kernel
theorem dX10_run_0 : decode cX10_run 0 = .ok (.iload_n 1, 1) := by decide +kernel
theorem dX10_run_1 : decode cX10_run 1 = .ok (.iconst 1, 1) := by decide +kernel
theorem dX10_run_2 : decode cX10_run 2 = .ok (.sipush 600, 3) := by decide +kernel
theorem dX10_run_5 : decode cX10_run 5 = .ok (.invokestatic 145, 3) := by decide +kernel
theorem dX10_run_8 : decode cX10_run 8 = .ok (.ifCond .eq 14, 3) := by decide +kernel
theorem dX10_run_11 : decode cX10_run 11 = .ok (.aload_n 0, 1) := by decide +kernel
theorem dX10_run_12 : decode cX10_run 12 = .ok (.getfield 197, 3) := by decide +kernel
theorem dX10_run_15 : decode cX10_run 15 = .ok (.iload_n 1, 1) := by decide +kernel
theorem dX10_run_16 : decode cX10_run 16 = .ok (.iadd, 1) := by decide +kernel
theorem dX10_run_17 : decode cX10_run 17 = .ok (.ldc 200, 2) := by decide +kernel
theorem dX10_run_19 : decode cX10_run 19 = .ok (.if_icmp .le 5, 3) := by decide +kernel
theorem dX10_run_22 : decode cX10_run 22 = .ok (.iconst (-1), 1) := by decide +kernel
theorem dX10_run_23 : decode cX10_run 23 = .ok (.ireturn, 1) := by decide +kernel
theorem dX10_run_24 : decode cX10_run 24 = .ok (.iconst 0, 1) := by decide +kernel
theorem dX10_run_25 : decode cX10_run 25 = .ok (.istore_n 2, 1) := by decide +kernel
theorem dX10_run_26 : decode cX10_run 26 = .ok (.iload_n 2, 1) := by decide +kernel
theorem dX10_run_27 : decode cX10_run 27 = .ok (.iload_n 1, 1) := by decide +kernel
theorem dX10_run_28 : decode cX10_run 28 = .ok (.if_icmp .ge 179, 3) := by decide +kernel
theorem dX10_run_31 : decode cX10_run 31 = .ok (.iconst 0, 1) := by decide +kernel
theorem dX10_run_32 : decode cX10_run 32 = .ok (.istore_n 3, 1) := by decide +kernel
theorem dX10_run_33 : decode cX10_run 33 = .ok (.iload_n 3, 1) := by decide +kernel
theorem dX10_run_34 : decode cX10_run 34 = .ok (.aload_n 0, 1) := by decide +kernel
theorem dX10_run_35 : decode cX10_run 35 = .ok (.getfield 158, 3) := by decide +kernel
theorem dX10_run_38 : decode cX10_run 38 = .ok (.if_icmp .ge 21, 3) := by decide +kernel
theorem dX10_run_41 : decode cX10_run 41 = .ok (.aload_n 0, 1) := by decide +kernel
theorem dX10_run_42 : decode cX10_run 42 = .ok (.iload_n 3, 1) := by decide +kernel
theorem dX10_run_43 : decode cX10_run 43 = .ok (.aload_n 0, 1) := by decide +kernel
theorem dX10_run_44 : decode cX10_run 44 = .ok (.getfield 197, 3) := by decide +kernel
theorem dX10_run_47 : decode cX10_run 47 = .ok (.bipush 60, 2) := by decide +kernel
theorem dX10_run_49 : decode cX10_run 49 = .ok (.idiv, 1) := by decide +kernel
theorem dX10_run_50 : decode cX10_run 50 = .ok (.invokevirtual 201, 3) := by decide +kernel
theorem dX10_run_53 : decode cX10_run 53 = .ok (.iinc 3 1, 3) := by decide +kernel
theorem dX10_run_56 : decode cX10_run 56 = .ok (.goto (-23), 3) := by decide +kernel
theorem dX10_run_59 : decode cX10_run 59 = .ok (.iconst 0, 1) := by decide +kernel
theorem dX10_run_60 : decode cX10_run 60 = .ok (.istore_n 3, 1) := by decide +kernel
theorem dX10_run_61 : decode cX10_run 61 = .ok (.iload_n 3, 1) := by decide +kernel
theorem dX10_run_62 : decode cX10_run 62 = .ok (.aload_n 0, 1) := by decide +kernel
theorem dX10_run_63 : decode cX10_run 63 = .ok (.getfield 142, 3) := by decide +kernel
theorem dX10_run_66 : decode cX10_run 66 = .ok (.if_icmp .ge 20, 3) := by decide +kernel
theorem dX10_run_69 : decode cX10_run 69 = .ok (.aload_n 0, 1) := by decide +kernel
theorem dX10_run_70 : decode cX10_run 70 = .ok (.getfield 32, 3) := by decide +kernel
theorem dX10_run_73 : decode cX10_run 73 = .ok (.iload_n 3, 1) := by decide +kernel
theorem dX10_run_74 : decode cX10_run 74 = .ok (.aload_n 0, 1) := by decide +kernel
theorem dX10_run_75 : decode cX10_run 75 = .ok (.iload_n 3, 1) := by decide +kernel
theorem dX10_run_76 : decode cX10_run 76 = .ok (.invokevirtual 184, 3) := by decide +kernel
theorem dX10_run_79 : decode cX10_run 79 = .ok (.lastore, 1) := by decide +kernel
theorem dX10_run_80 : decode cX10_run 80 = .ok (.iinc 3 1, 3) := by decide +kernel
theorem dX10_run_83 : decode cX10_run 83 = .ok (.goto (-22), 3) := by decide +kernel
theorem dX10_run_86 : decode cX10_run 86 = .ok (.iconst 0, 1) := by decide +kernel
theorem dX10_run_87 : decode cX10_run 87 = .ok (.istore_n 3, 1) := by decide +kernel
theorem dX10_run_88 : decode cX10_run 88 = .ok (.iload_n 3, 1) := by decide +kernel
theorem dX10_run_89 : decode cX10_run 89 = .ok (.aload_n 0, 1) := by decide +kernel
theorem dX10_run_90 : decode cX10_run 90 = .ok (.getfield 151, 3) := by decide +kernel
theorem dX10_run_93 : decode cX10_run 93 = .ok (.if_icmp .ge 14, 3) := by decide +kernel
theorem dX10_run_96 : decode cX10_run 96 = .ok (.aload_n 0, 1) := by decide +kernel
theorem dX10_run_97 : decode cX10_run 97 = .ok (.iload_n 3, 1) := by decide +kernel
theorem dX10_run_98 : decode cX10_run 98 = .ok (.invokevirtual 205, 3) := by decide +kernel
theorem dX10_run_101 : decode cX10_run 101 = .ok (.iinc 3 1, 3) := by decide +kernel
theorem dX10_run_104 : decode cX10_run 104 = .ok (.goto (-16), 3) := by decide +kernel
theorem dX10_run_107 : decode cX10_run 107 = .ok (.iconst 0, 1) := by decide +kernel
theorem dX10_run_108 : decode cX10_run 108 = .ok (.istore_n 3, 1) := by decide +kernel
theorem dX10_run_109 : decode cX10_run 109 = .ok (.iload_n 3, 1) := by decide +kernel
theorem dX10_run_110 : decode cX10_run 110 = .ok (.aload_n 0, 1) := by decide +kernel
theorem dX10_run_111 : decode cX10_run 111 = .ok (.getfield 162, 3) := by decide +kernel
theorem dX10_run_114 : decode cX10_run 114 = .ok (.if_icmp .ge 14, 3) := by decide +kernel
theorem dX10_run_117 : decode cX10_run 117 = .ok (.aload_n 0, 1) := by decide +kernel
theorem dX10_run_118 : decode cX10_run 118 = .ok (.iload_n 3, 1) := by decide +kernel
theorem dX10_run_119 : decode cX10_run 119 = .ok (.invokevirtual 209, 3) := by decide +kernel
theorem dX10_run_122 : decode cX10_run 122 = .ok (.iinc 3 1, 3) := by decide +kernel
theorem dX10_run_125 : decode cX10_run 125 = .ok (.goto (-16), 3) := by decide +kernel
theorem dX10_run_128 : decode cX10_run 128 = .ok (.iconst 0, 1) := by decide +kernel
theorem dX10_run_129 : decode cX10_run 129 = .ok (.istore_n 3, 1) := by decide +kernel
theorem dX10_run_130 : decode cX10_run 130 = .ok (.iload_n 3, 1) := by decide +kernel
theorem dX10_run_131 : decode cX10_run 131 = .ok (.aload_n 0, 1) := by decide +kernel
theorem dX10_run_132 : decode cX10_run 132 = .ok (.getfield 165, 3) := by decide +kernel
theorem dX10_run_135 : decode cX10_run 135 = .ok (.if_icmp .ge 14, 3) := by decide +kernel
theorem dX10_run_138 : decode cX10_run 138 = .ok (.aload_n 0, 1) := by decide +kernel
theorem dX10_run_139 : decode cX10_run 139 = .ok (.iload_n 3, 1) := by decide +kernel
theorem dX10_run_140 : decode cX10_run 140 = .ok (.invokevirtual 212, 3) := by decide +kernel
theorem dX10_run_143 : decode cX10_run 143 = .ok (.iinc 3 1, 3) := by decide +kernel
theorem dX10_run_146 : decode cX10_run 146 = .ok (.goto (-16), 3) := by decide +kernel
theorem dX10_run_149 : decode cX10_run 149 = .ok (.iconst 0, 1) := by decide +kernel
theorem dX10_run_150 : decode cX10_run 150 = .ok (.istore_n 3, 1) := by decide +kernel
theorem dX10_run_151 : decode cX10_run 151 = .ok (.iload_n 3, 1) := by decide +kernel
theorem dX10_run_152 : decode cX10_run 152 = .ok (.aload_n 0, 1) := by decide +kernel
theorem dX10_run_153 : decode cX10_run 153 = .ok (.getfield 169, 3) := by decide +kernel
theorem dX10_run_156 : decode cX10_run 156 = .ok (.if_icmp .ge 14, 3) := by decide +kernel
theorem dX10_run_159 : decode cX10_run 159 = .ok (.aload_n 0, 1) := by decide +kernel
theorem dX10_run_160 : decode cX10_run 160 = .ok (.iload_n 3, 1) := by decide +kernel
theorem dX10_run_161 : decode cX10_run 161 = .ok (.invokevirtual 215, 3) := by decide +kernel
theorem dX10_run_164 : decode cX10_run 164 = .ok (.iinc 3 1, 3) := by decide +kernel
theorem dX10_run_167 : decode cX10_run 167 = .ok (.goto (-16), 3) := by decide +kernel
theorem dX10_run_170 : decode cX10_run 170 = .ok (.iconst 0, 1) := by decide +kernel
theorem dX10_run_171 : decode cX10_run 171 = .ok (.istore_n 3, 1) := by decide +kernel
theorem dX10_run_172 : decode cX10_run 172 = .ok (.iload_n 3, 1) := by decide +kernel
theorem dX10_run_173 : decode cX10_run 173 = .ok (.aload_n 0, 1) := by decide +kernel
theorem dX10_run_174 : decode cX10_run 174 = .ok (.getfield 142, 3) := by decide +kernel
theorem dX10_run_177 : decode cX10_run 177 = .ok (.if_icmp .ge 14, 3) := by decide +kernel
theorem dX10_run_180 : decode cX10_run 180 = .ok (.aload_n 0, 1) := by decide +kernel
theorem dX10_run_181 : decode cX10_run 181 = .ok (.iload_n 3, 1) := by decide +kernel
theorem dX10_run_182 : decode cX10_run 182 = .ok (.invokevirtual 218, 3) := by decide +kernel
theorem dX10_run_185 : decode cX10_run 185 = .ok (.iinc 3 1, 3) := by decide +kernel
theorem dX10_run_188 : decode cX10_run 188 = .ok (.goto (-16), 3) := by decide +kernel
theorem dX10_run_191 : decode cX10_run 191 = .ok (.aload_n 0, 1) := by decide +kernel
theorem dX10_run_192 : decode cX10_run 192 = .ok (.dup, 1) := by decide +kernel
theorem dX10_run_193 : decode cX10_run 193 = .ok (.getfield 197, 3) := by decide +kernel
theorem dX10_run_196 : decode cX10_run 196 = .ok (.iconst 1, 1) := by decide +kernel
theorem dX10_run_197 : decode cX10_run 197 = .ok (.iadd, 1) := by decide +kernel
theorem dX10_run_198 : decode cX10_run 198 = .ok (.putfield 197, 3) := by decide +kernel
theorem dX10_run_201 : decode cX10_run 201 = .ok (.iinc 2 1, 3) := by decide +kernel
theorem dX10_run_204 : decode cX10_run 204 = .ok (.goto (-178), 3) := by decide +kernel
theorem dX10_run_207 : decode cX10_run 207 = .ok (.aload_n 0, 1) := by decide +kernel
theorem dX10_run_208 : decode cX10_run 208 = .ok (.getfield 197, 3) := by decide +kernel
theorem dX10_run_211 : decode cX10_run 211 = .ok (.ireturn, 1) := by decide +kernel
theorem dX10_told_0 : decode cX10_told 0 = .ok (.aload_n 0, 1) := by decide +kernel
theorem dX10_told_1 : decode cX10_told 1 = .ok (.iload_n 1, 1) := by decide +kernel
theorem dX10_told_2 : decode cX10_told 2 = .ok (.invokevirtual 154, 3) := by decide +kernel
theorem dX10_told_5 : decode cX10_told 5 = .ok (.ifCond .eq 12, 3) := by decide +kernel
theorem dX10_told_8 : decode cX10_told 8 = .ok (.iload_n 2, 1) := by decide +kernel
theorem dX10_told_9 : decode cX10_told 9 = .ok (.iconst 0, 1) := by decide +kernel
theorem dX10_told_10 : decode cX10_told 10 = .ok (.iconst 3, 1) := by decide +kernel
theorem dX10_told_11 : decode cX10_told 11 = .ok (.invokestatic 145, 3) := by decide +kernel
theorem dX10_told_14 : decode cX10_told 14 = .ok (.ifCond .ne 7, 3) := by decide +kernel
theorem dX10_told_17 : decode cX10_told 17 = .ok (.ldc2_w 221, 3) := by decide +kernel
theorem dX10_told_20 : decode cX10_told 20 = .ok (.lreturn, 1) := by decide +kernel
theorem dX10_told_21 : decode cX10_told 21 = .ok (.iload_n 2, 1) := by decide +kernel
theorem dX10_told_22 : decode cX10_told 22 = .ok (.ifCond .ne 12, 3) := by decide +kernel
theorem dX10_told_25 : decode cX10_told 25 = .ok (.aload_n 0, 1) := by decide +kernel
theorem dX10_told_26 : decode cX10_told 26 = .ok (.getfield 22, 3) := by decide +kernel
theorem dX10_told_29 : decode cX10_told 29 = .ok (.iload_n 1, 1) := by decide +kernel
theorem dX10_told_30 : decode cX10_told 30 = .ok (.laload, 1) := by decide +kernel
theorem dX10_told_31 : decode cX10_told 31 = .ok (.goto 36, 3) := by decide +kernel
theorem dX10_told_34 : decode cX10_told 34 = .ok (.iload_n 2, 1) := by decide +kernel
theorem dX10_told_35 : decode cX10_told 35 = .ok (.iconst 1, 1) := by decide +kernel
theorem dX10_told_36 : decode cX10_told 36 = .ok (.if_icmp .ne 11, 3) := by decide +kernel
theorem dX10_told_39 : decode cX10_told 39 = .ok (.aload_n 0, 1) := by decide +kernel
theorem dX10_told_40 : decode cX10_told 40 = .ok (.iload_n 1, 1) := by decide +kernel
theorem dX10_told_41 : decode cX10_told 41 = .ok (.invokevirtual 184, 3) := by decide +kernel
theorem dX10_told_44 : decode cX10_told 44 = .ok (.goto 23, 3) := by decide +kernel
theorem dX10_told_47 : decode cX10_told 47 = .ok (.iload_n 2, 1) := by decide +kernel
theorem dX10_told_48 : decode cX10_told 48 = .ok (.iconst 2, 1) := by decide +kernel
theorem dX10_told_49 : decode cX10_told 49 = .ok (.if_icmp .ne 12, 3) := by decide +kernel
theorem dX10_told_52 : decode cX10_told 52 = .ok (.aload_n 0, 1) := by decide +kernel
theorem dX10_told_53 : decode cX10_told 53 = .ok (.getfield 26, 3) := by decide +kernel
theorem dX10_told_56 : decode cX10_told 56 = .ok (.iload_n 1, 1) := by decide +kernel
theorem dX10_told_57 : decode cX10_told 57 = .ok (.laload, 1) := by decide +kernel
theorem dX10_told_58 : decode cX10_told 58 = .ok (.goto 9, 3) := by decide +kernel
theorem dX10_told_61 : decode cX10_told 61 = .ok (.aload_n 0, 1) := by decide +kernel
theorem dX10_told_62 : decode cX10_told 62 = .ok (.getfield 29, 3) := by decide +kernel
theorem dX10_told_65 : decode cX10_told 65 = .ok (.iload_n 1, 1) := by decide +kernel
theorem dX10_told_66 : decode cX10_told 66 = .ok (.laload, 1) := by decide +kernel
theorem dX10_told_67 : decode cX10_told 67 = .ok (.lreturn, 1) := by decide +kernel
theorem dX10_flow_0 : decode cX10_flow 0 = .ok (.iload_n 1, 1) := by decide +kernel
theorem dX10_flow_1 : decode cX10_flow 1 = .ok (.iconst 0, 1) := by decide +kernel
theorem dX10_flow_2 : decode cX10_flow 2 = .ok (.aload_n 0, 1) := by decide +kernel
theorem dX10_flow_3 : decode cX10_flow 3 = .ok (.getfield 151, 3) := by decide +kernel
theorem dX10_flow_6 : decode cX10_flow 6 = .ok (.iconst 1, 1) := by decide +kernel
theorem dX10_flow_7 : decode cX10_flow 7 = .ok (.isub, 1) := by decide +kernel
theorem dX10_flow_8 : decode cX10_flow 8 = .ok (.invokestatic 145, 3) := by decide +kernel
theorem dX10_flow_11 : decode cX10_flow 11 = .ok (.ifCond .eq 12, 3) := by decide +kernel
theorem dX10_flow_14 : decode cX10_flow 14 = .ok (.iload_n 2, 1) := by decide +kernel
theorem dX10_flow_15 : decode cX10_flow 15 = .ok (.iconst 0, 1) := by decide +kernel
theorem dX10_flow_16 : decode cX10_flow 16 = .ok (.iconst 2, 1) := by decide +kernel
theorem dX10_flow_17 : decode cX10_flow 17 = .ok (.invokestatic 145, 3) := by decide +kernel
theorem dX10_flow_20 : decode cX10_flow 20 = .ok (.ifCond .ne 7, 3) := by decide +kernel
theorem dX10_flow_23 : decode cX10_flow 23 = .ok (.ldc2_w 223, 3) := by decide +kernel
theorem dX10_flow_26 : decode cX10_flow 26 = .ok (.lreturn, 1) := by decide +kernel
theorem dX10_flow_27 : decode cX10_flow 27 = .ok (.iload_n 2, 1) := by decide +kernel
theorem dX10_flow_28 : decode cX10_flow 28 = .ok (.ifCond .ne 12, 3) := by decide +kernel
theorem dX10_flow_31 : decode cX10_flow 31 = .ok (.aload_n 0, 1) := by decide +kernel
theorem dX10_flow_32 : decode cX10_flow 32 = .ok (.getfield 50, 3) := by decide +kernel
theorem dX10_flow_35 : decode cX10_flow 35 = .ok (.iload_n 1, 1) := by decide +kernel
theorem dX10_flow_36 : decode cX10_flow 36 = .ok (.laload, 1) := by decide +kernel
theorem dX10_flow_37 : decode cX10_flow 37 = .ok (.goto 23, 3) := by decide +kernel
theorem dX10_flow_40 : decode cX10_flow 40 = .ok (.iload_n 2, 1) := by decide +kernel
theorem dX10_flow_41 : decode cX10_flow 41 = .ok (.iconst 1, 1) := by decide +kernel
theorem dX10_flow_42 : decode cX10_flow 42 = .ok (.if_icmp .ne 12, 3) := by decide +kernel
theorem dX10_flow_45 : decode cX10_flow 45 = .ok (.aload_n 0, 1) := by decide +kernel
theorem dX10_flow_46 : decode cX10_flow 46 = .ok (.getfield 53, 3) := by decide +kernel
theorem dX10_flow_49 : decode cX10_flow 49 = .ok (.iload_n 1, 1) := by decide +kernel
theorem dX10_flow_50 : decode cX10_flow 50 = .ok (.laload, 1) := by decide +kernel
theorem dX10_flow_51 : decode cX10_flow 51 = .ok (.goto 9, 3) := by decide +kernel
theorem dX10_flow_54 : decode cX10_flow 54 = .ok (.aload_n 0, 1) := by decide +kernel
theorem dX10_flow_55 : decode cX10_flow 55 = .ok (.getfield 47, 3) := by decide +kernel
theorem dX10_flow_58 : decode cX10_flow 58 = .ok (.iload_n 1, 1) := by decide +kernel
theorem dX10_flow_59 : decode cX10_flow 59 = .ok (.laload, 1) := by decide +kernel
theorem dX10_flow_60 : decode cX10_flow 60 = .ok (.lreturn, 1) := by decide +kernel
theorem dX10_cell_0 : decode cX10_cell 0 = .ok (.iload_n 1, 1) := by decide +kernel
theorem dX10_cell_1 : decode cX10_cell 1 = .ok (.iconst 0, 1) := by decide +kernel
theorem dX10_cell_2 : decode cX10_cell 2 = .ok (.bipush 7, 2) := by decide +kernel
theorem dX10_cell_4 : decode cX10_cell 4 = .ok (.invokestatic 145, 3) := by decide +kernel
theorem dX10_cell_7 : decode cX10_cell 7 = .ok (.ifCond .eq 12, 3) := by decide +kernel
theorem dX10_cell_10 : decode cX10_cell 10 = .ok (.aload_n 0, 1) := by decide +kernel
theorem dX10_cell_11 : decode cX10_cell 11 = .ok (.getfield 108, 3) := by decide +kernel
theorem dX10_cell_14 : decode cX10_cell 14 = .ok (.iload_n 1, 1) := by decide +kernel
theorem dX10_cell_15 : decode cX10_cell 15 = .ok (.laload, 1) := by decide +kernel
theorem dX10_cell_16 : decode cX10_cell 16 = .ok (.goto 6, 3) := by decide +kernel
theorem dX10_cell_19 : decode cX10_cell 19 = .ok (.ldc2_w 225, 3) := by decide +kernel
theorem dX10_cell_22 : decode cX10_cell 22 = .ok (.lreturn, 1) := by decide +kernel
theorem dX10_pumps_0 : decode cX10_pumps 0 = .ok (.iload_n 1, 1) := by decide +kernel
theorem dX10_pumps_1 : decode cX10_pumps 1 = .ok (.iconst 0, 1) := by decide +kernel
theorem dX10_pumps_2 : decode cX10_pumps 2 = .ok (.aload_n 0, 1) := by decide +kernel
theorem dX10_pumps_3 : decode cX10_pumps 3 = .ok (.getfield 162, 3) := by decide +kernel
theorem dX10_pumps_6 : decode cX10_pumps 6 = .ok (.iconst 1, 1) := by decide +kernel
theorem dX10_pumps_7 : decode cX10_pumps 7 = .ok (.isub, 1) := by decide +kernel
theorem dX10_pumps_8 : decode cX10_pumps 8 = .ok (.invokestatic 145, 3) := by decide +kernel
theorem dX10_pumps_11 : decode cX10_pumps 11 = .ok (.ifCond .ne 7, 3) := by decide +kernel
theorem dX10_pumps_14 : decode cX10_pumps 14 = .ok (.iconst (-1), 1) := by decide +kernel
theorem dX10_pumps_15 : decode cX10_pumps 15 = .ok (.goto 17, 3) := by decide +kernel
theorem dX10_pumps_18 : decode cX10_pumps 18 = .ok (.aload_n 0, 1) := by decide +kernel
theorem dX10_pumps_19 : decode cX10_pumps 19 = .ok (.getfield 86, 3) := by decide +kernel
theorem dX10_pumps_22 : decode cX10_pumps 22 = .ok (.iload_n 1, 1) := by decide +kernel
theorem dX10_pumps_23 : decode cX10_pumps 23 = .ok (.baload, 1) := by decide +kernel
theorem dX10_pumps_24 : decode cX10_pumps 24 = .ok (.ifCond .eq 7, 3) := by decide +kernel
theorem dX10_pumps_27 : decode cX10_pumps 27 = .ok (.iconst 1, 1) := by decide +kernel
theorem dX10_pumps_28 : decode cX10_pumps 28 = .ok (.goto 4, 3) := by decide +kernel
theorem dX10_pumps_31 : decode cX10_pumps 31 = .ok (.iconst 0, 1) := by decide +kernel
theorem dX10_pumps_32 : decode cX10_pumps 32 = .ok (.ireturn, 1) := by decide +kernel
theorem dX10_inNodes_0 : decode cX10_inNodes 0 = .ok (.lconst 0, 1) := by decide +kernel
theorem dX10_inNodes_1 : decode cX10_inNodes 1 = .ok (.lstore_n 1, 1) := by decide +kernel
theorem dX10_inNodes_2 : decode cX10_inNodes 2 = .ok (.iconst 0, 1) := by decide +kernel
theorem dX10_inNodes_3 : decode cX10_inNodes 3 = .ok (.istore_n 3, 1) := by decide +kernel
theorem dX10_inNodes_4 : decode cX10_inNodes 4 = .ok (.iload_n 3, 1) := by decide +kernel
theorem dX10_inNodes_5 : decode cX10_inNodes 5 = .ok (.aload_n 0, 1) := by decide +kernel
theorem dX10_inNodes_6 : decode cX10_inNodes 6 = .ok (.getfield 142, 3) := by decide +kernel
theorem dX10_inNodes_9 : decode cX10_inNodes 9 = .ok (.if_icmp .ge 18, 3) := by decide +kernel
theorem dX10_inNodes_12 : decode cX10_inNodes 12 = .ok (.lload_n 1, 1) := by decide +kernel
theorem dX10_inNodes_13 : decode cX10_inNodes 13 = .ok (.aload_n 0, 1) := by decide +kernel
theorem dX10_inNodes_14 : decode cX10_inNodes 14 = .ok (.getfield 22, 3) := by decide +kernel
theorem dX10_inNodes_17 : decode cX10_inNodes 17 = .ok (.iload_n 3, 1) := by decide +kernel
theorem dX10_inNodes_18 : decode cX10_inNodes 18 = .ok (.laload, 1) := by decide +kernel
theorem dX10_inNodes_19 : decode cX10_inNodes 19 = .ok (.ladd, 1) := by decide +kernel
theorem dX10_inNodes_20 : decode cX10_inNodes 20 = .ok (.lstore_n 1, 1) := by decide +kernel
theorem dX10_inNodes_21 : decode cX10_inNodes 21 = .ok (.iinc 3 1, 3) := by decide +kernel
theorem dX10_inNodes_24 : decode cX10_inNodes 24 = .ok (.goto (-20), 3) := by decide +kernel
theorem dX10_inNodes_27 : decode cX10_inNodes 27 = .ok (.lload_n 1, 1) := by decide +kernel
theorem dX10_inNodes_28 : decode cX10_inNodes 28 = .ok (.lreturn, 1) := by decide +kernel
theorem dX10_inCells_0 : decode cX10_inCells 0 = .ok (.lconst 0, 1) := by decide +kernel
theorem dX10_inCells_1 : decode cX10_inCells 1 = .ok (.lstore_n 1, 1) := by decide +kernel
theorem dX10_inCells_2 : decode cX10_inCells 2 = .ok (.iconst 0, 1) := by decide +kernel
theorem dX10_inCells_3 : decode cX10_inCells 3 = .ok (.istore_n 3, 1) := by decide +kernel
theorem dX10_inCells_4 : decode cX10_inCells 4 = .ok (.iload_n 3, 1) := by decide +kernel
theorem dX10_inCells_5 : decode cX10_inCells 5 = .ok (.bipush 8, 2) := by decide +kernel
theorem dX10_inCells_7 : decode cX10_inCells 7 = .ok (.if_icmp .ge 18, 3) := by decide +kernel
theorem dX10_inCells_10 : decode cX10_inCells 10 = .ok (.lload_n 1, 1) := by decide +kernel
theorem dX10_inCells_11 : decode cX10_inCells 11 = .ok (.aload_n 0, 1) := by decide +kernel
theorem dX10_inCells_12 : decode cX10_inCells 12 = .ok (.getfield 108, 3) := by decide +kernel
theorem dX10_inCells_15 : decode cX10_inCells 15 = .ok (.iload_n 3, 1) := by decide +kernel
theorem dX10_inCells_16 : decode cX10_inCells 16 = .ok (.laload, 1) := by decide +kernel
theorem dX10_inCells_17 : decode cX10_inCells 17 = .ok (.ladd, 1) := by decide +kernel
theorem dX10_inCells_18 : decode cX10_inCells 18 = .ok (.lstore_n 1, 1) := by decide +kernel
theorem dX10_inCells_19 : decode cX10_inCells 19 = .ok (.iinc 3 1, 3) := by decide +kernel
theorem dX10_inCells_22 : decode cX10_inCells 22 = .ok (.goto (-18), 3) := by decide +kernel
theorem dX10_inCells_25 : decode cX10_inCells 25 = .ok (.lload_n 1, 1) := by decide +kernel
theorem dX10_inCells_26 : decode cX10_inCells 26 = .ok (.lreturn, 1) := by decide +kernel
theorem dX10_litres_0 : decode cX10_litres 0 = .ok (.iload_n 1, 1) := by decide +kernel
theorem dX10_litres_1 : decode cX10_litres 1 = .ok (.tableswitch 60 0 4 #[35, 40, 45, 50, 55], 35) := by decide +kernel
theorem dX10_litres_36 : decode cX10_litres 36 = .ok (.aload_n 0, 1) := by decide +kernel
theorem dX10_litres_37 : decode cX10_litres 37 = .ok (.getfield 174, 3) := by decide +kernel
theorem dX10_litres_40 : decode cX10_litres 40 = .ok (.lreturn, 1) := by decide +kernel
theorem dX10_litres_41 : decode cX10_litres 41 = .ok (.aload_n 0, 1) := by decide +kernel
theorem dX10_litres_42 : decode cX10_litres 42 = .ok (.invokevirtual 227, 3) := by decide +kernel
theorem dX10_litres_45 : decode cX10_litres 45 = .ok (.lreturn, 1) := by decide +kernel
theorem dX10_litres_46 : decode cX10_litres 46 = .ok (.aload_n 0, 1) := by decide +kernel
theorem dX10_litres_47 : decode cX10_litres 47 = .ok (.invokevirtual 231, 3) := by decide +kernel
theorem dX10_litres_50 : decode cX10_litres 50 = .ok (.lreturn, 1) := by decide +kernel
theorem dX10_litres_51 : decode cX10_litres 51 = .ok (.aload_n 0, 1) := by decide +kernel
theorem dX10_litres_52 : decode cX10_litres 52 = .ok (.getfield 188, 3) := by decide +kernel
theorem dX10_litres_55 : decode cX10_litres 55 = .ok (.lreturn, 1) := by decide +kernel
theorem dX10_litres_56 : decode cX10_litres 56 = .ok (.aload_n 0, 1) := by decide +kernel
theorem dX10_litres_57 : decode cX10_litres 57 = .ok (.getfield 194, 3) := by decide +kernel
theorem dX10_litres_60 : decode cX10_litres 60 = .ok (.lreturn, 1) := by decide +kernel
theorem dX10_litres_61 : decode cX10_litres 61 = .ok (.ldc2_w 225, 3) := by decide +kernel
theorem dX10_litres_64 : decode cX10_litres 64 = .ok (.lreturn, 1) := by decide +kernel
theorem dX10_keeps_0 : decode cX10_keeps 0 = .ok (.aload_n 0, 1) := by decide +kernel
theorem dX10_keeps_1 : decode cX10_keeps 1 = .ok (.getfield 174, 3) := by decide +kernel
theorem dX10_keeps_4 : decode cX10_keeps 4 = .ok (.aload_n 0, 1) := by decide +kernel
theorem dX10_keeps_5 : decode cX10_keeps 5 = .ok (.invokevirtual 227, 3) := by decide +kernel
theorem dX10_keeps_8 : decode cX10_keeps 8 = .ok (.aload_n 0, 1) := by decide +kernel
theorem dX10_keeps_9 : decode cX10_keeps 9 = .ok (.invokevirtual 231, 3) := by decide +kernel
theorem dX10_keeps_12 : decode cX10_keeps 12 = .ok (.ladd, 1) := by decide +kernel
theorem dX10_keeps_13 : decode cX10_keeps 13 = .ok (.aload_n 0, 1) := by decide +kernel
theorem dX10_keeps_14 : decode cX10_keeps 14 = .ok (.getfield 188, 3) := by decide +kernel
theorem dX10_keeps_17 : decode cX10_keeps 17 = .ok (.ladd, 1) := by decide +kernel
theorem dX10_keeps_18 : decode cX10_keeps 18 = .ok (.aload_n 0, 1) := by decide +kernel
theorem dX10_keeps_19 : decode cX10_keeps 19 = .ok (.getfield 194, 3) := by decide +kernel
theorem dX10_keeps_22 : decode cX10_keeps 22 = .ok (.ladd, 1) := by decide +kernel
theorem dX10_keeps_23 : decode cX10_keeps 23 = .ok (.lcmp, 1) := by decide +kernel
theorem dX10_keeps_24 : decode cX10_keeps 24 = .ok (.ifCond .ne 7, 3) := by decide +kernel
theorem dX10_keeps_27 : decode cX10_keeps 27 = .ok (.iconst 1, 1) := by decide +kernel
theorem dX10_keeps_28 : decode cX10_keeps 28 = .ok (.goto 4, 3) := by decide +kernel
theorem dX10_keeps_31 : decode cX10_keeps 31 = .ok (.iconst 0, 1) := by decide +kernel
theorem dX10_keeps_32 : decode cX10_keeps 32 = .ok (.ireturn, 1) := by decide +kernel
theorem dX10_list_0 : decode cX10_list 0 = .ok (.aload_n 0, 1) := by decide +kernel
theorem dX10_list_1 : decode cX10_list 1 = .ok (.getfield 234, 3) := by decide +kernel
theorem dX10_list_4 : decode cX10_list 4 = .ok (.bipush 6, 2) := by decide +kernel
theorem dX10_list_6 : decode cX10_list 6 = .ok (.if_icmp .eq 47, 3) := by decide +kernel
theorem dX10_list_9 : decode cX10_list 9 = .ok (.iload_n 1, 1) := by decide +kernel
theorem dX10_list_10 : decode cX10_list 10 = .ok (.bipush 10, 2) := by decide +kernel
theorem dX10_list_12 : decode cX10_list 12 = .ok (.sipush 3000, 3) := by decide +kernel
theorem dX10_list_15 : decode cX10_list 15 = .ok (.invokestatic 145, 3) := by decide +kernel
theorem dX10_list_18 : decode cX10_list 18 = .ok (.ifCond .eq 35, 3) := by decide +kernel
theorem dX10_list_21 : decode cX10_list 21 = .ok (.iload_n 2, 1) := by decide +kernel
theorem dX10_list_22 : decode cX10_list 22 = .ok (.iconst 0, 1) := by decide +kernel
theorem dX10_list_23 : decode cX10_list 23 = .ok (.ldc 150, 2) := by decide +kernel
theorem dX10_list_25 : decode cX10_list 25 = .ok (.invokestatic 145, 3) := by decide +kernel
theorem dX10_list_28 : decode cX10_list 28 = .ok (.ifCond .eq 25, 3) := by decide +kernel
theorem dX10_list_31 : decode cX10_list 31 = .ok (.aload_n 0, 1) := by decide +kernel
theorem dX10_list_32 : decode cX10_list 32 = .ok (.getfield 234, 3) := by decide +kernel
theorem dX10_list_35 : decode cX10_list 35 = .ok (.ifCond .le 20, 3) := by decide +kernel
theorem dX10_list_38 : decode cX10_list 38 = .ok (.iload_n 1, 1) := by decide +kernel
theorem dX10_list_39 : decode cX10_list 39 = .ok (.aload_n 0, 1) := by decide +kernel
theorem dX10_list_40 : decode cX10_list 40 = .ok (.getfield 111, 3) := by decide +kernel
theorem dX10_list_43 : decode cX10_list 43 = .ok (.aload_n 0, 1) := by decide +kernel
theorem dX10_list_44 : decode cX10_list 44 = .ok (.getfield 234, 3) := by decide +kernel
theorem dX10_list_47 : decode cX10_list 47 = .ok (.iconst 1, 1) := by decide +kernel
theorem dX10_list_48 : decode cX10_list 48 = .ok (.isub, 1) := by decide +kernel
theorem dX10_list_49 : decode cX10_list 49 = .ok (.iaload, 1) := by decide +kernel
theorem dX10_list_50 : decode cX10_list 50 = .ok (.if_icmp .gt 5, 3) := by decide +kernel
theorem dX10_list_53 : decode cX10_list 53 = .ok (.iconst (-1), 1) := by decide +kernel
theorem dX10_list_54 : decode cX10_list 54 = .ok (.ireturn, 1) := by decide +kernel
theorem dX10_list_55 : decode cX10_list 55 = .ok (.aload_n 0, 1) := by decide +kernel
theorem dX10_list_56 : decode cX10_list 56 = .ok (.getfield 111, 3) := by decide +kernel
theorem dX10_list_59 : decode cX10_list 59 = .ok (.aload_n 0, 1) := by decide +kernel
theorem dX10_list_60 : decode cX10_list 60 = .ok (.getfield 234, 3) := by decide +kernel
theorem dX10_list_63 : decode cX10_list 63 = .ok (.iload_n 1, 1) := by decide +kernel
theorem dX10_list_64 : decode cX10_list 64 = .ok (.iastore, 1) := by decide +kernel
theorem dX10_list_65 : decode cX10_list 65 = .ok (.aload_n 0, 1) := by decide +kernel
theorem dX10_list_66 : decode cX10_list 66 = .ok (.getfield 114, 3) := by decide +kernel
theorem dX10_list_69 : decode cX10_list 69 = .ok (.aload_n 0, 1) := by decide +kernel
theorem dX10_list_70 : decode cX10_list 70 = .ok (.getfield 234, 3) := by decide +kernel
theorem dX10_list_73 : decode cX10_list 73 = .ok (.iload_n 2, 1) := by decide +kernel
theorem dX10_list_74 : decode cX10_list 74 = .ok (.iastore, 1) := by decide +kernel
theorem dX10_list_75 : decode cX10_list 75 = .ok (.aload_n 0, 1) := by decide +kernel
theorem dX10_list_76 : decode cX10_list 76 = .ok (.dup, 1) := by decide +kernel
theorem dX10_list_77 : decode cX10_list 77 = .ok (.getfield 234, 3) := by decide +kernel
theorem dX10_list_80 : decode cX10_list 80 = .ok (.iconst 1, 1) := by decide +kernel
theorem dX10_list_81 : decode cX10_list 81 = .ok (.iadd, 1) := by decide +kernel
theorem dX10_list_82 : decode cX10_list 82 = .ok (.putfield 234, 3) := by decide +kernel
theorem dX10_list_85 : decode cX10_list 85 = .ok (.aload_n 0, 1) := by decide +kernel
theorem dX10_list_86 : decode cX10_list 86 = .ok (.iconst 0, 1) := by decide +kernel
theorem dX10_list_87 : decode cX10_list 87 = .ok (.putfield 237, 3) := by decide +kernel
theorem dX10_list_90 : decode cX10_list 90 = .ok (.aload_n 0, 1) := by decide +kernel
theorem dX10_list_91 : decode cX10_list 91 = .ok (.getfield 234, 3) := by decide +kernel
theorem dX10_list_94 : decode cX10_list 94 = .ok (.iconst 1, 1) := by decide +kernel
theorem dX10_list_95 : decode cX10_list 95 = .ok (.isub, 1) := by decide +kernel
theorem dX10_list_96 : decode cX10_list 96 = .ok (.ireturn, 1) := by decide +kernel
theorem dX10_begin_0 : decode cX10_begin 0 = .ok (.iload_n 1, 1) := by decide +kernel
theorem dX10_begin_1 : decode cX10_begin 1 = .ok (.ldc 149, 2) := by decide +kernel
theorem dX10_begin_3 : decode cX10_begin 3 = .ok (.ldc 150, 2) := by decide +kernel
theorem dX10_begin_5 : decode cX10_begin 5 = .ok (.invokestatic 145, 3) := by decide +kernel
theorem dX10_begin_8 : decode cX10_begin 8 = .ok (.ifCond .eq 14, 3) := by decide +kernel
theorem dX10_begin_11 : decode cX10_begin 11 = .ok (.iload_n 2, 1) := by decide +kernel
theorem dX10_begin_12 : decode cX10_begin 12 = .ok (.ldc 149, 2) := by decide +kernel
theorem dX10_begin_14 : decode cX10_begin 14 = .ok (.ldc 150, 2) := by decide +kernel
theorem dX10_begin_16 : decode cX10_begin 16 = .ok (.invokestatic 145, 3) := by decide +kernel
theorem dX10_begin_19 : decode cX10_begin 19 = .ok (.ifCond .ne 5, 3) := by decide +kernel
theorem dX10_begin_22 : decode cX10_begin 22 = .ok (.iconst 0, 1) := by decide +kernel
theorem dX10_begin_23 : decode cX10_begin 23 = .ok (.ireturn, 1) := by decide +kernel
theorem dX10_begin_24 : decode cX10_begin 24 = .ok (.aload_n 0, 1) := by decide +kernel
theorem dX10_begin_25 : decode cX10_begin 25 = .ok (.iconst 1, 1) := by decide +kernel
theorem dX10_begin_26 : decode cX10_begin 26 = .ok (.putfield 241, 3) := by decide +kernel
theorem dX10_begin_29 : decode cX10_begin 29 = .ok (.aload_n 0, 1) := by decide +kernel
theorem dX10_begin_30 : decode cX10_begin 30 = .ok (.iload_n 1, 1) := by decide +kernel
theorem dX10_begin_31 : decode cX10_begin 31 = .ok (.putfield 244, 3) := by decide +kernel
theorem dX10_begin_34 : decode cX10_begin 34 = .ok (.aload_n 0, 1) := by decide +kernel
theorem dX10_begin_35 : decode cX10_begin 35 = .ok (.iload_n 2, 1) := by decide +kernel
theorem dX10_begin_36 : decode cX10_begin 36 = .ok (.putfield 247, 3) := by decide +kernel
theorem dX10_begin_39 : decode cX10_begin 39 = .ok (.aload_n 0, 1) := by decide +kernel
theorem dX10_begin_40 : decode cX10_begin 40 = .ok (.iconst 0, 1) := by decide +kernel
theorem dX10_begin_41 : decode cX10_begin 41 = .ok (.putfield 250, 3) := by decide +kernel
theorem dX10_begin_44 : decode cX10_begin 44 = .ok (.aload_n 0, 1) := by decide +kernel
theorem dX10_begin_45 : decode cX10_begin 45 = .ok (.iconst 0, 1) := by decide +kernel
theorem dX10_begin_46 : decode cX10_begin 46 = .ok (.putfield 237, 3) := by decide +kernel
theorem dX10_begin_49 : decode cX10_begin 49 = .ok (.iconst 1, 1) := by decide +kernel
theorem dX10_begin_50 : decode cX10_begin 50 = .ok (.ireturn, 1) := by decide +kernel
theorem dX10_piece_0 : decode cX10_piece 0 = .ok (.aload_n 0, 1) := by decide +kernel
theorem dX10_piece_1 : decode cX10_piece 1 = .ok (.getfield 241, 3) := by decide +kernel
theorem dX10_piece_4 : decode cX10_piece 4 = .ok (.ifCond .eq 45, 3) := by decide +kernel
theorem dX10_piece_7 : decode cX10_piece 7 = .ok (.aload_n 0, 1) := by decide +kernel
theorem dX10_piece_8 : decode cX10_piece 8 = .ok (.getfield 250, 3) := by decide +kernel
theorem dX10_piece_11 : decode cX10_piece 11 = .ok (.bipush 10, 2) := by decide +kernel
theorem dX10_piece_13 : decode cX10_piece 13 = .ok (.if_icmp .eq 36, 3) := by decide +kernel
theorem dX10_piece_16 : decode cX10_piece 16 = .ok (.iload_n 1, 1) := by decide +kernel
theorem dX10_piece_17 : decode cX10_piece 17 = .ok (.ldc 149, 2) := by decide +kernel
theorem dX10_piece_19 : decode cX10_piece 19 = .ok (.ldc 150, 2) := by decide +kernel
theorem dX10_piece_21 : decode cX10_piece 21 = .ok (.invokestatic 145, 3) := by decide +kernel
theorem dX10_piece_24 : decode cX10_piece 24 = .ok (.ifCond .eq 25, 3) := by decide +kernel
theorem dX10_piece_27 : decode cX10_piece 27 = .ok (.iload_n 2, 1) := by decide +kernel
theorem dX10_piece_28 : decode cX10_piece 28 = .ok (.iconst 1, 1) := by decide +kernel
theorem dX10_piece_29 : decode cX10_piece 29 = .ok (.sipush 10000, 3) := by decide +kernel
theorem dX10_piece_32 : decode cX10_piece 32 = .ok (.invokestatic 145, 3) := by decide +kernel
theorem dX10_piece_35 : decode cX10_piece 35 = .ok (.ifCond .eq 14, 3) := by decide +kernel
theorem dX10_piece_38 : decode cX10_piece 38 = .ok (.iload_n 3, 1) := by decide +kernel
theorem dX10_piece_39 : decode cX10_piece 39 = .ok (.iconst 0, 1) := by decide +kernel
theorem dX10_piece_40 : decode cX10_piece 40 = .ok (.sipush 10000, 3) := by decide +kernel
theorem dX10_piece_43 : decode cX10_piece 43 = .ok (.invokestatic 145, 3) := by decide +kernel
theorem dX10_piece_46 : decode cX10_piece 46 = .ok (.ifCond .ne 5, 3) := by decide +kernel
theorem dX10_piece_49 : decode cX10_piece 49 = .ok (.iconst (-1), 1) := by decide +kernel
theorem dX10_piece_50 : decode cX10_piece 50 = .ok (.ireturn, 1) := by decide +kernel
theorem dX10_piece_51 : decode cX10_piece 51 = .ok (.aload_n 0, 1) := by decide +kernel
theorem dX10_piece_52 : decode cX10_piece 52 = .ok (.getfield 117, 3) := by decide +kernel
theorem dX10_piece_55 : decode cX10_piece 55 = .ok (.aload_n 0, 1) := by decide +kernel
theorem dX10_piece_56 : decode cX10_piece 56 = .ok (.getfield 250, 3) := by decide +kernel
theorem dX10_piece_59 : decode cX10_piece 59 = .ok (.iload_n 1, 1) := by decide +kernel
theorem dX10_piece_60 : decode cX10_piece 60 = .ok (.iastore, 1) := by decide +kernel
theorem dX10_piece_61 : decode cX10_piece 61 = .ok (.aload_n 0, 1) := by decide +kernel
theorem dX10_piece_62 : decode cX10_piece 62 = .ok (.getfield 120, 3) := by decide +kernel
theorem dX10_piece_65 : decode cX10_piece 65 = .ok (.aload_n 0, 1) := by decide +kernel
theorem dX10_piece_66 : decode cX10_piece 66 = .ok (.getfield 250, 3) := by decide +kernel
theorem dX10_piece_69 : decode cX10_piece 69 = .ok (.iload_n 2, 1) := by decide +kernel
theorem dX10_piece_70 : decode cX10_piece 70 = .ok (.iastore, 1) := by decide +kernel
theorem dX10_piece_71 : decode cX10_piece 71 = .ok (.aload_n 0, 1) := by decide +kernel
theorem dX10_piece_72 : decode cX10_piece 72 = .ok (.getfield 123, 3) := by decide +kernel
theorem dX10_piece_75 : decode cX10_piece 75 = .ok (.aload_n 0, 1) := by decide +kernel
theorem dX10_piece_76 : decode cX10_piece 76 = .ok (.getfield 250, 3) := by decide +kernel
theorem dX10_piece_79 : decode cX10_piece 79 = .ok (.iload_n 3, 1) := by decide +kernel
theorem dX10_piece_80 : decode cX10_piece 80 = .ok (.iastore, 1) := by decide +kernel
theorem dX10_piece_81 : decode cX10_piece 81 = .ok (.aload_n 0, 1) := by decide +kernel
theorem dX10_piece_82 : decode cX10_piece 82 = .ok (.dup, 1) := by decide +kernel
theorem dX10_piece_83 : decode cX10_piece 83 = .ok (.getfield 250, 3) := by decide +kernel
theorem dX10_piece_86 : decode cX10_piece 86 = .ok (.iconst 1, 1) := by decide +kernel
theorem dX10_piece_87 : decode cX10_piece 87 = .ok (.iadd, 1) := by decide +kernel
theorem dX10_piece_88 : decode cX10_piece 88 = .ok (.putfield 250, 3) := by decide +kernel
theorem dX10_piece_91 : decode cX10_piece 91 = .ok (.aload_n 0, 1) := by decide +kernel
theorem dX10_piece_92 : decode cX10_piece 92 = .ok (.iconst 0, 1) := by decide +kernel
theorem dX10_piece_93 : decode cX10_piece 93 = .ok (.putfield 237, 3) := by decide +kernel
theorem dX10_piece_96 : decode cX10_piece 96 = .ok (.aload_n 0, 1) := by decide +kernel
theorem dX10_piece_97 : decode cX10_piece 97 = .ok (.getfield 250, 3) := by decide +kernel
theorem dX10_piece_100 : decode cX10_piece 100 = .ok (.iconst 1, 1) := by decide +kernel
theorem dX10_piece_101 : decode cX10_piece 101 = .ok (.isub, 1) := by decide +kernel
theorem dX10_piece_102 : decode cX10_piece 102 = .ok (.ireturn, 1) := by decide +kernel
theorem dX10_place_0 : decode cX10_place 0 = .ok (.iload_n 1, 1) := by decide +kernel
theorem dX10_place_1 : decode cX10_place 1 = .ok (.sipush 401, 3) := by decide +kernel
theorem dX10_place_4 : decode cX10_place 4 = .ok (.imul, 1) := by decide +kernel
theorem dX10_place_5 : decode cX10_place 5 = .ok (.iload_n 2, 1) := by decide +kernel
theorem dX10_place_6 : decode cX10_place 6 = .ok (.iadd, 1) := by decide +kernel
theorem dX10_place_7 : decode cX10_place 7 = .ok (.bipush 6, 2) := by decide +kernel
theorem dX10_place_9 : decode cX10_place 9 = .ok (.imul, 1) := by decide +kernel
theorem dX10_place_10 : decode cX10_place 10 = .ok (.iload_n 3, 1) := by decide +kernel
theorem dX10_place_11 : decode cX10_place 11 = .ok (.iadd, 1) := by decide +kernel
theorem dX10_place_12 : decode cX10_place 12 = .ok (.ireturn, 1) := by decide +kernel
theorem dX10_with_0 : decode cX10_with 0 = .ok (.aload_n 0, 1) := by decide +kernel
theorem dX10_with_1 : decode cX10_with 1 = .ok (.getfield 111, 3) := by decide +kernel
theorem dX10_with_4 : decode cX10_with 4 = .ok (.iload_n 3, 1) := by decide +kernel
theorem dX10_with_5 : decode cX10_with 5 = .ok (.iaload, 1) := by decide +kernel
theorem dX10_with_6 : decode cX10_with 6 = .ok (.iload 5, 2) := by decide +kernel
theorem dX10_with_8 : decode cX10_with 8 = .ok (.iadd, 1) := by decide +kernel
theorem dX10_with_9 : decode cX10_with 9 = .ok (.istore 7, 2) := by decide +kernel
theorem dX10_with_11 : decode cX10_with 11 = .ok (.iload_n 1, 1) := by decide +kernel
theorem dX10_with_12 : decode cX10_with 12 = .ok (.ifCond .ne 10, 3) := by decide +kernel
theorem dX10_with_15 : decode cX10_with 15 = .ok (.aload_n 0, 1) := by decide +kernel
theorem dX10_with_16 : decode cX10_with 16 = .ok (.getfield 244, 3) := by decide +kernel
theorem dX10_with_19 : decode cX10_with 19 = .ok (.goto 11, 3) := by decide +kernel
theorem dX10_with_22 : decode cX10_with 22 = .ok (.aload_n 0, 1) := by decide +kernel
theorem dX10_with_23 : decode cX10_with 23 = .ok (.getfield 117, 3) := by decide +kernel
theorem dX10_with_26 : decode cX10_with 26 = .ok (.iload_n 1, 1) := by decide +kernel
theorem dX10_with_27 : decode cX10_with 27 = .ok (.iconst 1, 1) := by decide +kernel
theorem dX10_with_28 : decode cX10_with 28 = .ok (.isub, 1) := by decide +kernel
theorem dX10_with_29 : decode cX10_with 29 = .ok (.iaload, 1) := by decide +kernel
theorem dX10_with_30 : decode cX10_with 30 = .ok (.aload_n 0, 1) := by decide +kernel
theorem dX10_with_31 : decode cX10_with 31 = .ok (.getfield 247, 3) := by decide +kernel
theorem dX10_with_34 : decode cX10_with 34 = .ok (.iload_n 2, 1) := by decide +kernel
theorem dX10_with_35 : decode cX10_with 35 = .ok (.isub, 1) := by decide +kernel
theorem dX10_with_36 : decode cX10_with 36 = .ok (.isub, 1) := by decide +kernel
theorem dX10_with_37 : decode cX10_with 37 = .ok (.istore 8, 2) := by decide +kernel
theorem dX10_with_39 : decode cX10_with 39 = .ok (.aload_n 0, 1) := by decide +kernel
theorem dX10_with_40 : decode cX10_with 40 = .ok (.getfield 117, 3) := by decide +kernel
theorem dX10_with_43 : decode cX10_with 43 = .ok (.iload_n 1, 1) := by decide +kernel
theorem dX10_with_44 : decode cX10_with 44 = .ok (.iaload, 1) := by decide +kernel
theorem dX10_with_45 : decode cX10_with 45 = .ok (.aload_n 0, 1) := by decide +kernel
theorem dX10_with_46 : decode cX10_with 46 = .ok (.getfield 247, 3) := by decide +kernel
theorem dX10_with_49 : decode cX10_with 49 = .ok (.iload_n 2, 1) := by decide +kernel
theorem dX10_with_50 : decode cX10_with 50 = .ok (.isub, 1) := by decide +kernel
theorem dX10_with_51 : decode cX10_with 51 = .ok (.iload 4, 2) := by decide +kernel
theorem dX10_with_53 : decode cX10_with 53 = .ok (.isub, 1) := by decide +kernel
theorem dX10_with_54 : decode cX10_with 54 = .ok (.isub, 1) := by decide +kernel
theorem dX10_with_55 : decode cX10_with 55 = .ok (.istore 9, 2) := by decide +kernel
theorem dX10_with_57 : decode cX10_with 57 = .ok (.aload_n 0, 1) := by decide +kernel
theorem dX10_with_58 : decode cX10_with 58 = .ok (.getfield 111, 3) := by decide +kernel
theorem dX10_with_61 : decode cX10_with 61 = .ok (.iload_n 3, 1) := by decide +kernel
theorem dX10_with_62 : decode cX10_with 62 = .ok (.iaload, 1) := by decide +kernel
theorem dX10_with_63 : decode cX10_with 63 = .ok (.i2l, 1) := by decide +kernel
theorem dX10_with_64 : decode cX10_with 64 = .ok (.aload_n 0, 1) := by decide +kernel
theorem dX10_with_65 : decode cX10_with 65 = .ok (.getfield 111, 3) := by decide +kernel
theorem dX10_with_68 : decode cX10_with 68 = .ok (.iload_n 3, 1) := by decide +kernel
theorem dX10_with_69 : decode cX10_with 69 = .ok (.iaload, 1) := by decide +kernel
theorem dX10_with_70 : decode cX10_with 70 = .ok (.i2l, 1) := by decide +kernel
theorem dX10_with_71 : decode cX10_with 71 = .ok (.lmul, 1) := by decide +kernel
theorem dX10_with_72 : decode cX10_with 72 = .ok (.iload 4, 2) := by decide +kernel
theorem dX10_with_74 : decode cX10_with 74 = .ok (.i2l, 1) := by decide +kernel
theorem dX10_with_75 : decode cX10_with 75 = .ok (.lmul, 1) := by decide +kernel
theorem dX10_with_76 : decode cX10_with 76 = .ok (.ldc2_w 178, 3) := by decide +kernel
theorem dX10_with_79 : decode cX10_with 79 = .ok (.aload_n 0, 1) := by decide +kernel
theorem dX10_with_80 : decode cX10_with 80 = .ok (.getfield 120, 3) := by decide +kernel
theorem dX10_with_83 : decode cX10_with 83 = .ok (.iload_n 1, 1) := by decide +kernel
theorem dX10_with_84 : decode cX10_with 84 = .ok (.iaload, 1) := by decide +kernel
theorem dX10_with_85 : decode cX10_with 85 = .ok (.i2l, 1) := by decide +kernel
theorem dX10_with_86 : decode cX10_with 86 = .ok (.lmul, 1) := by decide +kernel
theorem dX10_with_87 : decode cX10_with 87 = .ok (.aload_n 0, 1) := by decide +kernel
theorem dX10_with_88 : decode cX10_with 88 = .ok (.getfield 123, 3) := by decide +kernel
theorem dX10_with_91 : decode cX10_with 91 = .ok (.iload_n 1, 1) := by decide +kernel
theorem dX10_with_92 : decode cX10_with 92 = .ok (.iaload, 1) := by decide +kernel
theorem dX10_with_93 : decode cX10_with 93 = .ok (.i2l, 1) := by decide +kernel
theorem dX10_with_94 : decode cX10_with 94 = .ok (.lmul, 1) := by decide +kernel
theorem dX10_with_95 : decode cX10_with 95 = .ok (.lcmp, 1) := by decide +kernel
theorem dX10_with_96 : decode cX10_with 96 = .ok (.ifCond .lt 7, 3) := by decide +kernel
theorem dX10_with_99 : decode cX10_with 99 = .ok (.iconst 1, 1) := by decide +kernel
theorem dX10_with_100 : decode cX10_with 100 = .ok (.goto 4, 3) := by decide +kernel
theorem dX10_with_103 : decode cX10_with 103 = .ok (.iconst 0, 1) := by decide +kernel
theorem dX10_with_104 : decode cX10_with 104 = .ok (.istore 10, 2) := by decide +kernel
theorem dX10_with_106 : decode cX10_with 106 = .ok (.iload 10, 2) := by decide +kernel
theorem dX10_with_108 : decode cX10_with 108 = .ok (.ifCond .eq 17, 3) := by decide +kernel
theorem dX10_with_111 : decode cX10_with 111 = .ok (.iload 8, 2) := by decide +kernel
theorem dX10_with_113 : decode cX10_with 113 = .ok (.iload 7, 2) := by decide +kernel
theorem dX10_with_115 : decode cX10_with 115 = .ok (.if_icmp .lt 10, 3) := by decide +kernel
theorem dX10_with_118 : decode cX10_with 118 = .ok (.iload 9, 2) := by decide +kernel
theorem dX10_with_120 : decode cX10_with 120 = .ok (.iload 7, 2) := by decide +kernel
theorem dX10_with_122 : decode cX10_with 122 = .ok (.if_icmp .ge 7, 3) := by decide +kernel
theorem dX10_with_125 : decode cX10_with 125 = .ok (.ldc2_w 253, 3) := by decide +kernel
theorem dX10_with_128 : decode cX10_with 128 = .ok (.lreturn, 1) := by decide +kernel
theorem dX10_with_129 : decode cX10_with 129 = .ok (.iload_n 1, 1) := by decide +kernel
theorem dX10_with_130 : decode cX10_with 130 = .ok (.iconst 1, 1) := by decide +kernel
theorem dX10_with_131 : decode cX10_with 131 = .ok (.iadd, 1) := by decide +kernel
theorem dX10_with_132 : decode cX10_with 132 = .ok (.aload_n 0, 1) := by decide +kernel
theorem dX10_with_133 : decode cX10_with 133 = .ok (.getfield 250, 3) := by decide +kernel
theorem dX10_with_136 : decode cX10_with 136 = .ok (.if_icmp .ne 7, 3) := by decide +kernel
theorem dX10_with_139 : decode cX10_with 139 = .ok (.lconst 0, 1) := by decide +kernel
theorem dX10_with_140 : decode cX10_with 140 = .ok (.goto 20, 3) := by decide +kernel
theorem dX10_with_143 : decode cX10_with 143 = .ok (.aload_n 0, 1) := by decide +kernel
theorem dX10_with_144 : decode cX10_with 144 = .ok (.getfield 126, 3) := by decide +kernel
theorem dX10_with_147 : decode cX10_with 147 = .ok (.aload_n 0, 1) := by decide +kernel
theorem dX10_with_148 : decode cX10_with 148 = .ok (.iload_n 1, 1) := by decide +kernel
theorem dX10_with_149 : decode cX10_with 149 = .ok (.iconst 1, 1) := by decide +kernel
theorem dX10_with_150 : decode cX10_with 150 = .ok (.iadd, 1) := by decide +kernel
theorem dX10_with_151 : decode cX10_with 151 = .ok (.iload_n 2, 1) := by decide +kernel
theorem dX10_with_152 : decode cX10_with 152 = .ok (.iload 4, 2) := by decide +kernel
theorem dX10_with_154 : decode cX10_with 154 = .ok (.iadd, 1) := by decide +kernel
theorem dX10_with_155 : decode cX10_with 155 = .ok (.iload_n 3, 1) := by decide +kernel
theorem dX10_with_156 : decode cX10_with 156 = .ok (.invokevirtual 255, 3) := by decide +kernel
theorem dX10_with_159 : decode cX10_with 159 = .ok (.laload, 1) := by decide +kernel
theorem dX10_with_160 : decode cX10_with 160 = .ok (.lstore 11, 2) := by decide +kernel
theorem dX10_with_162 : decode cX10_with 162 = .ok (.lload 11, 2) := by decide +kernel
theorem dX10_with_164 : decode cX10_with 164 = .ok (.ldc2_w 253, 3) := by decide +kernel
theorem dX10_with_167 : decode cX10_with 167 = .ok (.lcmp, 1) := by decide +kernel
theorem dX10_with_168 : decode cX10_with 168 = .ok (.ifCond .lt 9, 3) := by decide +kernel
theorem dX10_with_171 : decode cX10_with 171 = .ok (.ldc2_w 253, 3) := by decide +kernel
theorem dX10_with_174 : decode cX10_with 174 = .ok (.goto 29, 3) := by decide +kernel
theorem dX10_with_177 : decode cX10_with 177 = .ok (.lload 11, 2) := by decide +kernel
theorem dX10_with_179 : decode cX10_with 179 = .ok (.aload_n 0, 1) := by decide +kernel
theorem dX10_with_180 : decode cX10_with 180 = .ok (.getfield 120, 3) := by decide +kernel
theorem dX10_with_183 : decode cX10_with 183 = .ok (.iload_n 1, 1) := by decide +kernel
theorem dX10_with_184 : decode cX10_with 184 = .ok (.iaload, 1) := by decide +kernel
theorem dX10_with_185 : decode cX10_with 185 = .ok (.i2l, 1) := by decide +kernel
theorem dX10_with_186 : decode cX10_with 186 = .ok (.aload_n 0, 1) := by decide +kernel
theorem dX10_with_187 : decode cX10_with 187 = .ok (.getfield 114, 3) := by decide +kernel
theorem dX10_with_190 : decode cX10_with 190 = .ok (.iload_n 3, 1) := by decide +kernel
theorem dX10_with_191 : decode cX10_with 191 = .ok (.iaload, 1) := by decide +kernel
theorem dX10_with_192 : decode cX10_with 192 = .ok (.i2l, 1) := by decide +kernel
theorem dX10_with_193 : decode cX10_with 193 = .ok (.iload 6, 2) := by decide +kernel
theorem dX10_with_195 : decode cX10_with 195 = .ok (.i2l, 1) := by decide +kernel
theorem dX10_with_196 : decode cX10_with 196 = .ok (.iload 9, 2) := by decide +kernel
theorem dX10_with_198 : decode cX10_with 198 = .ok (.i2l, 1) := by decide +kernel
theorem dX10_with_199 : decode cX10_with 199 = .ok (.lmul, 1) := by decide +kernel
theorem dX10_with_200 : decode cX10_with 200 = .ok (.ladd, 1) := by decide +kernel
theorem dX10_with_201 : decode cX10_with 201 = .ok (.lmul, 1) := by decide +kernel
theorem dX10_with_202 : decode cX10_with 202 = .ok (.ladd, 1) := by decide +kernel
theorem dX10_with_203 : decode cX10_with 203 = .ok (.lreturn, 1) := by decide +kernel
theorem dX10_lay_0 : decode cX10_lay 0 = .ok (.aload_n 0, 1) := by decide +kernel
theorem dX10_lay_1 : decode cX10_lay 1 = .ok (.getfield 250, 3) := by decide +kernel
theorem dX10_lay_4 : decode cX10_lay 4 = .ok (.ifCond .eq 25, 3) := by decide +kernel
theorem dX10_lay_7 : decode cX10_lay 7 = .ok (.iload_n 1, 1) := by decide +kernel
theorem dX10_lay_8 : decode cX10_lay 8 = .ok (.iconst 0, 1) := by decide +kernel
theorem dX10_lay_9 : decode cX10_lay 9 = .ok (.sipush 10000, 3) := by decide +kernel
theorem dX10_lay_12 : decode cX10_lay 12 = .ok (.invokestatic 145, 3) := by decide +kernel
theorem dX10_lay_15 : decode cX10_lay 15 = .ok (.ifCond .eq 14, 3) := by decide +kernel
theorem dX10_lay_18 : decode cX10_lay 18 = .ok (.iload_n 2, 1) := by decide +kernel
theorem dX10_lay_19 : decode cX10_lay 19 = .ok (.iconst 0, 1) := by decide +kernel
theorem dX10_lay_20 : decode cX10_lay 20 = .ok (.sipush 1000, 3) := by decide +kernel
theorem dX10_lay_23 : decode cX10_lay 23 = .ok (.invokestatic 145, 3) := by decide +kernel
theorem dX10_lay_26 : decode cX10_lay 26 = .ok (.ifCond .ne 7, 3) := by decide +kernel
theorem dX10_lay_29 : decode cX10_lay 29 = .ok (.ldc2_w 225, 3) := by decide +kernel
theorem dX10_lay_32 : decode cX10_lay 32 = .ok (.lreturn, 1) := by decide +kernel
theorem dX10_lay_33 : decode cX10_lay 33 = .ok (.aload_n 0, 1) := by decide +kernel
theorem dX10_lay_34 : decode cX10_lay 34 = .ok (.getfield 250, 3) := by decide +kernel
theorem dX10_lay_37 : decode cX10_lay 37 = .ok (.iconst 1, 1) := by decide +kernel
theorem dX10_lay_38 : decode cX10_lay 38 = .ok (.isub, 1) := by decide +kernel
theorem dX10_lay_39 : decode cX10_lay 39 = .ok (.istore_n 3, 1) := by decide +kernel
theorem dX10_lay_40 : decode cX10_lay 40 = .ok (.iload_n 3, 1) := by decide +kernel
theorem dX10_lay_41 : decode cX10_lay 41 = .ok (.ifCond .lt 115, 3) := by decide +kernel
theorem dX10_lay_44 : decode cX10_lay 44 = .ok (.iconst 0, 1) := by decide +kernel
theorem dX10_lay_45 : decode cX10_lay 45 = .ok (.istore 4, 2) := by decide +kernel
theorem dX10_lay_47 : decode cX10_lay 47 = .ok (.iload 4, 2) := by decide +kernel
theorem dX10_lay_49 : decode cX10_lay 49 = .ok (.bipush 40, 2) := by decide +kernel
theorem dX10_lay_51 : decode cX10_lay 51 = .ok (.iload_n 3, 1) := by decide +kernel
theorem dX10_lay_52 : decode cX10_lay 52 = .ok (.imul, 1) := by decide +kernel
theorem dX10_lay_53 : decode cX10_lay 53 = .ok (.if_icmp .gt 97, 3) := by decide +kernel
theorem dX10_lay_56 : decode cX10_lay 56 = .ok (.ldc2_w 253, 3) := by decide +kernel
theorem dX10_lay_59 : decode cX10_lay 59 = .ok (.lstore 5, 2) := by decide +kernel
theorem dX10_lay_61 : decode cX10_lay 61 = .ok (.aload_n 0, 1) := by decide +kernel
theorem dX10_lay_62 : decode cX10_lay 62 = .ok (.getfield 234, 3) := by decide +kernel
theorem dX10_lay_65 : decode cX10_lay 65 = .ok (.iconst 1, 1) := by decide +kernel
theorem dX10_lay_66 : decode cX10_lay 66 = .ok (.isub, 1) := by decide +kernel
theorem dX10_lay_67 : decode cX10_lay 67 = .ok (.istore 7, 2) := by decide +kernel
theorem dX10_lay_69 : decode cX10_lay 69 = .ok (.iload 7, 2) := by decide +kernel
theorem dX10_lay_71 : decode cX10_lay 71 = .ok (.ifCond .lt 73, 3) := by decide +kernel
theorem dX10_lay_74 : decode cX10_lay 74 = .ok (.iconst 1, 1) := by decide +kernel
theorem dX10_lay_75 : decode cX10_lay 75 = .ok (.istore 8, 2) := by decide +kernel
theorem dX10_lay_77 : decode cX10_lay 77 = .ok (.iload 8, 2) := by decide +kernel
theorem dX10_lay_79 : decode cX10_lay 79 = .ok (.bipush 40, 2) := by decide +kernel
theorem dX10_lay_81 : decode cX10_lay 81 = .ok (.if_icmp .gt 41, 3) := by decide +kernel
theorem dX10_lay_84 : decode cX10_lay 84 = .ok (.aload_n 0, 1) := by decide +kernel
theorem dX10_lay_85 : decode cX10_lay 85 = .ok (.iload_n 3, 1) := by decide +kernel
theorem dX10_lay_86 : decode cX10_lay 86 = .ok (.iload 4, 2) := by decide +kernel
theorem dX10_lay_88 : decode cX10_lay 88 = .ok (.iload 7, 2) := by decide +kernel
theorem dX10_lay_90 : decode cX10_lay 90 = .ok (.iload 8, 2) := by decide +kernel
theorem dX10_lay_92 : decode cX10_lay 92 = .ok (.iload_n 1, 1) := by decide +kernel
theorem dX10_lay_93 : decode cX10_lay 93 = .ok (.iload_n 2, 1) := by decide +kernel
theorem dX10_lay_94 : decode cX10_lay 94 = .ok (.invokevirtual 259, 3) := by decide +kernel
theorem dX10_lay_97 : decode cX10_lay 97 = .ok (.lstore 9, 2) := by decide +kernel
theorem dX10_lay_99 : decode cX10_lay 99 = .ok (.lload 9, 2) := by decide +kernel
theorem dX10_lay_101 : decode cX10_lay 101 = .ok (.lload 5, 2) := by decide +kernel
theorem dX10_lay_103 : decode cX10_lay 103 = .ok (.lcmp, 1) := by decide +kernel
theorem dX10_lay_104 : decode cX10_lay 104 = .ok (.ifCond .ge 8, 3) := by decide +kernel
theorem dX10_lay_107 : decode cX10_lay 107 = .ok (.lload 9, 2) := by decide +kernel
theorem dX10_lay_109 : decode cX10_lay 109 = .ok (.goto 5, 3) := by decide +kernel
theorem dX10_lay_112 : decode cX10_lay 112 = .ok (.lload 5, 2) := by decide +kernel
theorem dX10_lay_114 : decode cX10_lay 114 = .ok (.lstore 5, 2) := by decide +kernel
theorem dX10_lay_116 : decode cX10_lay 116 = .ok (.iinc 8 1, 3) := by decide +kernel
theorem dX10_lay_119 : decode cX10_lay 119 = .ok (.goto (-42), 3) := by decide +kernel
theorem dX10_lay_122 : decode cX10_lay 122 = .ok (.aload_n 0, 1) := by decide +kernel
theorem dX10_lay_123 : decode cX10_lay 123 = .ok (.getfield 126, 3) := by decide +kernel
theorem dX10_lay_126 : decode cX10_lay 126 = .ok (.aload_n 0, 1) := by decide +kernel
theorem dX10_lay_127 : decode cX10_lay 127 = .ok (.iload_n 3, 1) := by decide +kernel
theorem dX10_lay_128 : decode cX10_lay 128 = .ok (.iload 4, 2) := by decide +kernel
theorem dX10_lay_130 : decode cX10_lay 130 = .ok (.iload 7, 2) := by decide +kernel
theorem dX10_lay_132 : decode cX10_lay 132 = .ok (.invokevirtual 255, 3) := by decide +kernel
theorem dX10_lay_135 : decode cX10_lay 135 = .ok (.lload 5, 2) := by decide +kernel
theorem dX10_lay_137 : decode cX10_lay 137 = .ok (.lastore, 1) := by decide +kernel
theorem dX10_lay_138 : decode cX10_lay 138 = .ok (.iinc 7 (-1), 3) := by decide +kernel
theorem dX10_lay_141 : decode cX10_lay 141 = .ok (.goto (-72), 3) := by decide +kernel
theorem dX10_lay_144 : decode cX10_lay 144 = .ok (.iinc 4 1, 3) := by decide +kernel
theorem dX10_lay_147 : decode cX10_lay 147 = .ok (.goto (-100), 3) := by decide +kernel
theorem dX10_lay_150 : decode cX10_lay 150 = .ok (.iinc 3 (-1), 3) := by decide +kernel
theorem dX10_lay_153 : decode cX10_lay 153 = .ok (.goto (-113), 3) := by decide +kernel
theorem dX10_lay_156 : decode cX10_lay 156 = .ok (.aload_n 0, 1) := by decide +kernel
theorem dX10_lay_157 : decode cX10_lay 157 = .ok (.getfield 234, 3) := by decide +kernel
theorem dX10_lay_160 : decode cX10_lay 160 = .ok (.ifCond .ne 9, 3) := by decide +kernel
theorem dX10_lay_163 : decode cX10_lay 163 = .ok (.ldc2_w 253, 3) := by decide +kernel
theorem dX10_lay_166 : decode cX10_lay 166 = .ok (.goto 15, 3) := by decide +kernel
theorem dX10_lay_169 : decode cX10_lay 169 = .ok (.aload_n 0, 1) := by decide +kernel
theorem dX10_lay_170 : decode cX10_lay 170 = .ok (.getfield 126, 3) := by decide +kernel
theorem dX10_lay_173 : decode cX10_lay 173 = .ok (.aload_n 0, 1) := by decide +kernel
theorem dX10_lay_174 : decode cX10_lay 174 = .ok (.iconst 0, 1) := by decide +kernel
theorem dX10_lay_175 : decode cX10_lay 175 = .ok (.iconst 0, 1) := by decide +kernel
theorem dX10_lay_176 : decode cX10_lay 176 = .ok (.iconst 0, 1) := by decide +kernel
theorem dX10_lay_177 : decode cX10_lay 177 = .ok (.invokevirtual 255, 3) := by decide +kernel
theorem dX10_lay_180 : decode cX10_lay 180 = .ok (.laload, 1) := by decide +kernel
theorem dX10_lay_181 : decode cX10_lay 181 = .ok (.lstore_n 3, 1) := by decide +kernel
theorem dX10_lay_182 : decode cX10_lay 182 = .ok (.aload_n 0, 1) := by decide +kernel
theorem dX10_lay_183 : decode cX10_lay 183 = .ok (.lload_n 3, 1) := by decide +kernel
theorem dX10_lay_184 : decode cX10_lay 184 = .ok (.ldc2_w 253, 3) := by decide +kernel
theorem dX10_lay_187 : decode cX10_lay 187 = .ok (.lcmp, 1) := by decide +kernel
theorem dX10_lay_188 : decode cX10_lay 188 = .ok (.ifCond .ge 7, 3) := by decide +kernel
theorem dX10_lay_191 : decode cX10_lay 191 = .ok (.iconst 1, 1) := by decide +kernel
theorem dX10_lay_192 : decode cX10_lay 192 = .ok (.goto 4, 3) := by decide +kernel
theorem dX10_lay_195 : decode cX10_lay 195 = .ok (.iconst 0, 1) := by decide +kernel
theorem dX10_lay_196 : decode cX10_lay 196 = .ok (.putfield 237, 3) := by decide +kernel
theorem dX10_lay_199 : decode cX10_lay 199 = .ok (.iconst 0, 1) := by decide +kernel
theorem dX10_lay_200 : decode cX10_lay 200 = .ok (.istore 5, 2) := by decide +kernel
theorem dX10_lay_202 : decode cX10_lay 202 = .ok (.iconst 0, 1) := by decide +kernel
theorem dX10_lay_203 : decode cX10_lay 203 = .ok (.istore 6, 2) := by decide +kernel
theorem dX10_lay_205 : decode cX10_lay 205 = .ok (.iconst 0, 1) := by decide +kernel
theorem dX10_lay_206 : decode cX10_lay 206 = .ok (.istore 7, 2) := by decide +kernel
theorem dX10_lay_208 : decode cX10_lay 208 = .ok (.iload 7, 2) := by decide +kernel
theorem dX10_lay_210 : decode cX10_lay 210 = .ok (.aload_n 0, 1) := by decide +kernel
theorem dX10_lay_211 : decode cX10_lay 211 = .ok (.getfield 250, 3) := by decide +kernel
theorem dX10_lay_214 : decode cX10_lay 214 = .ok (.if_icmp .ge 137, 3) := by decide +kernel
theorem dX10_lay_217 : decode cX10_lay 217 = .ok (.aload_n 0, 1) := by decide +kernel
theorem dX10_lay_218 : decode cX10_lay 218 = .ok (.getfield 237, 3) := by decide +kernel
theorem dX10_lay_221 : decode cX10_lay 221 = .ok (.ifCond .eq 130, 3) := by decide +kernel
theorem dX10_lay_224 : decode cX10_lay 224 = .ok (.aload_n 0, 1) := by decide +kernel
theorem dX10_lay_225 : decode cX10_lay 225 = .ok (.getfield 126, 3) := by decide +kernel
theorem dX10_lay_228 : decode cX10_lay 228 = .ok (.aload_n 0, 1) := by decide +kernel
theorem dX10_lay_229 : decode cX10_lay 229 = .ok (.iload 7, 2) := by decide +kernel
theorem dX10_lay_231 : decode cX10_lay 231 = .ok (.iload 5, 2) := by decide +kernel
theorem dX10_lay_233 : decode cX10_lay 233 = .ok (.iload 6, 2) := by decide +kernel
theorem dX10_lay_235 : decode cX10_lay 235 = .ok (.invokevirtual 255, 3) := by decide +kernel
theorem dX10_lay_238 : decode cX10_lay 238 = .ok (.laload, 1) := by decide +kernel
theorem dX10_lay_239 : decode cX10_lay 239 = .ok (.lstore 8, 2) := by decide +kernel
theorem dX10_lay_241 : decode cX10_lay 241 = .ok (.iconst 0, 1) := by decide +kernel
theorem dX10_lay_242 : decode cX10_lay 242 = .ok (.istore 10, 2) := by decide +kernel
theorem dX10_lay_244 : decode cX10_lay 244 = .ok (.iload 6, 2) := by decide +kernel
theorem dX10_lay_246 : decode cX10_lay 246 = .ok (.istore 11, 2) := by decide +kernel
theorem dX10_lay_248 : decode cX10_lay 248 = .ok (.iconst 0, 1) := by decide +kernel
theorem dX10_lay_249 : decode cX10_lay 249 = .ok (.istore 12, 2) := by decide +kernel
theorem dX10_lay_251 : decode cX10_lay 251 = .ok (.iload 10, 2) := by decide +kernel
theorem dX10_lay_253 : decode cX10_lay 253 = .ok (.ifCond .ne 49, 3) := by decide +kernel
theorem dX10_lay_256 : decode cX10_lay 256 = .ok (.iinc 12 1, 3) := by decide +kernel
theorem dX10_lay_259 : decode cX10_lay 259 = .ok (.iload 12, 2) := by decide +kernel
theorem dX10_lay_261 : decode cX10_lay 261 = .ok (.bipush 40, 2) := by decide +kernel
theorem dX10_lay_263 : decode cX10_lay 263 = .ok (.if_icmp .le 9, 3) := by decide +kernel
theorem dX10_lay_266 : decode cX10_lay 266 = .ok (.iconst 1, 1) := by decide +kernel
theorem dX10_lay_267 : decode cX10_lay 267 = .ok (.istore 12, 2) := by decide +kernel
theorem dX10_lay_269 : decode cX10_lay 269 = .ok (.iinc 11 1, 3) := by decide +kernel
theorem dX10_lay_272 : decode cX10_lay 272 = .ok (.aload_n 0, 1) := by decide +kernel
theorem dX10_lay_273 : decode cX10_lay 273 = .ok (.iload 7, 2) := by decide +kernel
theorem dX10_lay_275 : decode cX10_lay 275 = .ok (.iload 5, 2) := by decide +kernel
theorem dX10_lay_277 : decode cX10_lay 277 = .ok (.iload 11, 2) := by decide +kernel
theorem dX10_lay_279 : decode cX10_lay 279 = .ok (.iload 12, 2) := by decide +kernel
theorem dX10_lay_281 : decode cX10_lay 281 = .ok (.iload_n 1, 1) := by decide +kernel
theorem dX10_lay_282 : decode cX10_lay 282 = .ok (.iload_n 2, 1) := by decide +kernel
theorem dX10_lay_283 : decode cX10_lay 283 = .ok (.invokevirtual 259, 3) := by decide +kernel
theorem dX10_lay_286 : decode cX10_lay 286 = .ok (.lload 8, 2) := by decide +kernel
theorem dX10_lay_288 : decode cX10_lay 288 = .ok (.lcmp, 1) := by decide +kernel
theorem dX10_lay_289 : decode cX10_lay 289 = .ok (.ifCond .ne 7, 3) := by decide +kernel
theorem dX10_lay_292 : decode cX10_lay 292 = .ok (.iconst 1, 1) := by decide +kernel
theorem dX10_lay_293 : decode cX10_lay 293 = .ok (.goto 4, 3) := by decide +kernel
theorem dX10_lay_296 : decode cX10_lay 296 = .ok (.iconst 0, 1) := by decide +kernel
theorem dX10_lay_297 : decode cX10_lay 297 = .ok (.istore 10, 2) := by decide +kernel
theorem dX10_lay_299 : decode cX10_lay 299 = .ok (.goto (-48), 3) := by decide +kernel
theorem dX10_lay_302 : decode cX10_lay 302 = .ok (.iload 5, 2) := by decide +kernel
theorem dX10_lay_304 : decode cX10_lay 304 = .ok (.iload 12, 2) := by decide +kernel
theorem dX10_lay_306 : decode cX10_lay 306 = .ok (.iadd, 1) := by decide +kernel
theorem dX10_lay_307 : decode cX10_lay 307 = .ok (.istore 5, 2) := by decide +kernel
theorem dX10_lay_309 : decode cX10_lay 309 = .ok (.iload 11, 2) := by decide +kernel
theorem dX10_lay_311 : decode cX10_lay 311 = .ok (.istore 6, 2) := by decide +kernel
theorem dX10_lay_313 : decode cX10_lay 313 = .ok (.aload_n 0, 1) := by decide +kernel
theorem dX10_lay_314 : decode cX10_lay 314 = .ok (.getfield 129, 3) := by decide +kernel
theorem dX10_lay_317 : decode cX10_lay 317 = .ok (.iload 7, 2) := by decide +kernel
theorem dX10_lay_319 : decode cX10_lay 319 = .ok (.iload 11, 2) := by decide +kernel
theorem dX10_lay_321 : decode cX10_lay 321 = .ok (.iastore, 1) := by decide +kernel
theorem dX10_lay_322 : decode cX10_lay 322 = .ok (.aload_n 0, 1) := by decide +kernel
theorem dX10_lay_323 : decode cX10_lay 323 = .ok (.getfield 132, 3) := by decide +kernel
theorem dX10_lay_326 : decode cX10_lay 326 = .ok (.iload 7, 2) := by decide +kernel
theorem dX10_lay_328 : decode cX10_lay 328 = .ok (.iload 12, 2) := by decide +kernel
theorem dX10_lay_330 : decode cX10_lay 330 = .ok (.iastore, 1) := by decide +kernel
theorem dX10_lay_331 : decode cX10_lay 331 = .ok (.aload_n 0, 1) := by decide +kernel
theorem dX10_lay_332 : decode cX10_lay 332 = .ok (.getfield 135, 3) := by decide +kernel
theorem dX10_lay_335 : decode cX10_lay 335 = .ok (.iload 7, 2) := by decide +kernel
theorem dX10_lay_337 : decode cX10_lay 337 = .ok (.aload_n 0, 1) := by decide +kernel
theorem dX10_lay_338 : decode cX10_lay 338 = .ok (.getfield 247, 3) := by decide +kernel
theorem dX10_lay_341 : decode cX10_lay 341 = .ok (.iload 5, 2) := by decide +kernel
theorem dX10_lay_343 : decode cX10_lay 343 = .ok (.isub, 1) := by decide +kernel
theorem dX10_lay_344 : decode cX10_lay 344 = .ok (.iastore, 1) := by decide +kernel
theorem dX10_lay_345 : decode cX10_lay 345 = .ok (.iinc 7 1, 3) := by decide +kernel
theorem dX10_lay_348 : decode cX10_lay 348 = .ok (.goto (-140), 3) := by decide +kernel
theorem dX10_lay_351 : decode cX10_lay 351 = .ok (.aload_n 0, 1) := by decide +kernel
theorem dX10_lay_352 : decode cX10_lay 352 = .ok (.getfield 237, 3) := by decide +kernel
theorem dX10_lay_355 : decode cX10_lay 355 = .ok (.ifCond .eq 7, 3) := by decide +kernel
theorem dX10_lay_358 : decode cX10_lay 358 = .ok (.lload_n 3, 1) := by decide +kernel
theorem dX10_lay_359 : decode cX10_lay 359 = .ok (.goto 6, 3) := by decide +kernel
theorem dX10_lay_362 : decode cX10_lay 362 = .ok (.ldc2_w 263, 3) := by decide +kernel
theorem dX10_lay_365 : decode cX10_lay 365 = .ok (.lreturn, 1) := by decide +kernel
theorem dX10_laid_0 : decode cX10_laid 0 = .ok (.aload_n 0, 1) := by decide +kernel
theorem dX10_laid_1 : decode cX10_laid 1 = .ok (.getfield 237, 3) := by decide +kernel
theorem dX10_laid_4 : decode cX10_laid 4 = .ok (.ifCond .eq 26, 3) := by decide +kernel
theorem dX10_laid_7 : decode cX10_laid 7 = .ok (.iload_n 1, 1) := by decide +kernel
theorem dX10_laid_8 : decode cX10_laid 8 = .ok (.iconst 0, 1) := by decide +kernel
theorem dX10_laid_9 : decode cX10_laid 9 = .ok (.aload_n 0, 1) := by decide +kernel
theorem dX10_laid_10 : decode cX10_laid 10 = .ok (.getfield 250, 3) := by decide +kernel
theorem dX10_laid_13 : decode cX10_laid 13 = .ok (.iconst 1, 1) := by decide +kernel
theorem dX10_laid_14 : decode cX10_laid 14 = .ok (.isub, 1) := by decide +kernel
theorem dX10_laid_15 : decode cX10_laid 15 = .ok (.invokestatic 145, 3) := by decide +kernel
theorem dX10_laid_18 : decode cX10_laid 18 = .ok (.ifCond .eq 12, 3) := by decide +kernel
theorem dX10_laid_21 : decode cX10_laid 21 = .ok (.iload_n 2, 1) := by decide +kernel
theorem dX10_laid_22 : decode cX10_laid 22 = .ok (.iconst 0, 1) := by decide +kernel
theorem dX10_laid_23 : decode cX10_laid 23 = .ok (.iconst 2, 1) := by decide +kernel
theorem dX10_laid_24 : decode cX10_laid 24 = .ok (.invokestatic 145, 3) := by decide +kernel
theorem dX10_laid_27 : decode cX10_laid 27 = .ok (.ifCond .ne 7, 3) := by decide +kernel
theorem dX10_laid_30 : decode cX10_laid 30 = .ok (.ldc_w 265, 3) := by decide +kernel
theorem dX10_laid_33 : decode cX10_laid 33 = .ok (.ireturn, 1) := by decide +kernel
theorem dX10_laid_34 : decode cX10_laid 34 = .ok (.iload_n 2, 1) := by decide +kernel
theorem dX10_laid_35 : decode cX10_laid 35 = .ok (.ifCond .ne 12, 3) := by decide +kernel
theorem dX10_laid_38 : decode cX10_laid 38 = .ok (.aload_n 0, 1) := by decide +kernel
theorem dX10_laid_39 : decode cX10_laid 39 = .ok (.getfield 129, 3) := by decide +kernel
theorem dX10_laid_42 : decode cX10_laid 42 = .ok (.iload_n 1, 1) := by decide +kernel
theorem dX10_laid_43 : decode cX10_laid 43 = .ok (.iaload, 1) := by decide +kernel
theorem dX10_laid_44 : decode cX10_laid 44 = .ok (.goto 23, 3) := by decide +kernel
theorem dX10_laid_47 : decode cX10_laid 47 = .ok (.iload_n 2, 1) := by decide +kernel
theorem dX10_laid_48 : decode cX10_laid 48 = .ok (.iconst 1, 1) := by decide +kernel
theorem dX10_laid_49 : decode cX10_laid 49 = .ok (.if_icmp .ne 12, 3) := by decide +kernel
theorem dX10_laid_52 : decode cX10_laid 52 = .ok (.aload_n 0, 1) := by decide +kernel
theorem dX10_laid_53 : decode cX10_laid 53 = .ok (.getfield 132, 3) := by decide +kernel
theorem dX10_laid_56 : decode cX10_laid 56 = .ok (.iload_n 1, 1) := by decide +kernel
theorem dX10_laid_57 : decode cX10_laid 57 = .ok (.iaload, 1) := by decide +kernel
theorem dX10_laid_58 : decode cX10_laid 58 = .ok (.goto 9, 3) := by decide +kernel
theorem dX10_laid_61 : decode cX10_laid 61 = .ok (.aload_n 0, 1) := by decide +kernel
theorem dX10_laid_62 : decode cX10_laid 62 = .ok (.getfield 135, 3) := by decide +kernel
theorem dX10_laid_65 : decode cX10_laid 65 = .ok (.iload_n 1, 1) := by decide +kernel
theorem dX10_laid_66 : decode cX10_laid 66 = .ok (.iaload, 1) := by decide +kernel
theorem dX10_laid_67 : decode cX10_laid 67 = .ok (.ireturn, 1) := by decide +kernel
theorem dX10_count_0 : decode cX10_count 0 = .ok (.iload_n 1, 1) := by decide +kernel
theorem dX10_count_1 : decode cX10_count 1 = .ok (.tableswitch 96 0 8 #[51, 56, 61, 66, 71, 76, 81, 86, 91], 51) := by decide +kernel
theorem dX10_count_52 : decode cX10_count 52 = .ok (.aload_n 0, 1) := by decide +kernel
theorem dX10_count_53 : decode cX10_count 53 = .ok (.getfield 142, 3) := by decide +kernel
theorem dX10_count_56 : decode cX10_count 56 = .ok (.ireturn, 1) := by decide +kernel
theorem dX10_count_57 : decode cX10_count 57 = .ok (.aload_n 0, 1) := by decide +kernel
theorem dX10_count_58 : decode cX10_count 58 = .ok (.getfield 151, 3) := by decide +kernel
theorem dX10_count_61 : decode cX10_count 61 = .ok (.ireturn, 1) := by decide +kernel
theorem dX10_count_62 : decode cX10_count 62 = .ok (.aload_n 0, 1) := by decide +kernel
theorem dX10_count_63 : decode cX10_count 63 = .ok (.getfield 158, 3) := by decide +kernel
theorem dX10_count_66 : decode cX10_count 66 = .ok (.ireturn, 1) := by decide +kernel
theorem dX10_count_67 : decode cX10_count 67 = .ok (.aload_n 0, 1) := by decide +kernel
theorem dX10_count_68 : decode cX10_count 68 = .ok (.getfield 162, 3) := by decide +kernel
theorem dX10_count_71 : decode cX10_count 71 = .ok (.ireturn, 1) := by decide +kernel
theorem dX10_count_72 : decode cX10_count 72 = .ok (.aload_n 0, 1) := by decide +kernel
theorem dX10_count_73 : decode cX10_count 73 = .ok (.getfield 165, 3) := by decide +kernel
theorem dX10_count_76 : decode cX10_count 76 = .ok (.ireturn, 1) := by decide +kernel
theorem dX10_count_77 : decode cX10_count 77 = .ok (.aload_n 0, 1) := by decide +kernel
theorem dX10_count_78 : decode cX10_count 78 = .ok (.getfield 169, 3) := by decide +kernel
theorem dX10_count_81 : decode cX10_count 81 = .ok (.ireturn, 1) := by decide +kernel
theorem dX10_count_82 : decode cX10_count 82 = .ok (.aload_n 0, 1) := by decide +kernel
theorem dX10_count_83 : decode cX10_count 83 = .ok (.getfield 234, 3) := by decide +kernel
theorem dX10_count_86 : decode cX10_count 86 = .ok (.ireturn, 1) := by decide +kernel
theorem dX10_count_87 : decode cX10_count 87 = .ok (.aload_n 0, 1) := by decide +kernel
theorem dX10_count_88 : decode cX10_count 88 = .ok (.getfield 250, 3) := by decide +kernel
theorem dX10_count_91 : decode cX10_count 91 = .ok (.ireturn, 1) := by decide +kernel
theorem dX10_count_92 : decode cX10_count 92 = .ok (.aload_n 0, 1) := by decide +kernel
theorem dX10_count_93 : decode cX10_count 93 = .ok (.getfield 197, 3) := by decide +kernel
theorem dX10_count_96 : decode cX10_count 96 = .ok (.ireturn, 1) := by decide +kernel
theorem dX10_count_97 : decode cX10_count 97 = .ok (.iconst (-1), 1) := by decide +kernel
theorem dX10_count_98 : decode cX10_count 98 = .ok (.ireturn, 1) := by decide +kernel
theorem dJ9_max_7cf53_0 : decode cJ9_max_7cf53 0 = .ok (.iload_n 0, 1) := by decide +kernel
theorem dJ9_max_7cf53_1 : decode cJ9_max_7cf53 1 = .ok (.iload_n 1, 1) := by decide +kernel
theorem dJ9_max_7cf53_2 : decode cJ9_max_7cf53 2 = .ok (.if_icmp .lt 7, 3) := by decide +kernel
theorem dJ9_max_7cf53_5 : decode cJ9_max_7cf53 5 = .ok (.iload_n 0, 1) := by decide +kernel
theorem dJ9_max_7cf53_6 : decode cJ9_max_7cf53 6 = .ok (.goto 4, 3) := by decide +kernel
theorem dJ9_max_7cf53_9 : decode cJ9_max_7cf53 9 = .ok (.iload_n 1, 1) := by decide +kernel
theorem dJ9_max_7cf53_10 : decode cJ9_max_7cf53 10 = .ok (.ireturn, 1) := by decide +kernel
theorem dJ9_max_f86c9_0 : decode cJ9_max_f86c9 0 = .ok (.lload_n 0, 1) := by decide +kernel
theorem dJ9_max_f86c9_1 : decode cJ9_max_f86c9 1 = .ok (.lload_n 2, 1) := by decide +kernel
theorem dJ9_max_f86c9_2 : decode cJ9_max_f86c9 2 = .ok (.lcmp, 1) := by decide +kernel
theorem dJ9_max_f86c9_3 : decode cJ9_max_f86c9 3 = .ok (.ifCond .lt 7, 3) := by decide +kernel
theorem dJ9_max_f86c9_6 : decode cJ9_max_f86c9 6 = .ok (.lload_n 0, 1) := by decide +kernel
theorem dJ9_max_f86c9_7 : decode cJ9_max_f86c9 7 = .ok (.goto 4, 3) := by decide +kernel
theorem dJ9_max_f86c9_10 : decode cJ9_max_f86c9 10 = .ok (.lload_n 2, 1) := by decide +kernel
theorem dJ9_max_f86c9_11 : decode cJ9_max_f86c9 11 = .ok (.lreturn, 1) := by decide +kernel
theorem dJ9_min_7cf53_0 : decode cJ9_min_7cf53 0 = .ok (.iload_n 0, 1) := by decide +kernel
theorem dJ9_min_7cf53_1 : decode cJ9_min_7cf53 1 = .ok (.iload_n 1, 1) := by decide +kernel
theorem dJ9_min_7cf53_2 : decode cJ9_min_7cf53 2 = .ok (.if_icmp .gt 7, 3) := by decide +kernel
theorem dJ9_min_7cf53_5 : decode cJ9_min_7cf53 5 = .ok (.iload_n 0, 1) := by decide +kernel
theorem dJ9_min_7cf53_6 : decode cJ9_min_7cf53 6 = .ok (.goto 4, 3) := by decide +kernel
theorem dJ9_min_7cf53_9 : decode cJ9_min_7cf53 9 = .ok (.iload_n 1, 1) := by decide +kernel
theorem dJ9_min_7cf53_10 : decode cJ9_min_7cf53 10 = .ok (.ireturn, 1) := by decide +kernel
theorem dJ9_min_f86c9_0 : decode cJ9_min_f86c9 0 = .ok (.lload_n 0, 1) := by decide +kernel
theorem dJ9_min_f86c9_1 : decode cJ9_min_f86c9 1 = .ok (.lload_n 2, 1) := by decide +kernel
theorem dJ9_min_f86c9_2 : decode cJ9_min_f86c9 2 = .ok (.lcmp, 1) := by decide +kernel
theorem dJ9_min_f86c9_3 : decode cJ9_min_f86c9 3 = .ok (.ifCond .gt 7, 3) := by decide +kernel
theorem dJ9_min_f86c9_6 : decode cJ9_min_f86c9 6 = .ok (.lload_n 0, 1) := by decide +kernel
theorem dJ9_min_f86c9_7 : decode cJ9_min_f86c9 7 = .ok (.goto 4, 3) := by decide +kernel
theorem dJ9_min_f86c9_10 : decode cJ9_min_f86c9 10 = .ok (.lload_n 2, 1) := by decide +kernel
theorem dJ9_min_f86c9_11 : decode cJ9_min_f86c9 11 = .ok (.lreturn, 1) := by decide +kernel
theorem dJxa1e45_init_da8c8_0 : decode cJxa1e45_init_da8c8 0 = .ok (.aload_n 0, 1) := by decide +kernel
theorem dJxa1e45_init_da8c8_1 : decode cJxa1e45_init_da8c8 1 = .ok (.invokespecial 1, 3) := by decide +kernel
theorem dJxa1e45_init_da8c8_4 : decode cJxa1e45_init_da8c8 4 = .ok (.return_, 1) := by decide +kernel
theorem dJxc12de_init_da8c8_0 : decode cJxc12de_init_da8c8 0 = .ok (.aload_n 0, 1) := by decide +kernel
theorem dJxc12de_init_da8c8_1 : decode cJxc12de_init_da8c8 1 = .ok (.invokespecial 1, 3) := by decide +kernel
theorem dJxc12de_init_da8c8_4 : decode cJxc12de_init_da8c8 4 = .ok (.aload_n 0, 1) := by decide +kernel
theorem dJxc12de_init_da8c8_5 : decode cJxc12de_init_da8c8 5 = .ok (.iconst 0, 1) := by decide +kernel
theorem dJxc12de_init_da8c8_6 : decode cJxc12de_init_da8c8 6 = .ok (.putfield 7, 3) := by decide +kernel
theorem dJxc12de_init_da8c8_9 : decode cJxc12de_init_da8c8 9 = .ok (.return_, 1) := by decide +kernel
theorem dJx4a65c_init_da8c8_0 : decode cJx4a65c_init_da8c8 0 = .ok (.aload_n 0, 1) := by decide +kernel
theorem dJx4a65c_init_da8c8_1 : decode cJx4a65c_init_da8c8 1 = .ok (.invokespecial 1, 3) := by decide +kernel
theorem dJx4a65c_init_da8c8_4 : decode cJx4a65c_init_da8c8 4 = .ok (.aload_n 0, 1) := by decide +kernel
theorem dJx4a65c_init_da8c8_5 : decode cJx4a65c_init_da8c8 5 = .ok (.getstatic 39, 3) := by decide +kernel
theorem dJx4a65c_init_da8c8_8 : decode cJx4a65c_init_da8c8 8 = .ok (.putfield 9, 3) := by decide +kernel
theorem dJx4a65c_init_da8c8_11 : decode cJx4a65c_init_da8c8 11 = .ok (.return_, 1) := by decide +kernel
theorem dJx4a65c_grow_92f84_0 : decode cJx4a65c_grow_92f84 0 = .ok (.aload_n 0, 1) := by decide +kernel
theorem dJx4a65c_grow_92f84_1 : decode cJx4a65c_grow_92f84 1 = .ok (.getfield 9, 3) := by decide +kernel
theorem dJx4a65c_grow_92f84_4 : decode cJx4a65c_grow_92f84 4 = .ok (.arraylength, 1) := by decide +kernel
theorem dJx4a65c_grow_92f84_5 : decode cJx4a65c_grow_92f84 5 = .ok (.istore_n 2, 1) := by decide +kernel
theorem dJx4a65c_grow_92f84_6 : decode cJx4a65c_grow_92f84 6 = .ok (.iload_n 2, 1) := by decide +kernel
theorem dJx4a65c_grow_92f84_7 : decode cJx4a65c_grow_92f84 7 = .ok (.ifCond .gt 13, 3) := by decide +kernel
theorem dJx4a65c_grow_92f84_10 : decode cJx4a65c_grow_92f84 10 = .ok (.aload_n 0, 1) := by decide +kernel
theorem dJx4a65c_grow_92f84_11 : decode cJx4a65c_grow_92f84 11 = .ok (.getfield 9, 3) := by decide +kernel
theorem dJx4a65c_grow_92f84_14 : decode cJx4a65c_grow_92f84 14 = .ok (.getstatic 39, 3) := by decide +kernel
theorem dJx4a65c_grow_92f84_17 : decode cJx4a65c_grow_92f84 17 = .ok (.if_acmp .eq 28, 3) := by decide +kernel
theorem dJx4a65c_grow_92f84_20 : decode cJx4a65c_grow_92f84 20 = .ok (.iload_n 2, 1) := by decide +kernel
theorem dJx4a65c_grow_92f84_21 : decode cJx4a65c_grow_92f84 21 = .ok (.iload_n 1, 1) := by decide +kernel
theorem dJx4a65c_grow_92f84_22 : decode cJx4a65c_grow_92f84 22 = .ok (.iload_n 2, 1) := by decide +kernel
theorem dJx4a65c_grow_92f84_23 : decode cJx4a65c_grow_92f84 23 = .ok (.isub, 1) := by decide +kernel
theorem dJx4a65c_grow_92f84_24 : decode cJx4a65c_grow_92f84 24 = .ok (.iload_n 2, 1) := by decide +kernel
theorem dJx4a65c_grow_92f84_25 : decode cJx4a65c_grow_92f84 25 = .ok (.iconst 1, 1) := by decide +kernel
theorem dJx4a65c_grow_92f84_26 : decode cJx4a65c_grow_92f84 26 = .ok (.ishr, 1) := by decide +kernel
theorem dJx4a65c_grow_92f84_27 : decode cJx4a65c_grow_92f84 27 = .ok (.invokestatic 73, 3) := by decide +kernel
theorem dJx4a65c_grow_92f84_30 : decode cJx4a65c_grow_92f84 30 = .ok (.istore_n 3, 1) := by decide +kernel
theorem dJx4a65c_grow_92f84_31 : decode cJx4a65c_grow_92f84 31 = .ok (.aload_n 0, 1) := by decide +kernel
theorem dJx4a65c_grow_92f84_32 : decode cJx4a65c_grow_92f84 32 = .ok (.aload_n 0, 1) := by decide +kernel
theorem dJx4a65c_grow_92f84_33 : decode cJx4a65c_grow_92f84 33 = .ok (.getfield 9, 3) := by decide +kernel
theorem dJx4a65c_grow_92f84_36 : decode cJx4a65c_grow_92f84 36 = .ok (.iload_n 3, 1) := by decide +kernel
theorem dJx4a65c_grow_92f84_37 : decode cJx4a65c_grow_92f84 37 = .ok (.invokestatic 66, 3) := by decide +kernel
theorem dJx4a65c_grow_92f84_40 : decode cJx4a65c_grow_92f84 40 = .ok (.dup_x1, 1) := by decide +kernel
theorem dJx4a65c_grow_92f84_41 : decode cJx4a65c_grow_92f84 41 = .ok (.putfield 9, 3) := by decide +kernel
theorem dJx4a65c_grow_92f84_44 : decode cJx4a65c_grow_92f84 44 = .ok (.areturn, 1) := by decide +kernel
theorem dJx4a65c_grow_92f84_45 : decode cJx4a65c_grow_92f84 45 = .ok (.aload_n 0, 1) := by decide +kernel
theorem dJx4a65c_grow_92f84_46 : decode cJx4a65c_grow_92f84 46 = .ok (.bipush 10, 2) := by decide +kernel
theorem dJx4a65c_grow_92f84_48 : decode cJx4a65c_grow_92f84 48 = .ok (.iload_n 1, 1) := by decide +kernel
theorem dJx4a65c_grow_92f84_49 : decode cJx4a65c_grow_92f84 49 = .ok (.invokestatic 79, 3) := by decide +kernel
theorem dJx4a65c_grow_92f84_52 : decode cJx4a65c_grow_92f84 52 = .ok (.anewarray 7, 3) := by decide +kernel
theorem dJx4a65c_grow_92f84_55 : decode cJx4a65c_grow_92f84 55 = .ok (.dup_x1, 1) := by decide +kernel
theorem dJx4a65c_grow_92f84_56 : decode cJx4a65c_grow_92f84 56 = .ok (.putfield 9, 3) := by decide +kernel
theorem dJx4a65c_grow_92f84_59 : decode cJx4a65c_grow_92f84 59 = .ok (.areturn, 1) := by decide +kernel
theorem dJx4a65c_grow_d5877_0 : decode cJx4a65c_grow_d5877 0 = .ok (.aload_n 0, 1) := by decide +kernel
theorem dJx4a65c_grow_d5877_1 : decode cJx4a65c_grow_d5877 1 = .ok (.aload_n 0, 1) := by decide +kernel
theorem dJx4a65c_grow_d5877_2 : decode cJx4a65c_grow_d5877 2 = .ok (.getfield 48, 3) := by decide +kernel
theorem dJx4a65c_grow_d5877_5 : decode cJx4a65c_grow_d5877 5 = .ok (.iconst 1, 1) := by decide +kernel
theorem dJx4a65c_grow_d5877_6 : decode cJx4a65c_grow_d5877 6 = .ok (.iadd, 1) := by decide +kernel
theorem dJx4a65c_grow_d5877_7 : decode cJx4a65c_grow_d5877 7 = .ok (.invokevirtual 69, 3) := by decide +kernel
theorem dJx4a65c_grow_d5877_10 : decode cJx4a65c_grow_d5877 10 = .ok (.areturn, 1) := by decide +kernel
theorem dJx4a65c_size_8abf5_0 : decode cJx4a65c_size_8abf5 0 = .ok (.aload_n 0, 1) := by decide +kernel
theorem dJx4a65c_size_8abf5_1 : decode cJx4a65c_size_8abf5 1 = .ok (.getfield 48, 3) := by decide +kernel
theorem dJx4a65c_size_8abf5_4 : decode cJx4a65c_size_8abf5 4 = .ok (.ireturn, 1) := by decide +kernel
theorem dJx4a65c_isEmpty_aae02_0 : decode cJx4a65c_isEmpty_aae02 0 = .ok (.aload_n 0, 1) := by decide +kernel
theorem dJx4a65c_isEmpty_aae02_1 : decode cJx4a65c_isEmpty_aae02 1 = .ok (.getfield 48, 3) := by decide +kernel
theorem dJx4a65c_isEmpty_aae02_4 : decode cJx4a65c_isEmpty_aae02 4 = .ok (.ifCond .ne 7, 3) := by decide +kernel
theorem dJx4a65c_isEmpty_aae02_7 : decode cJx4a65c_isEmpty_aae02 7 = .ok (.iconst 1, 1) := by decide +kernel
theorem dJx4a65c_isEmpty_aae02_8 : decode cJx4a65c_isEmpty_aae02 8 = .ok (.goto 4, 3) := by decide +kernel
theorem dJx4a65c_isEmpty_aae02_11 : decode cJx4a65c_isEmpty_aae02 11 = .ok (.iconst 0, 1) := by decide +kernel
theorem dJx4a65c_isEmpty_aae02_12 : decode cJx4a65c_isEmpty_aae02 12 = .ok (.ireturn, 1) := by decide +kernel
theorem dJx4a65c_elementData_915e3_0 : decode cJx4a65c_elementData_915e3 0 = .ok (.aload_n 0, 1) := by decide +kernel
theorem dJx4a65c_elementData_915e3_1 : decode cJx4a65c_elementData_915e3 1 = .ok (.getfield 9, 3) := by decide +kernel
theorem dJx4a65c_elementData_915e3_4 : decode cJx4a65c_elementData_915e3 4 = .ok (.iload_n 1, 1) := by decide +kernel
theorem dJx4a65c_elementData_915e3_5 : decode cJx4a65c_elementData_915e3 5 = .ok (.aaload, 1) := by decide +kernel
theorem dJx4a65c_elementData_915e3_6 : decode cJx4a65c_elementData_915e3 6 = .ok (.areturn, 1) := by decide +kernel
theorem dJx4a65c_get_915e3_0 : decode cJx4a65c_get_915e3 0 = .ok (.iload_n 1, 1) := by decide +kernel
theorem dJx4a65c_get_915e3_1 : decode cJx4a65c_get_915e3 1 = .ok (.aload_n 0, 1) := by decide +kernel
theorem dJx4a65c_get_915e3_2 : decode cJx4a65c_get_915e3 2 = .ok (.getfield 48, 3) := by decide +kernel
theorem dJx4a65c_get_915e3_5 : decode cJx4a65c_get_915e3 5 = .ok (.invokestatic 118, 3) := by decide +kernel
theorem dJx4a65c_get_915e3_8 : decode cJx4a65c_get_915e3 8 = .ok (.pop, 1) := by decide +kernel
theorem dJx4a65c_get_915e3_9 : decode cJx4a65c_get_915e3 9 = .ok (.aload_n 0, 1) := by decide +kernel
theorem dJx4a65c_get_915e3_10 : decode cJx4a65c_get_915e3 10 = .ok (.iload_n 1, 1) := by decide +kernel
theorem dJx4a65c_get_915e3_11 : decode cJx4a65c_get_915e3 11 = .ok (.invokevirtual 123, 3) := by decide +kernel
theorem dJx4a65c_get_915e3_14 : decode cJx4a65c_get_915e3 14 = .ok (.areturn, 1) := by decide +kernel
theorem dJx4a65c_add_72be8_0 : decode cJx4a65c_add_72be8 0 = .ok (.iload_n 3, 1) := by decide +kernel
theorem dJx4a65c_add_72be8_1 : decode cJx4a65c_add_72be8 1 = .ok (.aload_n 2, 1) := by decide +kernel
theorem dJx4a65c_add_72be8_2 : decode cJx4a65c_add_72be8 2 = .ok (.arraylength, 1) := by decide +kernel
theorem dJx4a65c_add_72be8_3 : decode cJx4a65c_add_72be8 3 = .ok (.if_icmp .ne 8, 3) := by decide +kernel
theorem dJx4a65c_add_72be8_6 : decode cJx4a65c_add_72be8 6 = .ok (.aload_n 0, 1) := by decide +kernel
theorem dJx4a65c_add_72be8_7 : decode cJx4a65c_add_72be8 7 = .ok (.invokevirtual 129, 3) := by decide +kernel
theorem dJx4a65c_add_72be8_10 : decode cJx4a65c_add_72be8 10 = .ok (.astore_n 2, 1) := by decide +kernel
theorem dJx4a65c_add_72be8_11 : decode cJx4a65c_add_72be8 11 = .ok (.aload_n 2, 1) := by decide +kernel
theorem dJx4a65c_add_72be8_12 : decode cJx4a65c_add_72be8 12 = .ok (.iload_n 3, 1) := by decide +kernel
theorem dJx4a65c_add_72be8_13 : decode cJx4a65c_add_72be8 13 = .ok (.aload_n 1, 1) := by decide +kernel
theorem dJx4a65c_add_72be8_14 : decode cJx4a65c_add_72be8 14 = .ok (.aastore, 1) := by decide +kernel
theorem dJx4a65c_add_72be8_15 : decode cJx4a65c_add_72be8 15 = .ok (.aload_n 0, 1) := by decide +kernel
theorem dJx4a65c_add_72be8_16 : decode cJx4a65c_add_72be8 16 = .ok (.iload_n 3, 1) := by decide +kernel
theorem dJx4a65c_add_72be8_17 : decode cJx4a65c_add_72be8 17 = .ok (.iconst 1, 1) := by decide +kernel
theorem dJx4a65c_add_72be8_18 : decode cJx4a65c_add_72be8 18 = .ok (.iadd, 1) := by decide +kernel
theorem dJx4a65c_add_72be8_19 : decode cJx4a65c_add_72be8 19 = .ok (.putfield 48, 3) := by decide +kernel
theorem dJx4a65c_add_72be8_22 : decode cJx4a65c_add_72be8 22 = .ok (.return_, 1) := by decide +kernel
theorem dJx4a65c_add_9ea2d_0 : decode cJx4a65c_add_9ea2d 0 = .ok (.aload_n 0, 1) := by decide +kernel
theorem dJx4a65c_add_9ea2d_1 : decode cJx4a65c_add_9ea2d 1 = .ok (.dup, 1) := by decide +kernel
theorem dJx4a65c_add_9ea2d_2 : decode cJx4a65c_add_9ea2d 2 = .ok (.getfield 63, 3) := by decide +kernel
theorem dJx4a65c_add_9ea2d_5 : decode cJx4a65c_add_9ea2d 5 = .ok (.iconst 1, 1) := by decide +kernel
theorem dJx4a65c_add_9ea2d_6 : decode cJx4a65c_add_9ea2d 6 = .ok (.iadd, 1) := by decide +kernel
theorem dJx4a65c_add_9ea2d_7 : decode cJx4a65c_add_9ea2d 7 = .ok (.putfield 63, 3) := by decide +kernel
theorem dJx4a65c_add_9ea2d_10 : decode cJx4a65c_add_9ea2d 10 = .ok (.aload_n 0, 1) := by decide +kernel
theorem dJx4a65c_add_9ea2d_11 : decode cJx4a65c_add_9ea2d 11 = .ok (.aload_n 1, 1) := by decide +kernel
theorem dJx4a65c_add_9ea2d_12 : decode cJx4a65c_add_9ea2d 12 = .ok (.aload_n 0, 1) := by decide +kernel
theorem dJx4a65c_add_9ea2d_13 : decode cJx4a65c_add_9ea2d 13 = .ok (.getfield 9, 3) := by decide +kernel
theorem dJx4a65c_add_9ea2d_16 : decode cJx4a65c_add_9ea2d 16 = .ok (.aload_n 0, 1) := by decide +kernel
theorem dJx4a65c_add_9ea2d_17 : decode cJx4a65c_add_9ea2d 17 = .ok (.getfield 48, 3) := by decide +kernel
theorem dJx4a65c_add_9ea2d_20 : decode cJx4a65c_add_9ea2d 20 = .ok (.invokevirtual 131, 3) := by decide +kernel
theorem dJx4a65c_add_9ea2d_23 : decode cJx4a65c_add_9ea2d 23 = .ok (.iconst 1, 1) := by decide +kernel
theorem dJx4a65c_add_9ea2d_24 : decode cJx4a65c_add_9ea2d 24 = .ok (.ireturn, 1) := by decide +kernel
theorem dJ7_copyOf_1904c_0 : decode cJ7_copyOf_1904c 0 = .ok (.aload_n 0, 1) := by decide +kernel
theorem dJ7_copyOf_1904c_1 : decode cJ7_copyOf_1904c 1 = .ok (.iload_n 1, 1) := by decide +kernel
theorem dJ7_copyOf_1904c_2 : decode cJ7_copyOf_1904c 2 = .ok (.aload_n 0, 1) := by decide +kernel
theorem dJ7_copyOf_1904c_3 : decode cJ7_copyOf_1904c 3 = .ok (.invokevirtual 86, 3) := by decide +kernel
theorem dJ7_copyOf_1904c_6 : decode cJ7_copyOf_1904c 6 = .ok (.invokestatic 300, 3) := by decide +kernel
theorem dJ7_copyOf_1904c_9 : decode cJ7_copyOf_1904c 9 = .ok (.areturn, 1) := by decide +kernel
theorem dJ7_copyOf_6403c_0 : decode cJ7_copyOf_6403c 0 = .ok (.aload_n 2, 1) := by decide +kernel
theorem dJ7_copyOf_6403c_1 : decode cJ7_copyOf_6403c 1 = .ok (.ldc 110, 2) := by decide +kernel
theorem dJ7_copyOf_6403c_3 : decode cJ7_copyOf_6403c 3 = .ok (.if_acmp .ne 10, 3) := by decide +kernel
theorem dJ7_copyOf_6403c_6 : decode cJ7_copyOf_6403c 6 = .ok (.iload_n 1, 1) := by decide +kernel
theorem dJ7_copyOf_6403c_7 : decode cJ7_copyOf_6403c 7 = .ok (.anewarray 2, 3) := by decide +kernel
theorem dJ7_copyOf_6403c_10 : decode cJ7_copyOf_6403c 10 = .ok (.goto 14, 3) := by decide +kernel
theorem dJ7_copyOf_6403c_13 : decode cJ7_copyOf_6403c 13 = .ok (.aload_n 2, 1) := by decide +kernel
theorem dJ7_copyOf_6403c_14 : decode cJ7_copyOf_6403c 14 = .ok (.invokevirtual 90, 3) := by decide +kernel
theorem dJ7_copyOf_6403c_17 : decode cJ7_copyOf_6403c 17 = .ok (.iload_n 1, 1) := by decide +kernel
theorem dJ7_copyOf_6403c_18 : decode cJ7_copyOf_6403c 18 = .ok (.invokestatic 95, 3) := by decide +kernel
theorem dJ7_copyOf_6403c_21 : decode cJ7_copyOf_6403c 21 = .ok (.checkcast 110, 3) := by decide +kernel
theorem dJ7_copyOf_6403c_24 : decode cJ7_copyOf_6403c 24 = .ok (.astore_n 3, 1) := by decide +kernel
theorem dJ7_copyOf_6403c_25 : decode cJ7_copyOf_6403c 25 = .ok (.aload_n 0, 1) := by decide +kernel
theorem dJ7_copyOf_6403c_26 : decode cJ7_copyOf_6403c 26 = .ok (.iconst 0, 1) := by decide +kernel
theorem dJ7_copyOf_6403c_27 : decode cJ7_copyOf_6403c 27 = .ok (.aload_n 3, 1) := by decide +kernel
theorem dJ7_copyOf_6403c_28 : decode cJ7_copyOf_6403c 28 = .ok (.iconst 0, 1) := by decide +kernel
theorem dJ7_copyOf_6403c_29 : decode cJ7_copyOf_6403c 29 = .ok (.aload_n 0, 1) := by decide +kernel
theorem dJ7_copyOf_6403c_30 : decode cJ7_copyOf_6403c 30 = .ok (.arraylength, 1) := by decide +kernel
theorem dJ7_copyOf_6403c_31 : decode cJ7_copyOf_6403c 31 = .ok (.iload_n 1, 1) := by decide +kernel
theorem dJ7_copyOf_6403c_32 : decode cJ7_copyOf_6403c 32 = .ok (.invokestatic 304, 3) := by decide +kernel
theorem dJ7_copyOf_6403c_35 : decode cJ7_copyOf_6403c 35 = .ok (.invokestatic 150, 3) := by decide +kernel
theorem dJ7_copyOf_6403c_38 : decode cJ7_copyOf_6403c 38 = .ok (.aload_n 3, 1) := by decide +kernel
theorem dJ7_copyOf_6403c_39 : decode cJ7_copyOf_6403c 39 = .ok (.areturn, 1) := by decide +kernel
theorem dJ15_checkIndex_7cf53_0 : decode cJ15_checkIndex_7cf53 0 = .ok (.iload_n 0, 1) := by decide +kernel
theorem dJ15_checkIndex_7cf53_1 : decode cJ15_checkIndex_7cf53 1 = .ok (.iload_n 1, 1) := by decide +kernel
theorem dJ15_checkIndex_7cf53_2 : decode cJ15_checkIndex_7cf53 2 = .ok (.aconst_null, 1) := by decide +kernel
theorem dJ15_checkIndex_7cf53_3 : decode cJ15_checkIndex_7cf53 3 = .ok (.invokestatic 105, 3) := by decide +kernel
theorem dJ15_checkIndex_7cf53_6 : decode cJ15_checkIndex_7cf53 6 = .ok (.ireturn, 1) := by decide +kernel
theorem dJ8_newLength_cabcc_0 : decode cJ8_newLength_cabcc 0 = .ok (.iload_n 0, 1) := by decide +kernel
theorem dJ8_newLength_cabcc_1 : decode cJ8_newLength_cabcc 1 = .ok (.iload_n 1, 1) := by decide +kernel
theorem dJ8_newLength_cabcc_2 : decode cJ8_newLength_cabcc 2 = .ok (.iload_n 2, 1) := by decide +kernel
theorem dJ8_newLength_cabcc_3 : decode cJ8_newLength_cabcc 3 = .ok (.invokestatic 194, 3) := by decide +kernel
theorem dJ8_newLength_cabcc_6 : decode cJ8_newLength_cabcc 6 = .ok (.iadd, 1) := by decide +kernel
theorem dJ8_newLength_cabcc_7 : decode cJ8_newLength_cabcc 7 = .ok (.istore_n 3, 1) := by decide +kernel
theorem dJ8_newLength_cabcc_8 : decode cJ8_newLength_cabcc 8 = .ok (.iconst 0, 1) := by decide +kernel
theorem dJ8_newLength_cabcc_9 : decode cJ8_newLength_cabcc 9 = .ok (.iload_n 3, 1) := by decide +kernel
theorem dJ8_newLength_cabcc_10 : decode cJ8_newLength_cabcc 10 = .ok (.if_icmp .ge 11, 3) := by decide +kernel
theorem dJ8_newLength_cabcc_13 : decode cJ8_newLength_cabcc 13 = .ok (.iload_n 3, 1) := by decide +kernel
theorem dJ8_newLength_cabcc_14 : decode cJ8_newLength_cabcc 14 = .ok (.ldc 200, 2) := by decide +kernel
theorem dJ8_newLength_cabcc_16 : decode cJ8_newLength_cabcc 16 = .ok (.if_icmp .gt 5, 3) := by decide +kernel
theorem dJ8_newLength_cabcc_19 : decode cJ8_newLength_cabcc 19 = .ok (.iload_n 3, 1) := by decide +kernel
theorem dJ8_newLength_cabcc_20 : decode cJ8_newLength_cabcc 20 = .ok (.ireturn, 1) := by decide +kernel
theorem dJ8_newLength_cabcc_21 : decode cJ8_newLength_cabcc 21 = .ok (.iload_n 0, 1) := by decide +kernel
theorem dJ8_newLength_cabcc_22 : decode cJ8_newLength_cabcc 22 = .ok (.iload_n 1, 1) := by decide +kernel
theorem dJ8_newLength_cabcc_23 : decode cJ8_newLength_cabcc 23 = .ok (.invokestatic 201, 3) := by decide +kernel
theorem dJ8_newLength_cabcc_26 : decode cJ8_newLength_cabcc 26 = .ok (.ireturn, 1) := by decide +kernel
theorem dJ8_hugeLength_7cf53_0 : decode cJ8_hugeLength_7cf53 0 = .ok (.iload_n 0, 1) := by decide +kernel
theorem dJ8_hugeLength_7cf53_1 : decode cJ8_hugeLength_7cf53 1 = .ok (.iload_n 1, 1) := by decide +kernel
theorem dJ8_hugeLength_7cf53_2 : decode cJ8_hugeLength_7cf53 2 = .ok (.iadd, 1) := by decide +kernel
theorem dJ8_hugeLength_7cf53_3 : decode cJ8_hugeLength_7cf53 3 = .ok (.istore_n 2, 1) := by decide +kernel
theorem dJ8_hugeLength_7cf53_4 : decode cJ8_hugeLength_7cf53 4 = .ok (.iload_n 2, 1) := by decide +kernel
theorem dJ8_hugeLength_7cf53_5 : decode cJ8_hugeLength_7cf53 5 = .ok (.ifCond .ge 44, 3) := by decide +kernel
theorem dJ8_hugeLength_7cf53_8 : decode cJ8_hugeLength_7cf53 8 = .ok (.new 204, 3) := by decide +kernel
theorem dJ8_hugeLength_7cf53_11 : decode cJ8_hugeLength_7cf53 11 = .ok (.dup, 1) := by decide +kernel
theorem dJ8_hugeLength_7cf53_12 : decode cJ8_hugeLength_7cf53 12 = .ok (.new 89, 3) := by decide +kernel
theorem dJ8_hugeLength_7cf53_15 : decode cJ8_hugeLength_7cf53 15 = .ok (.dup, 1) := by decide +kernel
theorem dJ8_hugeLength_7cf53_16 : decode cJ8_hugeLength_7cf53 16 = .ok (.invokespecial 91, 3) := by decide +kernel
theorem dJ8_hugeLength_7cf53_19 : decode cJ8_hugeLength_7cf53 19 = .ok (.ldc 206, 2) := by decide +kernel
theorem dJ8_hugeLength_7cf53_21 : decode cJ8_hugeLength_7cf53 21 = .ok (.invokevirtual 94, 3) := by decide +kernel
theorem dJ8_hugeLength_7cf53_24 : decode cJ8_hugeLength_7cf53 24 = .ok (.iload_n 0, 1) := by decide +kernel
theorem dJ8_hugeLength_7cf53_25 : decode cJ8_hugeLength_7cf53 25 = .ok (.invokevirtual 98, 3) := by decide +kernel
theorem dJ8_hugeLength_7cf53_28 : decode cJ8_hugeLength_7cf53 28 = .ok (.ldc 208, 2) := by decide +kernel
theorem dJ8_hugeLength_7cf53_30 : decode cJ8_hugeLength_7cf53 30 = .ok (.invokevirtual 94, 3) := by decide +kernel
theorem dJ8_hugeLength_7cf53_33 : decode cJ8_hugeLength_7cf53 33 = .ok (.iload_n 1, 1) := by decide +kernel
theorem dJ8_hugeLength_7cf53_34 : decode cJ8_hugeLength_7cf53 34 = .ok (.invokevirtual 98, 3) := by decide +kernel
theorem dJ8_hugeLength_7cf53_37 : decode cJ8_hugeLength_7cf53 37 = .ok (.ldc 210, 2) := by decide +kernel
theorem dJ8_hugeLength_7cf53_39 : decode cJ8_hugeLength_7cf53 39 = .ok (.invokevirtual 94, 3) := by decide +kernel
theorem dJ8_hugeLength_7cf53_42 : decode cJ8_hugeLength_7cf53 42 = .ok (.invokevirtual 101, 3) := by decide +kernel
theorem dJ8_hugeLength_7cf53_45 : decode cJ8_hugeLength_7cf53 45 = .ok (.invokespecial 212, 3) := by decide +kernel
theorem dJ8_hugeLength_7cf53_48 : decode cJ8_hugeLength_7cf53 48 = .ok (.athrow, 1) := by decide +kernel
theorem dJ8_hugeLength_7cf53_49 : decode cJ8_hugeLength_7cf53 49 = .ok (.iload_n 2, 1) := by decide +kernel
theorem dJ8_hugeLength_7cf53_50 : decode cJ8_hugeLength_7cf53 50 = .ok (.ldc 200, 2) := by decide +kernel
theorem dJ8_hugeLength_7cf53_52 : decode cJ8_hugeLength_7cf53 52 = .ok (.if_icmp .gt 6, 3) := by decide +kernel
theorem dJ8_hugeLength_7cf53_55 : decode cJ8_hugeLength_7cf53 55 = .ok (.ldc 200, 2) := by decide +kernel
theorem dJ8_hugeLength_7cf53_57 : decode cJ8_hugeLength_7cf53 57 = .ok (.ireturn, 1) := by decide +kernel
theorem dJ8_hugeLength_7cf53_58 : decode cJ8_hugeLength_7cf53 58 = .ok (.iload_n 2, 1) := by decide +kernel
theorem dJ8_hugeLength_7cf53_59 : decode cJ8_hugeLength_7cf53 59 = .ok (.ireturn, 1) := by decide +kernel
theorem dJ3_checkIndex_8e157_0 : decode cJ3_checkIndex_8e157 0 = .ok (.iload_n 0, 1) := by decide +kernel
theorem dJ3_checkIndex_8e157_1 : decode cJ3_checkIndex_8e157 1 = .ok (.ifCond .lt 8, 3) := by decide +kernel
theorem dJ3_checkIndex_8e157_4 : decode cJ3_checkIndex_8e157 4 = .ok (.iload_n 0, 1) := by decide +kernel
theorem dJ3_checkIndex_8e157_5 : decode cJ3_checkIndex_8e157 5 = .ok (.iload_n 1, 1) := by decide +kernel
theorem dJ3_checkIndex_8e157_6 : decode cJ3_checkIndex_8e157 6 = .ok (.if_icmp .lt 10, 3) := by decide +kernel
theorem dJ3_checkIndex_8e157_9 : decode cJ3_checkIndex_8e157 9 = .ok (.aload_n 2, 1) := by decide +kernel
theorem dJ3_checkIndex_8e157_10 : decode cJ3_checkIndex_8e157 10 = .ok (.iload_n 0, 1) := by decide +kernel
theorem dJ3_checkIndex_8e157_11 : decode cJ3_checkIndex_8e157 11 = .ok (.iload_n 1, 1) := by decide +kernel
theorem dJ3_checkIndex_8e157_12 : decode cJ3_checkIndex_8e157 12 = .ok (.invokestatic 95, 3) := by decide +kernel
theorem dJ3_checkIndex_8e157_15 : decode cJ3_checkIndex_8e157 15 = .ok (.athrow, 1) := by decide +kernel
theorem dJ3_checkIndex_8e157_16 : decode cJ3_checkIndex_8e157 16 = .ok (.iload_n 0, 1) := by decide +kernel
theorem dJ3_checkIndex_8e157_17 : decode cJ3_checkIndex_8e157 17 = .ok (.ireturn, 1) := by decide +kernel
theorem dL_cell_0 : decode cL_cell 0 = .ok (.iload_n 1, 1) := by decide +kernel
theorem dL_cell_1 : decode cL_cell 1 = .ok (.aload_n 0, 1) := by decide +kernel
theorem dL_cell_2 : decode cL_cell 2 = .ok (.arraylength, 1) := by decide +kernel
theorem dL_cell_3 : decode cL_cell 3 = .ok (.if_icmp .ge 9, 3) := by decide +kernel
theorem dL_cell_6 : decode cL_cell 6 = .ok (.aload_n 0, 1) := by decide +kernel
theorem dL_cell_7 : decode cL_cell 7 = .ok (.iload_n 1, 1) := by decide +kernel
theorem dL_cell_8 : decode cL_cell 8 = .ok (.iaload, 1) := by decide +kernel
theorem dL_cell_9 : decode cL_cell 9 = .ok (.goto 4, 3) := by decide +kernel
theorem dL_cell_12 : decode cL_cell 12 = .ok (.iconst 0, 1) := by decide +kernel
theorem dL_cell_13 : decode cL_cell 13 = .ok (.ireturn, 1) := by decide +kernel
theorem dL_law_0 : decode cL_law 0 = .ok (.new 7, 3) := by decide +kernel
theorem dL_law_3 : decode cL_law 3 = .ok (.dup, 1) := by decide +kernel
theorem dL_law_4 : decode cL_law 4 = .ok (.aload_n 0, 1) := by decide +kernel
theorem dL_law_5 : decode cL_law 5 = .ok (.iconst 0, 1) := by decide +kernel
theorem dL_law_6 : decode cL_law 6 = .ok (.invokestatic 9, 3) := by decide +kernel
theorem dL_law_9 : decode cL_law 9 = .ok (.invokespecial 15, 3) := by decide +kernel
theorem dL_law_12 : decode cL_law 12 = .ok (.astore_n 1, 1) := by decide +kernel
theorem dL_law_13 : decode cL_law 13 = .ok (.new 18, 3) := by decide +kernel
theorem dL_law_16 : decode cL_law 16 = .ok (.dup, 1) := by decide +kernel
theorem dL_law_17 : decode cL_law 17 = .ok (.aload_n 0, 1) := by decide +kernel
theorem dL_law_18 : decode cL_law 18 = .ok (.iconst 0, 1) := by decide +kernel
theorem dL_law_19 : decode cL_law 19 = .ok (.invokestatic 9, 3) := by decide +kernel
theorem dL_law_22 : decode cL_law 22 = .ok (.invokespecial 20, 3) := by decide +kernel
theorem dL_law_25 : decode cL_law 25 = .ok (.astore_n 2, 1) := by decide +kernel
theorem dL_law_26 : decode cL_law 26 = .ok (.iconst 1, 1) := by decide +kernel
theorem dL_law_27 : decode cL_law 27 = .ok (.istore_n 3, 1) := by decide +kernel
theorem dL_law_28 : decode cL_law 28 = .ok (.iload_n 3, 1) := by decide +kernel
theorem dL_law_29 : decode cL_law 29 = .ok (.aload_n 0, 1) := by decide +kernel
theorem dL_law_30 : decode cL_law 30 = .ok (.arraylength, 1) := by decide +kernel
theorem dL_law_31 : decode cL_law 31 = .ok (.bipush 6, 2) := by decide +kernel
theorem dL_law_33 : decode cL_law 33 = .ok (.isub, 1) := by decide +kernel
theorem dL_law_34 : decode cL_law 34 = .ok (.if_icmp .gt 840, 3) := by decide +kernel
theorem dL_law_37 : decode cL_law 37 = .ok (.aload_n 0, 1) := by decide +kernel
theorem dL_law_38 : decode cL_law 38 = .ok (.iload_n 3, 1) := by decide +kernel
theorem dL_law_39 : decode cL_law 39 = .ok (.iaload, 1) := by decide +kernel
theorem dL_law_40 : decode cL_law 40 = .ok (.bipush 31, 2) := by decide +kernel
theorem dL_law_42 : decode cL_law 42 = .ok (.iand, 1) := by decide +kernel
theorem dL_law_43 : decode cL_law 43 = .ok (.tableswitch 825 0 20 #[97, 140, 193, 236, 269, 332, 375, 418, 451, 474, 508, 542, 566, 589, 613, 626, 659, 692, 735, 769, 802], 97) := by decide +kernel
theorem dL_law_140 : decode cL_law 140 = .ok (.aload_n 1, 1) := by decide +kernel
theorem dL_law_141 : decode cL_law 141 = .ok (.aload_n 0, 1) := by decide +kernel
theorem dL_law_142 : decode cL_law 142 = .ok (.iload_n 3, 1) := by decide +kernel
theorem dL_law_143 : decode cL_law 143 = .ok (.iconst 1, 1) := by decide +kernel
theorem dL_law_144 : decode cL_law 144 = .ok (.iadd, 1) := by decide +kernel
theorem dL_law_145 : decode cL_law 145 = .ok (.iaload, 1) := by decide +kernel
theorem dL_law_146 : decode cL_law 146 = .ok (.aload_n 0, 1) := by decide +kernel
theorem dL_law_147 : decode cL_law 147 = .ok (.iload_n 3, 1) := by decide +kernel
theorem dL_law_148 : decode cL_law 148 = .ok (.iconst 2, 1) := by decide +kernel
theorem dL_law_149 : decode cL_law 149 = .ok (.iadd, 1) := by decide +kernel
theorem dL_law_150 : decode cL_law 150 = .ok (.iaload, 1) := by decide +kernel
theorem dL_law_151 : decode cL_law 151 = .ok (.aload_n 0, 1) := by decide +kernel
theorem dL_law_152 : decode cL_law 152 = .ok (.iload_n 3, 1) := by decide +kernel
theorem dL_law_153 : decode cL_law 153 = .ok (.iconst 3, 1) := by decide +kernel
theorem dL_law_154 : decode cL_law 154 = .ok (.iadd, 1) := by decide +kernel
theorem dL_law_155 : decode cL_law 155 = .ok (.iaload, 1) := by decide +kernel
theorem dL_law_156 : decode cL_law 156 = .ok (.invokevirtual 21, 3) := by decide +kernel
theorem dL_law_159 : decode cL_law 159 = .ok (.aload_n 2, 1) := by decide +kernel
theorem dL_law_160 : decode cL_law 160 = .ok (.aload_n 0, 1) := by decide +kernel
theorem dL_law_161 : decode cL_law 161 = .ok (.iload_n 3, 1) := by decide +kernel
theorem dL_law_162 : decode cL_law 162 = .ok (.iconst 1, 1) := by decide +kernel
theorem dL_law_163 : decode cL_law 163 = .ok (.iadd, 1) := by decide +kernel
theorem dL_law_164 : decode cL_law 164 = .ok (.iaload, 1) := by decide +kernel
theorem dL_law_165 : decode cL_law 165 = .ok (.aload_n 0, 1) := by decide +kernel
theorem dL_law_166 : decode cL_law 166 = .ok (.iload_n 3, 1) := by decide +kernel
theorem dL_law_167 : decode cL_law 167 = .ok (.iconst 2, 1) := by decide +kernel
theorem dL_law_168 : decode cL_law 168 = .ok (.iadd, 1) := by decide +kernel
theorem dL_law_169 : decode cL_law 169 = .ok (.iaload, 1) := by decide +kernel
theorem dL_law_170 : decode cL_law 170 = .ok (.aload_n 0, 1) := by decide +kernel
theorem dL_law_171 : decode cL_law 171 = .ok (.iload_n 3, 1) := by decide +kernel
theorem dL_law_172 : decode cL_law 172 = .ok (.iconst 3, 1) := by decide +kernel
theorem dL_law_173 : decode cL_law 173 = .ok (.iadd, 1) := by decide +kernel
theorem dL_law_174 : decode cL_law 174 = .ok (.iaload, 1) := by decide +kernel
theorem dL_law_175 : decode cL_law 175 = .ok (.invokevirtual 25, 3) := by decide +kernel
theorem dL_law_178 : decode cL_law 178 = .ok (.if_icmp .eq 690, 3) := by decide +kernel
theorem dL_law_181 : decode cL_law 181 = .ok (.iconst 0, 1) := by decide +kernel
theorem dL_law_182 : decode cL_law 182 = .ok (.ireturn, 1) := by decide +kernel
theorem dL_law_183 : decode cL_law 183 = .ok (.aload_n 1, 1) := by decide +kernel
theorem dL_law_184 : decode cL_law 184 = .ok (.aload_n 0, 1) := by decide +kernel
theorem dL_law_185 : decode cL_law 185 = .ok (.iload_n 3, 1) := by decide +kernel
theorem dL_law_186 : decode cL_law 186 = .ok (.iconst 1, 1) := by decide +kernel
theorem dL_law_187 : decode cL_law 187 = .ok (.iadd, 1) := by decide +kernel
theorem dL_law_188 : decode cL_law 188 = .ok (.iaload, 1) := by decide +kernel
theorem dL_law_189 : decode cL_law 189 = .ok (.aload_n 0, 1) := by decide +kernel
theorem dL_law_190 : decode cL_law 190 = .ok (.iload_n 3, 1) := by decide +kernel
theorem dL_law_191 : decode cL_law 191 = .ok (.iconst 2, 1) := by decide +kernel
theorem dL_law_192 : decode cL_law 192 = .ok (.iadd, 1) := by decide +kernel
theorem dL_law_193 : decode cL_law 193 = .ok (.iaload, 1) := by decide +kernel
theorem dL_law_194 : decode cL_law 194 = .ok (.aload_n 0, 1) := by decide +kernel
theorem dL_law_195 : decode cL_law 195 = .ok (.iload_n 3, 1) := by decide +kernel
theorem dL_law_196 : decode cL_law 196 = .ok (.iconst 3, 1) := by decide +kernel
theorem dL_law_197 : decode cL_law 197 = .ok (.iadd, 1) := by decide +kernel
theorem dL_law_198 : decode cL_law 198 = .ok (.iaload, 1) := by decide +kernel
theorem dL_law_199 : decode cL_law 199 = .ok (.aload_n 0, 1) := by decide +kernel
theorem dL_law_200 : decode cL_law 200 = .ok (.iload_n 3, 1) := by decide +kernel
theorem dL_law_201 : decode cL_law 201 = .ok (.iconst 4, 1) := by decide +kernel
theorem dL_law_202 : decode cL_law 202 = .ok (.iadd, 1) := by decide +kernel
theorem dL_law_203 : decode cL_law 203 = .ok (.iaload, 1) := by decide +kernel
theorem dL_law_204 : decode cL_law 204 = .ok (.invokevirtual 26, 3) := by decide +kernel
theorem dL_law_207 : decode cL_law 207 = .ok (.aload_n 2, 1) := by decide +kernel
theorem dL_law_208 : decode cL_law 208 = .ok (.aload_n 0, 1) := by decide +kernel
theorem dL_law_209 : decode cL_law 209 = .ok (.iload_n 3, 1) := by decide +kernel
theorem dL_law_210 : decode cL_law 210 = .ok (.iconst 1, 1) := by decide +kernel
theorem dL_law_211 : decode cL_law 211 = .ok (.iadd, 1) := by decide +kernel
theorem dL_law_212 : decode cL_law 212 = .ok (.iaload, 1) := by decide +kernel
theorem dL_law_213 : decode cL_law 213 = .ok (.aload_n 0, 1) := by decide +kernel
theorem dL_law_214 : decode cL_law 214 = .ok (.iload_n 3, 1) := by decide +kernel
theorem dL_law_215 : decode cL_law 215 = .ok (.iconst 2, 1) := by decide +kernel
theorem dL_law_216 : decode cL_law 216 = .ok (.iadd, 1) := by decide +kernel
theorem dL_law_217 : decode cL_law 217 = .ok (.iaload, 1) := by decide +kernel
theorem dL_law_218 : decode cL_law 218 = .ok (.aload_n 0, 1) := by decide +kernel
theorem dL_law_219 : decode cL_law 219 = .ok (.iload_n 3, 1) := by decide +kernel
theorem dL_law_220 : decode cL_law 220 = .ok (.iconst 3, 1) := by decide +kernel
theorem dL_law_221 : decode cL_law 221 = .ok (.iadd, 1) := by decide +kernel
theorem dL_law_222 : decode cL_law 222 = .ok (.iaload, 1) := by decide +kernel
theorem dL_law_223 : decode cL_law 223 = .ok (.aload_n 0, 1) := by decide +kernel
theorem dL_law_224 : decode cL_law 224 = .ok (.iload_n 3, 1) := by decide +kernel
theorem dL_law_225 : decode cL_law 225 = .ok (.iconst 4, 1) := by decide +kernel
theorem dL_law_226 : decode cL_law 226 = .ok (.iadd, 1) := by decide +kernel
theorem dL_law_227 : decode cL_law 227 = .ok (.iaload, 1) := by decide +kernel
theorem dL_law_228 : decode cL_law 228 = .ok (.invokevirtual 30, 3) := by decide +kernel
theorem dL_law_231 : decode cL_law 231 = .ok (.if_icmp .eq 637, 3) := by decide +kernel
theorem dL_law_234 : decode cL_law 234 = .ok (.iconst 0, 1) := by decide +kernel
theorem dL_law_235 : decode cL_law 235 = .ok (.ireturn, 1) := by decide +kernel
theorem dL_law_236 : decode cL_law 236 = .ok (.aload_n 1, 1) := by decide +kernel
theorem dL_law_237 : decode cL_law 237 = .ok (.aload_n 0, 1) := by decide +kernel
theorem dL_law_238 : decode cL_law 238 = .ok (.iload_n 3, 1) := by decide +kernel
theorem dL_law_239 : decode cL_law 239 = .ok (.iconst 1, 1) := by decide +kernel
theorem dL_law_240 : decode cL_law 240 = .ok (.iadd, 1) := by decide +kernel
theorem dL_law_241 : decode cL_law 241 = .ok (.iaload, 1) := by decide +kernel
theorem dL_law_242 : decode cL_law 242 = .ok (.aload_n 0, 1) := by decide +kernel
theorem dL_law_243 : decode cL_law 243 = .ok (.iload_n 3, 1) := by decide +kernel
theorem dL_law_244 : decode cL_law 244 = .ok (.iconst 2, 1) := by decide +kernel
theorem dL_law_245 : decode cL_law 245 = .ok (.iadd, 1) := by decide +kernel
theorem dL_law_246 : decode cL_law 246 = .ok (.iaload, 1) := by decide +kernel
theorem dL_law_247 : decode cL_law 247 = .ok (.aload_n 0, 1) := by decide +kernel
theorem dL_law_248 : decode cL_law 248 = .ok (.iload_n 3, 1) := by decide +kernel
theorem dL_law_249 : decode cL_law 249 = .ok (.iconst 3, 1) := by decide +kernel
theorem dL_law_250 : decode cL_law 250 = .ok (.iadd, 1) := by decide +kernel
theorem dL_law_251 : decode cL_law 251 = .ok (.iaload, 1) := by decide +kernel
theorem dL_law_252 : decode cL_law 252 = .ok (.invokevirtual 31, 3) := by decide +kernel
theorem dL_law_255 : decode cL_law 255 = .ok (.aload_n 2, 1) := by decide +kernel
theorem dL_law_256 : decode cL_law 256 = .ok (.aload_n 0, 1) := by decide +kernel
theorem dL_law_257 : decode cL_law 257 = .ok (.iload_n 3, 1) := by decide +kernel
theorem dL_law_258 : decode cL_law 258 = .ok (.iconst 1, 1) := by decide +kernel
theorem dL_law_259 : decode cL_law 259 = .ok (.iadd, 1) := by decide +kernel
theorem dL_law_260 : decode cL_law 260 = .ok (.iaload, 1) := by decide +kernel
theorem dL_law_261 : decode cL_law 261 = .ok (.aload_n 0, 1) := by decide +kernel
theorem dL_law_262 : decode cL_law 262 = .ok (.iload_n 3, 1) := by decide +kernel
theorem dL_law_263 : decode cL_law 263 = .ok (.iconst 2, 1) := by decide +kernel
theorem dL_law_264 : decode cL_law 264 = .ok (.iadd, 1) := by decide +kernel
theorem dL_law_265 : decode cL_law 265 = .ok (.iaload, 1) := by decide +kernel
theorem dL_law_266 : decode cL_law 266 = .ok (.aload_n 0, 1) := by decide +kernel
theorem dL_law_267 : decode cL_law 267 = .ok (.iload_n 3, 1) := by decide +kernel
theorem dL_law_268 : decode cL_law 268 = .ok (.iconst 3, 1) := by decide +kernel
theorem dL_law_269 : decode cL_law 269 = .ok (.iadd, 1) := by decide +kernel
theorem dL_law_270 : decode cL_law 270 = .ok (.iaload, 1) := by decide +kernel
theorem dL_law_271 : decode cL_law 271 = .ok (.invokevirtual 34, 3) := by decide +kernel
theorem dL_law_274 : decode cL_law 274 = .ok (.if_icmp .eq 594, 3) := by decide +kernel
theorem dL_law_277 : decode cL_law 277 = .ok (.iconst 0, 1) := by decide +kernel
theorem dL_law_278 : decode cL_law 278 = .ok (.ireturn, 1) := by decide +kernel
theorem dL_law_279 : decode cL_law 279 = .ok (.aload_n 1, 1) := by decide +kernel
theorem dL_law_280 : decode cL_law 280 = .ok (.aload_n 0, 1) := by decide +kernel
theorem dL_law_281 : decode cL_law 281 = .ok (.iload_n 3, 1) := by decide +kernel
theorem dL_law_282 : decode cL_law 282 = .ok (.iconst 1, 1) := by decide +kernel
theorem dL_law_283 : decode cL_law 283 = .ok (.iadd, 1) := by decide +kernel
theorem dL_law_284 : decode cL_law 284 = .ok (.iaload, 1) := by decide +kernel
theorem dL_law_285 : decode cL_law 285 = .ok (.aload_n 0, 1) := by decide +kernel
theorem dL_law_286 : decode cL_law 286 = .ok (.iload_n 3, 1) := by decide +kernel
theorem dL_law_287 : decode cL_law 287 = .ok (.iconst 2, 1) := by decide +kernel
theorem dL_law_288 : decode cL_law 288 = .ok (.iadd, 1) := by decide +kernel
theorem dL_law_289 : decode cL_law 289 = .ok (.iaload, 1) := by decide +kernel
theorem dL_law_290 : decode cL_law 290 = .ok (.invokevirtual 35, 3) := by decide +kernel
theorem dL_law_293 : decode cL_law 293 = .ok (.aload_n 2, 1) := by decide +kernel
theorem dL_law_294 : decode cL_law 294 = .ok (.aload_n 0, 1) := by decide +kernel
theorem dL_law_295 : decode cL_law 295 = .ok (.iload_n 3, 1) := by decide +kernel
theorem dL_law_296 : decode cL_law 296 = .ok (.iconst 1, 1) := by decide +kernel
theorem dL_law_297 : decode cL_law 297 = .ok (.iadd, 1) := by decide +kernel
theorem dL_law_298 : decode cL_law 298 = .ok (.iaload, 1) := by decide +kernel
theorem dL_law_299 : decode cL_law 299 = .ok (.aload_n 0, 1) := by decide +kernel
theorem dL_law_300 : decode cL_law 300 = .ok (.iload_n 3, 1) := by decide +kernel
theorem dL_law_301 : decode cL_law 301 = .ok (.iconst 2, 1) := by decide +kernel
theorem dL_law_302 : decode cL_law 302 = .ok (.iadd, 1) := by decide +kernel
theorem dL_law_303 : decode cL_law 303 = .ok (.iaload, 1) := by decide +kernel
theorem dL_law_304 : decode cL_law 304 = .ok (.invokevirtual 39, 3) := by decide +kernel
theorem dL_law_307 : decode cL_law 307 = .ok (.if_icmp .eq 561, 3) := by decide +kernel
theorem dL_law_310 : decode cL_law 310 = .ok (.iconst 0, 1) := by decide +kernel
theorem dL_law_311 : decode cL_law 311 = .ok (.ireturn, 1) := by decide +kernel
theorem dL_law_312 : decode cL_law 312 = .ok (.aload_n 1, 1) := by decide +kernel
theorem dL_law_313 : decode cL_law 313 = .ok (.aload_n 0, 1) := by decide +kernel
theorem dL_law_314 : decode cL_law 314 = .ok (.iload_n 3, 1) := by decide +kernel
theorem dL_law_315 : decode cL_law 315 = .ok (.iconst 1, 1) := by decide +kernel
theorem dL_law_316 : decode cL_law 316 = .ok (.iadd, 1) := by decide +kernel
theorem dL_law_317 : decode cL_law 317 = .ok (.iaload, 1) := by decide +kernel
theorem dL_law_318 : decode cL_law 318 = .ok (.aload_n 0, 1) := by decide +kernel
theorem dL_law_319 : decode cL_law 319 = .ok (.iload_n 3, 1) := by decide +kernel
theorem dL_law_320 : decode cL_law 320 = .ok (.iconst 2, 1) := by decide +kernel
theorem dL_law_321 : decode cL_law 321 = .ok (.iadd, 1) := by decide +kernel
theorem dL_law_322 : decode cL_law 322 = .ok (.iaload, 1) := by decide +kernel
theorem dL_law_323 : decode cL_law 323 = .ok (.aload_n 0, 1) := by decide +kernel
theorem dL_law_324 : decode cL_law 324 = .ok (.iload_n 3, 1) := by decide +kernel
theorem dL_law_325 : decode cL_law 325 = .ok (.iconst 3, 1) := by decide +kernel
theorem dL_law_326 : decode cL_law 326 = .ok (.iadd, 1) := by decide +kernel
theorem dL_law_327 : decode cL_law 327 = .ok (.iaload, 1) := by decide +kernel
theorem dL_law_328 : decode cL_law 328 = .ok (.aload_n 0, 1) := by decide +kernel
theorem dL_law_329 : decode cL_law 329 = .ok (.iload_n 3, 1) := by decide +kernel
theorem dL_law_330 : decode cL_law 330 = .ok (.iconst 4, 1) := by decide +kernel
theorem dL_law_331 : decode cL_law 331 = .ok (.iadd, 1) := by decide +kernel
theorem dL_law_332 : decode cL_law 332 = .ok (.iaload, 1) := by decide +kernel
theorem dL_law_333 : decode cL_law 333 = .ok (.aload_n 0, 1) := by decide +kernel
theorem dL_law_334 : decode cL_law 334 = .ok (.iload_n 3, 1) := by decide +kernel
theorem dL_law_335 : decode cL_law 335 = .ok (.iconst 5, 1) := by decide +kernel
theorem dL_law_336 : decode cL_law 336 = .ok (.iadd, 1) := by decide +kernel
theorem dL_law_337 : decode cL_law 337 = .ok (.iaload, 1) := by decide +kernel
theorem dL_law_338 : decode cL_law 338 = .ok (.invokevirtual 40, 3) := by decide +kernel
theorem dL_law_341 : decode cL_law 341 = .ok (.aload_n 2, 1) := by decide +kernel
theorem dL_law_342 : decode cL_law 342 = .ok (.aload_n 0, 1) := by decide +kernel
theorem dL_law_343 : decode cL_law 343 = .ok (.iload_n 3, 1) := by decide +kernel
theorem dL_law_344 : decode cL_law 344 = .ok (.iconst 1, 1) := by decide +kernel
theorem dL_law_345 : decode cL_law 345 = .ok (.iadd, 1) := by decide +kernel
theorem dL_law_346 : decode cL_law 346 = .ok (.iaload, 1) := by decide +kernel
theorem dL_law_347 : decode cL_law 347 = .ok (.aload_n 0, 1) := by decide +kernel
theorem dL_law_348 : decode cL_law 348 = .ok (.iload_n 3, 1) := by decide +kernel
theorem dL_law_349 : decode cL_law 349 = .ok (.iconst 2, 1) := by decide +kernel
theorem dL_law_350 : decode cL_law 350 = .ok (.iadd, 1) := by decide +kernel
theorem dL_law_351 : decode cL_law 351 = .ok (.iaload, 1) := by decide +kernel
theorem dL_law_352 : decode cL_law 352 = .ok (.aload_n 0, 1) := by decide +kernel
theorem dL_law_353 : decode cL_law 353 = .ok (.iload_n 3, 1) := by decide +kernel
theorem dL_law_354 : decode cL_law 354 = .ok (.iconst 3, 1) := by decide +kernel
theorem dL_law_355 : decode cL_law 355 = .ok (.iadd, 1) := by decide +kernel
theorem dL_law_356 : decode cL_law 356 = .ok (.iaload, 1) := by decide +kernel
theorem dL_law_357 : decode cL_law 357 = .ok (.aload_n 0, 1) := by decide +kernel
theorem dL_law_358 : decode cL_law 358 = .ok (.iload_n 3, 1) := by decide +kernel
theorem dL_law_359 : decode cL_law 359 = .ok (.iconst 4, 1) := by decide +kernel
theorem dL_law_360 : decode cL_law 360 = .ok (.iadd, 1) := by decide +kernel
theorem dL_law_361 : decode cL_law 361 = .ok (.iaload, 1) := by decide +kernel
theorem dL_law_362 : decode cL_law 362 = .ok (.aload_n 0, 1) := by decide +kernel
theorem dL_law_363 : decode cL_law 363 = .ok (.iload_n 3, 1) := by decide +kernel
theorem dL_law_364 : decode cL_law 364 = .ok (.iconst 5, 1) := by decide +kernel
theorem dL_law_365 : decode cL_law 365 = .ok (.iadd, 1) := by decide +kernel
theorem dL_law_366 : decode cL_law 366 = .ok (.iaload, 1) := by decide +kernel
theorem dL_law_367 : decode cL_law 367 = .ok (.invokevirtual 44, 3) := by decide +kernel
theorem dL_law_370 : decode cL_law 370 = .ok (.if_icmp .eq 498, 3) := by decide +kernel
theorem dL_law_373 : decode cL_law 373 = .ok (.iconst 0, 1) := by decide +kernel
theorem dL_law_374 : decode cL_law 374 = .ok (.ireturn, 1) := by decide +kernel
theorem dL_law_375 : decode cL_law 375 = .ok (.aload_n 1, 1) := by decide +kernel
theorem dL_law_376 : decode cL_law 376 = .ok (.aload_n 0, 1) := by decide +kernel
theorem dL_law_377 : decode cL_law 377 = .ok (.iload_n 3, 1) := by decide +kernel
theorem dL_law_378 : decode cL_law 378 = .ok (.iconst 1, 1) := by decide +kernel
theorem dL_law_379 : decode cL_law 379 = .ok (.iadd, 1) := by decide +kernel
theorem dL_law_380 : decode cL_law 380 = .ok (.iaload, 1) := by decide +kernel
theorem dL_law_381 : decode cL_law 381 = .ok (.aload_n 0, 1) := by decide +kernel
theorem dL_law_382 : decode cL_law 382 = .ok (.iload_n 3, 1) := by decide +kernel
theorem dL_law_383 : decode cL_law 383 = .ok (.iconst 2, 1) := by decide +kernel
theorem dL_law_384 : decode cL_law 384 = .ok (.iadd, 1) := by decide +kernel
theorem dL_law_385 : decode cL_law 385 = .ok (.iaload, 1) := by decide +kernel
theorem dL_law_386 : decode cL_law 386 = .ok (.aload_n 0, 1) := by decide +kernel
theorem dL_law_387 : decode cL_law 387 = .ok (.iload_n 3, 1) := by decide +kernel
theorem dL_law_388 : decode cL_law 388 = .ok (.iconst 3, 1) := by decide +kernel
theorem dL_law_389 : decode cL_law 389 = .ok (.iadd, 1) := by decide +kernel
theorem dL_law_390 : decode cL_law 390 = .ok (.iaload, 1) := by decide +kernel
theorem dL_law_391 : decode cL_law 391 = .ok (.invokevirtual 45, 3) := by decide +kernel
theorem dL_law_394 : decode cL_law 394 = .ok (.aload_n 2, 1) := by decide +kernel
theorem dL_law_395 : decode cL_law 395 = .ok (.aload_n 0, 1) := by decide +kernel
theorem dL_law_396 : decode cL_law 396 = .ok (.iload_n 3, 1) := by decide +kernel
theorem dL_law_397 : decode cL_law 397 = .ok (.iconst 1, 1) := by decide +kernel
theorem dL_law_398 : decode cL_law 398 = .ok (.iadd, 1) := by decide +kernel
theorem dL_law_399 : decode cL_law 399 = .ok (.iaload, 1) := by decide +kernel
theorem dL_law_400 : decode cL_law 400 = .ok (.aload_n 0, 1) := by decide +kernel
theorem dL_law_401 : decode cL_law 401 = .ok (.iload_n 3, 1) := by decide +kernel
theorem dL_law_402 : decode cL_law 402 = .ok (.iconst 2, 1) := by decide +kernel
theorem dL_law_403 : decode cL_law 403 = .ok (.iadd, 1) := by decide +kernel
theorem dL_law_404 : decode cL_law 404 = .ok (.iaload, 1) := by decide +kernel
theorem dL_law_405 : decode cL_law 405 = .ok (.aload_n 0, 1) := by decide +kernel
theorem dL_law_406 : decode cL_law 406 = .ok (.iload_n 3, 1) := by decide +kernel
theorem dL_law_407 : decode cL_law 407 = .ok (.iconst 3, 1) := by decide +kernel
theorem dL_law_408 : decode cL_law 408 = .ok (.iadd, 1) := by decide +kernel
theorem dL_law_409 : decode cL_law 409 = .ok (.iaload, 1) := by decide +kernel
theorem dL_law_410 : decode cL_law 410 = .ok (.invokevirtual 48, 3) := by decide +kernel
theorem dL_law_413 : decode cL_law 413 = .ok (.if_icmp .eq 455, 3) := by decide +kernel
theorem dL_law_416 : decode cL_law 416 = .ok (.iconst 0, 1) := by decide +kernel
theorem dL_law_417 : decode cL_law 417 = .ok (.ireturn, 1) := by decide +kernel
theorem dL_law_418 : decode cL_law 418 = .ok (.aload_n 1, 1) := by decide +kernel
theorem dL_law_419 : decode cL_law 419 = .ok (.aload_n 0, 1) := by decide +kernel
theorem dL_law_420 : decode cL_law 420 = .ok (.iload_n 3, 1) := by decide +kernel
theorem dL_law_421 : decode cL_law 421 = .ok (.iconst 1, 1) := by decide +kernel
theorem dL_law_422 : decode cL_law 422 = .ok (.iadd, 1) := by decide +kernel
theorem dL_law_423 : decode cL_law 423 = .ok (.iaload, 1) := by decide +kernel
theorem dL_law_424 : decode cL_law 424 = .ok (.aload_n 0, 1) := by decide +kernel
theorem dL_law_425 : decode cL_law 425 = .ok (.iload_n 3, 1) := by decide +kernel
theorem dL_law_426 : decode cL_law 426 = .ok (.iconst 2, 1) := by decide +kernel
theorem dL_law_427 : decode cL_law 427 = .ok (.iadd, 1) := by decide +kernel
theorem dL_law_428 : decode cL_law 428 = .ok (.iaload, 1) := by decide +kernel
theorem dL_law_429 : decode cL_law 429 = .ok (.aload_n 0, 1) := by decide +kernel
theorem dL_law_430 : decode cL_law 430 = .ok (.iload_n 3, 1) := by decide +kernel
theorem dL_law_431 : decode cL_law 431 = .ok (.iconst 3, 1) := by decide +kernel
theorem dL_law_432 : decode cL_law 432 = .ok (.iadd, 1) := by decide +kernel
theorem dL_law_433 : decode cL_law 433 = .ok (.iaload, 1) := by decide +kernel
theorem dL_law_434 : decode cL_law 434 = .ok (.invokevirtual 49, 3) := by decide +kernel
theorem dL_law_437 : decode cL_law 437 = .ok (.aload_n 2, 1) := by decide +kernel
theorem dL_law_438 : decode cL_law 438 = .ok (.aload_n 0, 1) := by decide +kernel
theorem dL_law_439 : decode cL_law 439 = .ok (.iload_n 3, 1) := by decide +kernel
theorem dL_law_440 : decode cL_law 440 = .ok (.iconst 1, 1) := by decide +kernel
theorem dL_law_441 : decode cL_law 441 = .ok (.iadd, 1) := by decide +kernel
theorem dL_law_442 : decode cL_law 442 = .ok (.iaload, 1) := by decide +kernel
theorem dL_law_443 : decode cL_law 443 = .ok (.aload_n 0, 1) := by decide +kernel
theorem dL_law_444 : decode cL_law 444 = .ok (.iload_n 3, 1) := by decide +kernel
theorem dL_law_445 : decode cL_law 445 = .ok (.iconst 2, 1) := by decide +kernel
theorem dL_law_446 : decode cL_law 446 = .ok (.iadd, 1) := by decide +kernel
theorem dL_law_447 : decode cL_law 447 = .ok (.iaload, 1) := by decide +kernel
theorem dL_law_448 : decode cL_law 448 = .ok (.aload_n 0, 1) := by decide +kernel
theorem dL_law_449 : decode cL_law 449 = .ok (.iload_n 3, 1) := by decide +kernel
theorem dL_law_450 : decode cL_law 450 = .ok (.iconst 3, 1) := by decide +kernel
theorem dL_law_451 : decode cL_law 451 = .ok (.iadd, 1) := by decide +kernel
theorem dL_law_452 : decode cL_law 452 = .ok (.iaload, 1) := by decide +kernel
theorem dL_law_453 : decode cL_law 453 = .ok (.invokevirtual 52, 3) := by decide +kernel
theorem dL_law_456 : decode cL_law 456 = .ok (.if_icmp .eq 412, 3) := by decide +kernel
theorem dL_law_459 : decode cL_law 459 = .ok (.iconst 0, 1) := by decide +kernel
theorem dL_law_460 : decode cL_law 460 = .ok (.ireturn, 1) := by decide +kernel
theorem dL_law_461 : decode cL_law 461 = .ok (.aload_n 1, 1) := by decide +kernel
theorem dL_law_462 : decode cL_law 462 = .ok (.aload_n 0, 1) := by decide +kernel
theorem dL_law_463 : decode cL_law 463 = .ok (.iload_n 3, 1) := by decide +kernel
theorem dL_law_464 : decode cL_law 464 = .ok (.iconst 1, 1) := by decide +kernel
theorem dL_law_465 : decode cL_law 465 = .ok (.iadd, 1) := by decide +kernel
theorem dL_law_466 : decode cL_law 466 = .ok (.iaload, 1) := by decide +kernel
theorem dL_law_467 : decode cL_law 467 = .ok (.aload_n 0, 1) := by decide +kernel
theorem dL_law_468 : decode cL_law 468 = .ok (.iload_n 3, 1) := by decide +kernel
theorem dL_law_469 : decode cL_law 469 = .ok (.iconst 2, 1) := by decide +kernel
theorem dL_law_470 : decode cL_law 470 = .ok (.iadd, 1) := by decide +kernel
theorem dL_law_471 : decode cL_law 471 = .ok (.iaload, 1) := by decide +kernel
theorem dL_law_472 : decode cL_law 472 = .ok (.invokevirtual 53, 3) := by decide +kernel
theorem dL_law_475 : decode cL_law 475 = .ok (.aload_n 2, 1) := by decide +kernel
theorem dL_law_476 : decode cL_law 476 = .ok (.aload_n 0, 1) := by decide +kernel
theorem dL_law_477 : decode cL_law 477 = .ok (.iload_n 3, 1) := by decide +kernel
theorem dL_law_478 : decode cL_law 478 = .ok (.iconst 1, 1) := by decide +kernel
theorem dL_law_479 : decode cL_law 479 = .ok (.iadd, 1) := by decide +kernel
theorem dL_law_480 : decode cL_law 480 = .ok (.iaload, 1) := by decide +kernel
theorem dL_law_481 : decode cL_law 481 = .ok (.aload_n 0, 1) := by decide +kernel
theorem dL_law_482 : decode cL_law 482 = .ok (.iload_n 3, 1) := by decide +kernel
theorem dL_law_483 : decode cL_law 483 = .ok (.iconst 2, 1) := by decide +kernel
theorem dL_law_484 : decode cL_law 484 = .ok (.iadd, 1) := by decide +kernel
theorem dL_law_485 : decode cL_law 485 = .ok (.iaload, 1) := by decide +kernel
theorem dL_law_486 : decode cL_law 486 = .ok (.invokevirtual 56, 3) := by decide +kernel
theorem dL_law_489 : decode cL_law 489 = .ok (.if_icmp .eq 379, 3) := by decide +kernel
theorem dL_law_492 : decode cL_law 492 = .ok (.iconst 0, 1) := by decide +kernel
theorem dL_law_493 : decode cL_law 493 = .ok (.ireturn, 1) := by decide +kernel
theorem dL_law_494 : decode cL_law 494 = .ok (.aload_n 1, 1) := by decide +kernel
theorem dL_law_495 : decode cL_law 495 = .ok (.aload_n 0, 1) := by decide +kernel
theorem dL_law_496 : decode cL_law 496 = .ok (.iload_n 3, 1) := by decide +kernel
theorem dL_law_497 : decode cL_law 497 = .ok (.iconst 1, 1) := by decide +kernel
theorem dL_law_498 : decode cL_law 498 = .ok (.iadd, 1) := by decide +kernel
theorem dL_law_499 : decode cL_law 499 = .ok (.iaload, 1) := by decide +kernel
theorem dL_law_500 : decode cL_law 500 = .ok (.invokevirtual 57, 3) := by decide +kernel
theorem dL_law_503 : decode cL_law 503 = .ok (.aload_n 2, 1) := by decide +kernel
theorem dL_law_504 : decode cL_law 504 = .ok (.aload_n 0, 1) := by decide +kernel
theorem dL_law_505 : decode cL_law 505 = .ok (.iload_n 3, 1) := by decide +kernel
theorem dL_law_506 : decode cL_law 506 = .ok (.iconst 1, 1) := by decide +kernel
theorem dL_law_507 : decode cL_law 507 = .ok (.iadd, 1) := by decide +kernel
theorem dL_law_508 : decode cL_law 508 = .ok (.iaload, 1) := by decide +kernel
theorem dL_law_509 : decode cL_law 509 = .ok (.invokevirtual 61, 3) := by decide +kernel
theorem dL_law_512 : decode cL_law 512 = .ok (.if_icmp .eq 356, 3) := by decide +kernel
theorem dL_law_515 : decode cL_law 515 = .ok (.iconst 0, 1) := by decide +kernel
theorem dL_law_516 : decode cL_law 516 = .ok (.ireturn, 1) := by decide +kernel
theorem dL_law_517 : decode cL_law 517 = .ok (.aload_n 1, 1) := by decide +kernel
theorem dL_law_518 : decode cL_law 518 = .ok (.aload_n 0, 1) := by decide +kernel
theorem dL_law_519 : decode cL_law 519 = .ok (.iload_n 3, 1) := by decide +kernel
theorem dL_law_520 : decode cL_law 520 = .ok (.iconst 1, 1) := by decide +kernel
theorem dL_law_521 : decode cL_law 521 = .ok (.iadd, 1) := by decide +kernel
theorem dL_law_522 : decode cL_law 522 = .ok (.iaload, 1) := by decide +kernel
theorem dL_law_523 : decode cL_law 523 = .ok (.aload_n 0, 1) := by decide +kernel
theorem dL_law_524 : decode cL_law 524 = .ok (.iload_n 3, 1) := by decide +kernel
theorem dL_law_525 : decode cL_law 525 = .ok (.iconst 2, 1) := by decide +kernel
theorem dL_law_526 : decode cL_law 526 = .ok (.iadd, 1) := by decide +kernel
theorem dL_law_527 : decode cL_law 527 = .ok (.iaload, 1) := by decide +kernel
theorem dL_law_528 : decode cL_law 528 = .ok (.invokevirtual 62, 3) := by decide +kernel
theorem dL_law_531 : decode cL_law 531 = .ok (.aload_n 2, 1) := by decide +kernel
theorem dL_law_532 : decode cL_law 532 = .ok (.aload_n 0, 1) := by decide +kernel
theorem dL_law_533 : decode cL_law 533 = .ok (.iload_n 3, 1) := by decide +kernel
theorem dL_law_534 : decode cL_law 534 = .ok (.iconst 1, 1) := by decide +kernel
theorem dL_law_535 : decode cL_law 535 = .ok (.iadd, 1) := by decide +kernel
theorem dL_law_536 : decode cL_law 536 = .ok (.iaload, 1) := by decide +kernel
theorem dL_law_537 : decode cL_law 537 = .ok (.aload_n 0, 1) := by decide +kernel
theorem dL_law_538 : decode cL_law 538 = .ok (.iload_n 3, 1) := by decide +kernel
theorem dL_law_539 : decode cL_law 539 = .ok (.iconst 2, 1) := by decide +kernel
theorem dL_law_540 : decode cL_law 540 = .ok (.iadd, 1) := by decide +kernel
theorem dL_law_541 : decode cL_law 541 = .ok (.iaload, 1) := by decide +kernel
theorem dL_law_542 : decode cL_law 542 = .ok (.invokevirtual 66, 3) := by decide +kernel
theorem dL_law_545 : decode cL_law 545 = .ok (.lcmp, 1) := by decide +kernel
theorem dL_law_546 : decode cL_law 546 = .ok (.ifCond .eq 322, 3) := by decide +kernel
theorem dL_law_549 : decode cL_law 549 = .ok (.iconst 0, 1) := by decide +kernel
theorem dL_law_550 : decode cL_law 550 = .ok (.ireturn, 1) := by decide +kernel
theorem dL_law_551 : decode cL_law 551 = .ok (.aload_n 1, 1) := by decide +kernel
theorem dL_law_552 : decode cL_law 552 = .ok (.aload_n 0, 1) := by decide +kernel
theorem dL_law_553 : decode cL_law 553 = .ok (.iload_n 3, 1) := by decide +kernel
theorem dL_law_554 : decode cL_law 554 = .ok (.iconst 1, 1) := by decide +kernel
theorem dL_law_555 : decode cL_law 555 = .ok (.iadd, 1) := by decide +kernel
theorem dL_law_556 : decode cL_law 556 = .ok (.iaload, 1) := by decide +kernel
theorem dL_law_557 : decode cL_law 557 = .ok (.aload_n 0, 1) := by decide +kernel
theorem dL_law_558 : decode cL_law 558 = .ok (.iload_n 3, 1) := by decide +kernel
theorem dL_law_559 : decode cL_law 559 = .ok (.iconst 2, 1) := by decide +kernel
theorem dL_law_560 : decode cL_law 560 = .ok (.iadd, 1) := by decide +kernel
theorem dL_law_561 : decode cL_law 561 = .ok (.iaload, 1) := by decide +kernel
theorem dL_law_562 : decode cL_law 562 = .ok (.invokevirtual 67, 3) := by decide +kernel
theorem dL_law_565 : decode cL_law 565 = .ok (.aload_n 2, 1) := by decide +kernel
theorem dL_law_566 : decode cL_law 566 = .ok (.aload_n 0, 1) := by decide +kernel
theorem dL_law_567 : decode cL_law 567 = .ok (.iload_n 3, 1) := by decide +kernel
theorem dL_law_568 : decode cL_law 568 = .ok (.iconst 1, 1) := by decide +kernel
theorem dL_law_569 : decode cL_law 569 = .ok (.iadd, 1) := by decide +kernel
theorem dL_law_570 : decode cL_law 570 = .ok (.iaload, 1) := by decide +kernel
theorem dL_law_571 : decode cL_law 571 = .ok (.aload_n 0, 1) := by decide +kernel
theorem dL_law_572 : decode cL_law 572 = .ok (.iload_n 3, 1) := by decide +kernel
theorem dL_law_573 : decode cL_law 573 = .ok (.iconst 2, 1) := by decide +kernel
theorem dL_law_574 : decode cL_law 574 = .ok (.iadd, 1) := by decide +kernel
theorem dL_law_575 : decode cL_law 575 = .ok (.iaload, 1) := by decide +kernel
theorem dL_law_576 : decode cL_law 576 = .ok (.invokevirtual 70, 3) := by decide +kernel
theorem dL_law_579 : decode cL_law 579 = .ok (.lcmp, 1) := by decide +kernel
theorem dL_law_580 : decode cL_law 580 = .ok (.ifCond .eq 288, 3) := by decide +kernel
theorem dL_law_583 : decode cL_law 583 = .ok (.iconst 0, 1) := by decide +kernel
theorem dL_law_584 : decode cL_law 584 = .ok (.ireturn, 1) := by decide +kernel
theorem dL_law_585 : decode cL_law 585 = .ok (.aload_n 1, 1) := by decide +kernel
theorem dL_law_586 : decode cL_law 586 = .ok (.aload_n 0, 1) := by decide +kernel
theorem dL_law_587 : decode cL_law 587 = .ok (.iload_n 3, 1) := by decide +kernel
theorem dL_law_588 : decode cL_law 588 = .ok (.iconst 1, 1) := by decide +kernel
theorem dL_law_589 : decode cL_law 589 = .ok (.iadd, 1) := by decide +kernel
theorem dL_law_590 : decode cL_law 590 = .ok (.iaload, 1) := by decide +kernel
theorem dL_law_591 : decode cL_law 591 = .ok (.invokevirtual 71, 3) := by decide +kernel
theorem dL_law_594 : decode cL_law 594 = .ok (.aload_n 2, 1) := by decide +kernel
theorem dL_law_595 : decode cL_law 595 = .ok (.aload_n 0, 1) := by decide +kernel
theorem dL_law_596 : decode cL_law 596 = .ok (.iload_n 3, 1) := by decide +kernel
theorem dL_law_597 : decode cL_law 597 = .ok (.iconst 1, 1) := by decide +kernel
theorem dL_law_598 : decode cL_law 598 = .ok (.iadd, 1) := by decide +kernel
theorem dL_law_599 : decode cL_law 599 = .ok (.iaload, 1) := by decide +kernel
theorem dL_law_600 : decode cL_law 600 = .ok (.invokevirtual 74, 3) := by decide +kernel
theorem dL_law_603 : decode cL_law 603 = .ok (.lcmp, 1) := by decide +kernel
theorem dL_law_604 : decode cL_law 604 = .ok (.ifCond .eq 264, 3) := by decide +kernel
theorem dL_law_607 : decode cL_law 607 = .ok (.iconst 0, 1) := by decide +kernel
theorem dL_law_608 : decode cL_law 608 = .ok (.ireturn, 1) := by decide +kernel
theorem dL_law_609 : decode cL_law 609 = .ok (.aload_n 1, 1) := by decide +kernel
theorem dL_law_610 : decode cL_law 610 = .ok (.aload_n 0, 1) := by decide +kernel
theorem dL_law_611 : decode cL_law 611 = .ok (.iload_n 3, 1) := by decide +kernel
theorem dL_law_612 : decode cL_law 612 = .ok (.iconst 1, 1) := by decide +kernel
theorem dL_law_613 : decode cL_law 613 = .ok (.iadd, 1) := by decide +kernel
theorem dL_law_614 : decode cL_law 614 = .ok (.iaload, 1) := by decide +kernel
theorem dL_law_615 : decode cL_law 615 = .ok (.invokevirtual 75, 3) := by decide +kernel
theorem dL_law_618 : decode cL_law 618 = .ok (.aload_n 2, 1) := by decide +kernel
theorem dL_law_619 : decode cL_law 619 = .ok (.aload_n 0, 1) := by decide +kernel
theorem dL_law_620 : decode cL_law 620 = .ok (.iload_n 3, 1) := by decide +kernel
theorem dL_law_621 : decode cL_law 621 = .ok (.iconst 1, 1) := by decide +kernel
theorem dL_law_622 : decode cL_law 622 = .ok (.iadd, 1) := by decide +kernel
theorem dL_law_623 : decode cL_law 623 = .ok (.iaload, 1) := by decide +kernel
theorem dL_law_624 : decode cL_law 624 = .ok (.invokevirtual 78, 3) := by decide +kernel
theorem dL_law_627 : decode cL_law 627 = .ok (.if_icmp .eq 241, 3) := by decide +kernel
theorem dL_law_630 : decode cL_law 630 = .ok (.iconst 0, 1) := by decide +kernel
theorem dL_law_631 : decode cL_law 631 = .ok (.ireturn, 1) := by decide +kernel
theorem dL_law_632 : decode cL_law 632 = .ok (.aload_n 1, 1) := by decide +kernel
theorem dL_law_633 : decode cL_law 633 = .ok (.aload_n 0, 1) := by decide +kernel
theorem dL_law_634 : decode cL_law 634 = .ok (.iload_n 3, 1) := by decide +kernel
theorem dL_law_635 : decode cL_law 635 = .ok (.iconst 1, 1) := by decide +kernel
theorem dL_law_636 : decode cL_law 636 = .ok (.iadd, 1) := by decide +kernel
theorem dL_law_637 : decode cL_law 637 = .ok (.iaload, 1) := by decide +kernel
theorem dL_law_638 : decode cL_law 638 = .ok (.invokevirtual 79, 3) := by decide +kernel
theorem dL_law_641 : decode cL_law 641 = .ok (.aload_n 2, 1) := by decide +kernel
theorem dL_law_642 : decode cL_law 642 = .ok (.aload_n 0, 1) := by decide +kernel
theorem dL_law_643 : decode cL_law 643 = .ok (.iload_n 3, 1) := by decide +kernel
theorem dL_law_644 : decode cL_law 644 = .ok (.iconst 1, 1) := by decide +kernel
theorem dL_law_645 : decode cL_law 645 = .ok (.iadd, 1) := by decide +kernel
theorem dL_law_646 : decode cL_law 646 = .ok (.iaload, 1) := by decide +kernel
theorem dL_law_647 : decode cL_law 647 = .ok (.invokevirtual 82, 3) := by decide +kernel
theorem dL_law_650 : decode cL_law 650 = .ok (.lcmp, 1) := by decide +kernel
theorem dL_law_651 : decode cL_law 651 = .ok (.ifCond .eq 217, 3) := by decide +kernel
theorem dL_law_654 : decode cL_law 654 = .ok (.iconst 0, 1) := by decide +kernel
theorem dL_law_655 : decode cL_law 655 = .ok (.ireturn, 1) := by decide +kernel
theorem dL_law_656 : decode cL_law 656 = .ok (.aload_n 1, 1) := by decide +kernel
theorem dL_law_657 : decode cL_law 657 = .ok (.invokevirtual 83, 3) := by decide +kernel
theorem dL_law_660 : decode cL_law 660 = .ok (.aload_n 2, 1) := by decide +kernel
theorem dL_law_661 : decode cL_law 661 = .ok (.invokevirtual 87, 3) := by decide +kernel
theorem dL_law_664 : decode cL_law 664 = .ok (.if_icmp .eq 204, 3) := by decide +kernel
theorem dL_law_667 : decode cL_law 667 = .ok (.iconst 0, 1) := by decide +kernel
theorem dL_law_668 : decode cL_law 668 = .ok (.ireturn, 1) := by decide +kernel
theorem dL_law_669 : decode cL_law 669 = .ok (.aload_n 1, 1) := by decide +kernel
theorem dL_law_670 : decode cL_law 670 = .ok (.aload_n 0, 1) := by decide +kernel
theorem dL_law_671 : decode cL_law 671 = .ok (.iload_n 3, 1) := by decide +kernel
theorem dL_law_672 : decode cL_law 672 = .ok (.iconst 1, 1) := by decide +kernel
theorem dL_law_673 : decode cL_law 673 = .ok (.iadd, 1) := by decide +kernel
theorem dL_law_674 : decode cL_law 674 = .ok (.iaload, 1) := by decide +kernel
theorem dL_law_675 : decode cL_law 675 = .ok (.aload_n 0, 1) := by decide +kernel
theorem dL_law_676 : decode cL_law 676 = .ok (.iload_n 3, 1) := by decide +kernel
theorem dL_law_677 : decode cL_law 677 = .ok (.iconst 2, 1) := by decide +kernel
theorem dL_law_678 : decode cL_law 678 = .ok (.iadd, 1) := by decide +kernel
theorem dL_law_679 : decode cL_law 679 = .ok (.iaload, 1) := by decide +kernel
theorem dL_law_680 : decode cL_law 680 = .ok (.invokevirtual 88, 3) := by decide +kernel
theorem dL_law_683 : decode cL_law 683 = .ok (.aload_n 2, 1) := by decide +kernel
theorem dL_law_684 : decode cL_law 684 = .ok (.aload_n 0, 1) := by decide +kernel
theorem dL_law_685 : decode cL_law 685 = .ok (.iload_n 3, 1) := by decide +kernel
theorem dL_law_686 : decode cL_law 686 = .ok (.iconst 1, 1) := by decide +kernel
theorem dL_law_687 : decode cL_law 687 = .ok (.iadd, 1) := by decide +kernel
theorem dL_law_688 : decode cL_law 688 = .ok (.iaload, 1) := by decide +kernel
theorem dL_law_689 : decode cL_law 689 = .ok (.aload_n 0, 1) := by decide +kernel
theorem dL_law_690 : decode cL_law 690 = .ok (.iload_n 3, 1) := by decide +kernel
theorem dL_law_691 : decode cL_law 691 = .ok (.iconst 2, 1) := by decide +kernel
theorem dL_law_692 : decode cL_law 692 = .ok (.iadd, 1) := by decide +kernel
theorem dL_law_693 : decode cL_law 693 = .ok (.iaload, 1) := by decide +kernel
theorem dL_law_694 : decode cL_law 694 = .ok (.invokevirtual 91, 3) := by decide +kernel
theorem dL_law_697 : decode cL_law 697 = .ok (.if_icmp .eq 171, 3) := by decide +kernel
theorem dL_law_700 : decode cL_law 700 = .ok (.iconst 0, 1) := by decide +kernel
theorem dL_law_701 : decode cL_law 701 = .ok (.ireturn, 1) := by decide +kernel
theorem dL_law_702 : decode cL_law 702 = .ok (.aload_n 1, 1) := by decide +kernel
theorem dL_law_703 : decode cL_law 703 = .ok (.aload_n 0, 1) := by decide +kernel
theorem dL_law_704 : decode cL_law 704 = .ok (.iload_n 3, 1) := by decide +kernel
theorem dL_law_705 : decode cL_law 705 = .ok (.iconst 1, 1) := by decide +kernel
theorem dL_law_706 : decode cL_law 706 = .ok (.iadd, 1) := by decide +kernel
theorem dL_law_707 : decode cL_law 707 = .ok (.iaload, 1) := by decide +kernel
theorem dL_law_708 : decode cL_law 708 = .ok (.aload_n 0, 1) := by decide +kernel
theorem dL_law_709 : decode cL_law 709 = .ok (.iload_n 3, 1) := by decide +kernel
theorem dL_law_710 : decode cL_law 710 = .ok (.iconst 2, 1) := by decide +kernel
theorem dL_law_711 : decode cL_law 711 = .ok (.iadd, 1) := by decide +kernel
theorem dL_law_712 : decode cL_law 712 = .ok (.iaload, 1) := by decide +kernel
theorem dL_law_713 : decode cL_law 713 = .ok (.invokevirtual 92, 3) := by decide +kernel
theorem dL_law_716 : decode cL_law 716 = .ok (.aload_n 2, 1) := by decide +kernel
theorem dL_law_717 : decode cL_law 717 = .ok (.aload_n 0, 1) := by decide +kernel
theorem dL_law_718 : decode cL_law 718 = .ok (.iload_n 3, 1) := by decide +kernel
theorem dL_law_719 : decode cL_law 719 = .ok (.iconst 1, 1) := by decide +kernel
theorem dL_law_720 : decode cL_law 720 = .ok (.iadd, 1) := by decide +kernel
theorem dL_law_721 : decode cL_law 721 = .ok (.iaload, 1) := by decide +kernel
theorem dL_law_722 : decode cL_law 722 = .ok (.aload_n 0, 1) := by decide +kernel
theorem dL_law_723 : decode cL_law 723 = .ok (.iload_n 3, 1) := by decide +kernel
theorem dL_law_724 : decode cL_law 724 = .ok (.iconst 2, 1) := by decide +kernel
theorem dL_law_725 : decode cL_law 725 = .ok (.iadd, 1) := by decide +kernel
theorem dL_law_726 : decode cL_law 726 = .ok (.iaload, 1) := by decide +kernel
theorem dL_law_727 : decode cL_law 727 = .ok (.invokevirtual 96, 3) := by decide +kernel
theorem dL_law_730 : decode cL_law 730 = .ok (.if_icmp .eq 138, 3) := by decide +kernel
theorem dL_law_733 : decode cL_law 733 = .ok (.iconst 0, 1) := by decide +kernel
theorem dL_law_734 : decode cL_law 734 = .ok (.ireturn, 1) := by decide +kernel
theorem dL_law_735 : decode cL_law 735 = .ok (.aload_n 1, 1) := by decide +kernel
theorem dL_law_736 : decode cL_law 736 = .ok (.aload_n 0, 1) := by decide +kernel
theorem dL_law_737 : decode cL_law 737 = .ok (.iload_n 3, 1) := by decide +kernel
theorem dL_law_738 : decode cL_law 738 = .ok (.iconst 1, 1) := by decide +kernel
theorem dL_law_739 : decode cL_law 739 = .ok (.iadd, 1) := by decide +kernel
theorem dL_law_740 : decode cL_law 740 = .ok (.iaload, 1) := by decide +kernel
theorem dL_law_741 : decode cL_law 741 = .ok (.aload_n 0, 1) := by decide +kernel
theorem dL_law_742 : decode cL_law 742 = .ok (.iload_n 3, 1) := by decide +kernel
theorem dL_law_743 : decode cL_law 743 = .ok (.iconst 2, 1) := by decide +kernel
theorem dL_law_744 : decode cL_law 744 = .ok (.iadd, 1) := by decide +kernel
theorem dL_law_745 : decode cL_law 745 = .ok (.iaload, 1) := by decide +kernel
theorem dL_law_746 : decode cL_law 746 = .ok (.aload_n 0, 1) := by decide +kernel
theorem dL_law_747 : decode cL_law 747 = .ok (.iload_n 3, 1) := by decide +kernel
theorem dL_law_748 : decode cL_law 748 = .ok (.iconst 3, 1) := by decide +kernel
theorem dL_law_749 : decode cL_law 749 = .ok (.iadd, 1) := by decide +kernel
theorem dL_law_750 : decode cL_law 750 = .ok (.iaload, 1) := by decide +kernel
theorem dL_law_751 : decode cL_law 751 = .ok (.invokevirtual 97, 3) := by decide +kernel
theorem dL_law_754 : decode cL_law 754 = .ok (.aload_n 2, 1) := by decide +kernel
theorem dL_law_755 : decode cL_law 755 = .ok (.aload_n 0, 1) := by decide +kernel
theorem dL_law_756 : decode cL_law 756 = .ok (.iload_n 3, 1) := by decide +kernel
theorem dL_law_757 : decode cL_law 757 = .ok (.iconst 1, 1) := by decide +kernel
theorem dL_law_758 : decode cL_law 758 = .ok (.iadd, 1) := by decide +kernel
theorem dL_law_759 : decode cL_law 759 = .ok (.iaload, 1) := by decide +kernel
theorem dL_law_760 : decode cL_law 760 = .ok (.aload_n 0, 1) := by decide +kernel
theorem dL_law_761 : decode cL_law 761 = .ok (.iload_n 3, 1) := by decide +kernel
theorem dL_law_762 : decode cL_law 762 = .ok (.iconst 2, 1) := by decide +kernel
theorem dL_law_763 : decode cL_law 763 = .ok (.iadd, 1) := by decide +kernel
theorem dL_law_764 : decode cL_law 764 = .ok (.iaload, 1) := by decide +kernel
theorem dL_law_765 : decode cL_law 765 = .ok (.aload_n 0, 1) := by decide +kernel
theorem dL_law_766 : decode cL_law 766 = .ok (.iload_n 3, 1) := by decide +kernel
theorem dL_law_767 : decode cL_law 767 = .ok (.iconst 3, 1) := by decide +kernel
theorem dL_law_768 : decode cL_law 768 = .ok (.iadd, 1) := by decide +kernel
theorem dL_law_769 : decode cL_law 769 = .ok (.iaload, 1) := by decide +kernel
theorem dL_law_770 : decode cL_law 770 = .ok (.invokevirtual 100, 3) := by decide +kernel
theorem dL_law_773 : decode cL_law 773 = .ok (.if_icmp .eq 95, 3) := by decide +kernel
theorem dL_law_776 : decode cL_law 776 = .ok (.iconst 0, 1) := by decide +kernel
theorem dL_law_777 : decode cL_law 777 = .ok (.ireturn, 1) := by decide +kernel
theorem dL_law_778 : decode cL_law 778 = .ok (.aload_n 1, 1) := by decide +kernel
theorem dL_law_779 : decode cL_law 779 = .ok (.aload_n 0, 1) := by decide +kernel
theorem dL_law_780 : decode cL_law 780 = .ok (.iload_n 3, 1) := by decide +kernel
theorem dL_law_781 : decode cL_law 781 = .ok (.iconst 1, 1) := by decide +kernel
theorem dL_law_782 : decode cL_law 782 = .ok (.iadd, 1) := by decide +kernel
theorem dL_law_783 : decode cL_law 783 = .ok (.iaload, 1) := by decide +kernel
theorem dL_law_784 : decode cL_law 784 = .ok (.aload_n 0, 1) := by decide +kernel
theorem dL_law_785 : decode cL_law 785 = .ok (.iload_n 3, 1) := by decide +kernel
theorem dL_law_786 : decode cL_law 786 = .ok (.iconst 2, 1) := by decide +kernel
theorem dL_law_787 : decode cL_law 787 = .ok (.iadd, 1) := by decide +kernel
theorem dL_law_788 : decode cL_law 788 = .ok (.iaload, 1) := by decide +kernel
theorem dL_law_789 : decode cL_law 789 = .ok (.invokevirtual 101, 3) := by decide +kernel
theorem dL_law_792 : decode cL_law 792 = .ok (.aload_n 2, 1) := by decide +kernel
theorem dL_law_793 : decode cL_law 793 = .ok (.aload_n 0, 1) := by decide +kernel
theorem dL_law_794 : decode cL_law 794 = .ok (.iload_n 3, 1) := by decide +kernel
theorem dL_law_795 : decode cL_law 795 = .ok (.iconst 1, 1) := by decide +kernel
theorem dL_law_796 : decode cL_law 796 = .ok (.iadd, 1) := by decide +kernel
theorem dL_law_797 : decode cL_law 797 = .ok (.iaload, 1) := by decide +kernel
theorem dL_law_798 : decode cL_law 798 = .ok (.aload_n 0, 1) := by decide +kernel
theorem dL_law_799 : decode cL_law 799 = .ok (.iload_n 3, 1) := by decide +kernel
theorem dL_law_800 : decode cL_law 800 = .ok (.iconst 2, 1) := by decide +kernel
theorem dL_law_801 : decode cL_law 801 = .ok (.iadd, 1) := by decide +kernel
theorem dL_law_802 : decode cL_law 802 = .ok (.iaload, 1) := by decide +kernel
theorem dL_law_803 : decode cL_law 803 = .ok (.invokevirtual 104, 3) := by decide +kernel
theorem dL_law_806 : decode cL_law 806 = .ok (.lcmp, 1) := by decide +kernel
theorem dL_law_807 : decode cL_law 807 = .ok (.ifCond .eq 61, 3) := by decide +kernel
theorem dL_law_810 : decode cL_law 810 = .ok (.iconst 0, 1) := by decide +kernel
theorem dL_law_811 : decode cL_law 811 = .ok (.ireturn, 1) := by decide +kernel
theorem dL_law_812 : decode cL_law 812 = .ok (.aload_n 1, 1) := by decide +kernel
theorem dL_law_813 : decode cL_law 813 = .ok (.aload_n 0, 1) := by decide +kernel
theorem dL_law_814 : decode cL_law 814 = .ok (.iload_n 3, 1) := by decide +kernel
theorem dL_law_815 : decode cL_law 815 = .ok (.iconst 1, 1) := by decide +kernel
theorem dL_law_816 : decode cL_law 816 = .ok (.iadd, 1) := by decide +kernel
theorem dL_law_817 : decode cL_law 817 = .ok (.iaload, 1) := by decide +kernel
theorem dL_law_818 : decode cL_law 818 = .ok (.aload_n 0, 1) := by decide +kernel
theorem dL_law_819 : decode cL_law 819 = .ok (.iload_n 3, 1) := by decide +kernel
theorem dL_law_820 : decode cL_law 820 = .ok (.iconst 2, 1) := by decide +kernel
theorem dL_law_821 : decode cL_law 821 = .ok (.iadd, 1) := by decide +kernel
theorem dL_law_822 : decode cL_law 822 = .ok (.iaload, 1) := by decide +kernel
theorem dL_law_823 : decode cL_law 823 = .ok (.invokevirtual 105, 3) := by decide +kernel
theorem dL_law_826 : decode cL_law 826 = .ok (.aload_n 2, 1) := by decide +kernel
theorem dL_law_827 : decode cL_law 827 = .ok (.aload_n 0, 1) := by decide +kernel
theorem dL_law_828 : decode cL_law 828 = .ok (.iload_n 3, 1) := by decide +kernel
theorem dL_law_829 : decode cL_law 829 = .ok (.iconst 1, 1) := by decide +kernel
theorem dL_law_830 : decode cL_law 830 = .ok (.iadd, 1) := by decide +kernel
theorem dL_law_831 : decode cL_law 831 = .ok (.iaload, 1) := by decide +kernel
theorem dL_law_832 : decode cL_law 832 = .ok (.aload_n 0, 1) := by decide +kernel
theorem dL_law_833 : decode cL_law 833 = .ok (.iload_n 3, 1) := by decide +kernel
theorem dL_law_834 : decode cL_law 834 = .ok (.iconst 2, 1) := by decide +kernel
theorem dL_law_835 : decode cL_law 835 = .ok (.iadd, 1) := by decide +kernel
theorem dL_law_836 : decode cL_law 836 = .ok (.iaload, 1) := by decide +kernel
theorem dL_law_837 : decode cL_law 837 = .ok (.invokevirtual 108, 3) := by decide +kernel
theorem dL_law_840 : decode cL_law 840 = .ok (.if_icmp .eq 28, 3) := by decide +kernel
theorem dL_law_843 : decode cL_law 843 = .ok (.iconst 0, 1) := by decide +kernel
theorem dL_law_844 : decode cL_law 844 = .ok (.ireturn, 1) := by decide +kernel
theorem dL_law_845 : decode cL_law 845 = .ok (.aload_n 1, 1) := by decide +kernel
theorem dL_law_846 : decode cL_law 846 = .ok (.aload_n 0, 1) := by decide +kernel
theorem dL_law_847 : decode cL_law 847 = .ok (.iload_n 3, 1) := by decide +kernel
theorem dL_law_848 : decode cL_law 848 = .ok (.iconst 1, 1) := by decide +kernel
theorem dL_law_849 : decode cL_law 849 = .ok (.iadd, 1) := by decide +kernel
theorem dL_law_850 : decode cL_law 850 = .ok (.iaload, 1) := by decide +kernel
theorem dL_law_851 : decode cL_law 851 = .ok (.invokevirtual 109, 3) := by decide +kernel
theorem dL_law_854 : decode cL_law 854 = .ok (.aload_n 2, 1) := by decide +kernel
theorem dL_law_855 : decode cL_law 855 = .ok (.aload_n 0, 1) := by decide +kernel
theorem dL_law_856 : decode cL_law 856 = .ok (.iload_n 3, 1) := by decide +kernel
theorem dL_law_857 : decode cL_law 857 = .ok (.iconst 1, 1) := by decide +kernel
theorem dL_law_858 : decode cL_law 858 = .ok (.iadd, 1) := by decide +kernel
theorem dL_law_859 : decode cL_law 859 = .ok (.iaload, 1) := by decide +kernel
theorem dL_law_860 : decode cL_law 860 = .ok (.invokevirtual 112, 3) := by decide +kernel
theorem dL_law_863 : decode cL_law 863 = .ok (.if_icmp .eq 5, 3) := by decide +kernel
theorem dL_law_866 : decode cL_law 866 = .ok (.iconst 0, 1) := by decide +kernel
theorem dL_law_867 : decode cL_law 867 = .ok (.ireturn, 1) := by decide +kernel
theorem dL_law_868 : decode cL_law 868 = .ok (.iinc 3 6, 3) := by decide +kernel
theorem dL_law_871 : decode cL_law 871 = .ok (.goto (-843), 3) := by decide +kernel
theorem dL_law_874 : decode cL_law 874 = .ok (.iconst 1, 1) := by decide +kernel
theorem dL_law_875 : decode cL_law 875 = .ok (.ireturn, 1) := by decide +kernel
end
section

def gtbl : List Cond := lw_tbl.filter goodWord
theorem gtbl_in {w : Cond} (h : w ∈ gtbl) : w ∈ lw_tbl := (List.mem_filter.mp h).1
theorem gtbl_good : GoodIn gtbl gtbl := fun w h => ⟨h, good_of_word (List.mem_filter.mp h).2⟩
abbrev Wd : Type := Nat → Option va_E
def wst (w : Wd) (a : Nat) (e : va_E) : Wd := fun q => if q = a then some e else w q
theorem wst_s (w : Wd) (a : Nat) (e : va_E) : wst w a e a = some e := if_pos rfl
theorem wst_n {w : Wd} {a b : Nat} {e : va_E} (h : b ≠ a) : wst w a e b = w b := if_neg h
abbrev Gx : Type := va_G × ClassId × ClassId × ClassId × ClassId × Nat × Nat
abbrev Kx : Type := Launch × Gx × Nat
def tysG (g : Gx) : List (ClassId × FieldType) := [(g.2.1, .int), (g.2.2.1, .long), (g.2.2.2.1, .boolean), (g.2.2.2.2.1, .object "java/lang/Object")]
abbrev aI (g : Gx) (n : Nat) (f : Nat → Int32) : va_E := .inl (g.2.1, n, .inl f)
abbrev aJ (g : Gx) (n : Nat) (f : Nat → Int64) : va_E := .inl (g.2.2.1, n, .inr (.inl f))
abbrev aZ (g : Gx) (n : Nat) (f : Nat → Int32) : va_E := .inl (g.2.2.2.1, n, .inl f)
abbrev aO (g : Gx) (n : Nat) (f : Nat → Option Nat) : va_E := .inl (g.2.2.2.2.1, n, .inr (.inr (.inr (.inr f))))
def wh (g : Gx) (w : Wd) (H : Heap) : Prop := ∀ (a : Nat) (e : va_E), w a = some e → va_at g.1 vwCl (a, e) H
def wb (B : Nat) (w : Wd) : Prop := ∀ (a : Nat) (e : va_E), w a = some e → B ≤ a
theorem wh.lt {g : Gx} {w : Wd} {H : Heap} (h : wh g w H) {a : Nat} {e : va_E} (ha : w a = some e) : a < H.size := (h a e ha).lt
theorem wh.fresh {g : Gx} {w : Wd} {H : Heap} (h : wh g w H) {a : Nat} (ha : H.size ≤ a) : w a = none := by
  cases hw : w a with
  | none => rfl
  | some e => exact absurd (h.lt hw) (Nat.not_lt.mpr ha)
theorem wh.set {g : Gx} {w : Wd} {H H1 : Heap} {a : Nat} {e : va_E} (h : wh g w H) (he : va_at g.1 vwCl (a, e) H1) (oq : ∀ q : Nat, q ≠ a → H1[q]? = H[q]?) : wh g (wst w a e) H1 := by
  intro q x hq
  by_cases hqa : q = a
  · subst hqa
    rw [wst_s] at hq
    cases hq
    exact he
  · rw [wst_n hqa] at hq
    exact (h q x hq).kept (oq q hqa)
theorem wh.push {g : Gx} {w : Wd} {H H1 : Heap} {a : Nat} {e : va_E} (h : wh g w H) (ha : a = H.size) (he : va_at g.1 vwCl (a, e) H1) (oq : ∀ q : Nat, q < H.size → H1[q]? = H[q]?) : wh g (wst w a e) H1 := by
  intro q x hq
  by_cases hqa : q = a
  · subst hqa
    rw [wst_s] at hq
    cases hq
    exact he
  · rw [wst_n hqa] at hq
    exact (h q x hq).kept (oq q (h.lt hq))
theorem wb.set {B : Nat} {w : Wd} {a : Nat} {e : va_E} (h : wb B w) (ha : B ≤ a) : wb B (wst w a e) := by
  intro q x hq
  by_cases hqa : q = a
  · rw [hqa]; exact ha
  · rw [wst_n hqa] at hq
    exact h q x hq
/-- what stands outside the worlds: words that no word list may hold, the list's empty row, the class object of Object[] -/
def XW (U : State) : Prop := (∀ C ∈ ([RX0, RX1, RX2, RX3, RX5, RX6, RX7, RX8] : List String), va_Nw (.castable C "java/lang/Object") U) ∧ va_Nw (.methodLinkNest "StormPipes" 41 yX4_init "StormPipes") U ∧ va_Nw (.methodLinkNest "StormPipes$Line" 99 yX9_isWithin "StormPipes") U ∧ va_Dc U ∧ va_AO "java/lang/Object" U
theorem XW.warm {s U : State} (hW : s.WarmedH U.vm) (h : XW s) : XW U := ⟨fun C hC => (h.1 C hC).warmC hW, h.2.1.warmM hW, h.2.2.1.warmM hW, h.2.2.2.1.moved hW.alike, h.2.2.2.2.moved hW.alike⟩
theorem XW.vm {s U : State} (hv : s.vm = U.vm) (h : XW s) : XW U := ⟨fun C hC => va_tabs rfl hv (h.1 C hC), va_tabs rfl hv h.2.1, va_tabs rfl hv h.2.2.1, h.2.2.2.1.moved (by rw [hv]; exact Vm.Alike.refl _), h.2.2.2.2.moved (by rw [hv]; exact Vm.Alike.refl _)⟩
def Stc (g : Gx) (B : Nat) (U : State) : Prop := XW U ∧ va_Z "java/util/ArrayList" "DEFAULTCAPACITY_EMPTY_ELEMENTDATA" "[Ljava/lang/Object;" (.ref g.2.2.2.2.2.1) (fun q : Nat => B ≤ q) U U.heap ∧ va_T (.object "java/lang/Object") g.2.2.2.2.2.1 0 (fun _ => .null) (fun q : Nat => B ≤ q) U U.heap ∧ va_Mi "[Ljava/lang/Object;" g.2.2.2.2.2.2 U
theorem Stc.go {g : Gx} {B : Nat} {s U : State} (hW : s.WarmedH U.vm) (hh : ∀ q : Nat, q < s.heap.size → ¬ B ≤ q → U.heap[q]? = s.heap[q]?) (h : Stc g B s) : Stc g B U :=
  ⟨h.1.warm hW, (h.2.1.moved hW.alike).kept hh, (h.2.2.1.moved hW.alike).kept hh, h.2.2.2.moved hW.alike⟩
theorem Stc.vm {g : Gx} {B : Nat} {s U : State} (hv : s.vm = U.vm) (hh : U.heap = s.heap) (h : Stc g B s) : Stc g B U := by
  have ha : s.vm.Alike U.vm := by rw [hv]; exact Vm.Alike.refl _
  refine ⟨h.1.vm hv, ?_, ?_, h.2.2.2.moved ha⟩
  · rw [hh]; exact h.2.1.moved ha
  · rw [hh]; exact h.2.2.1.moved ha
/-- locals by their places; none: unset, or a long's second half -/
def prs : Nat → List (Option Value) → List (Nat × Value)
  | _, [] => []
  | k, none :: t => prs (k + 1) t
  | k, some v :: t => (k, v) :: prs (k + 1) t
theorem prs_iff : ∀ (l : List (Option Value)) (k j : Nat) (v : Value), (j, v) ∈ prs k l ↔ k ≤ j ∧ l[j - k]? = some (some v)
  | [], k, j, v => by simp [prs]
  | none :: t, k, j, v => by
    simp only [prs]
    rw [prs_iff t (k + 1) j v]
    constructor
    · rintro ⟨h1, h2⟩
      refine ⟨by omega, ?_⟩
      rw [show j - k = (j - (k + 1)) + 1 by omega, List.getElem?_cons_succ]; exact h2
    · rintro ⟨h1, h2⟩
      by_cases hjk : j = k
      · subst hjk; simp at h2
      · refine ⟨by omega, ?_⟩
        rw [show j - k = (j - (k + 1)) + 1 by omega, List.getElem?_cons_succ] at h2; exact h2
  | some u :: t, k, j, v => by
    simp only [prs, List.mem_cons]
    rw [prs_iff t (k + 1) j v]
    constructor
    · rintro (h | ⟨h1, h2⟩)
      · cases h; simp
      · refine ⟨by omega, ?_⟩
        rw [show j - k = (j - (k + 1)) + 1 by omega, List.getElem?_cons_succ]; exact h2
    · rintro ⟨h1, h2⟩
      by_cases hjk : j = k
      · subst hjk
        simp only [Nat.sub_self, List.getElem?_cons_zero, Option.some.injEq] at h2
        left; rw [h2]
      · right
        refine ⟨by omega, ?_⟩
        rw [show j - k = (j - (k + 1)) + 1 by omega, List.getElem?_cons_succ] at h2; exact h2
def lok (ls : Array Slot) (lv : List (Option Value)) : Prop := lv_has ls lv.length (prs 0 lv)
theorem lok.at {ls : Array Slot} {lv : List (Option Value)} (h : lok ls lv) {i : Nat} {v : Value} (hv : lv[i]? = some (some v)) : ls[i]? = some (.val v) :=
  h.2.2 (i, v) ((prs_iff lv 0 i v).mpr ⟨Nat.zero_le _, by simpa using hv⟩)
def lk2 : Option Value → Option Value
  | none => none
  | some v => bif v.category == 2 then none else some v
def ls1 : List (Option Value) → Nat → Value → List (Option Value)
  | [], _, _ => []
  | _ :: t, 0, v => some v :: t
  | a :: t, 1, v => lk2 a :: ls1 t 0 v
  | a :: t, i + 2, v => a :: ls1 t (i + 1) v
def ls2 : List (Option Value) → Nat → Value → List (Option Value)
  | [], _, _ => []
  | [_], 0, v => [some v]
  | _ :: _ :: t, 0, v => some v :: none :: t
  | a :: t, 1, v => lk2 a :: ls2 t 0 v
  | a :: t, i + 2, v => a :: ls2 t (i + 1) v
theorem lk2_some {a : Option Value} {u : Value} (h : lk2 a = some u) : a = some u ∧ ¬ u.category = 2 := by
  cases a with
  | none => simp [lk2] at h
  | some v =>
    simp only [lk2] at h
    by_cases hc : v.category = 2
    · simp [hc] at h
    · have hb : (v.category == 2) = false := by simpa using hc
      rw [hb] at h
      simp only [cond_false, Option.some.injEq] at h
      subst h
      exact ⟨rfl, hc⟩
theorem ls1_len : ∀ (l : List (Option Value)) (i : Nat) (v : Value), (ls1 l i v).length = l.length
  | [], _, _ => rfl
  | _ :: t, 0, v => rfl
  | a :: t, 1, v => by simp [ls1, ls1_len t 0 v]
  | a :: t, i + 2, v => by simp [ls1, ls1_len t (i + 1) v]
theorem ls2_len : ∀ (l : List (Option Value)) (i : Nat) (v : Value), (ls2 l i v).length = l.length
  | [], i, _ => by simp [ls2]
  | [_], 0, v => rfl
  | _ :: _ :: t, 0, v => rfl
  | a :: t, 1, v => by simp [ls2, ls2_len t 0 v]
  | a :: t, i + 2, v => by simp [ls2, ls2_len t (i + 1) v]
theorem ls1_get : ∀ (l : List (Option Value)) (i : Nat) (v : Value) (j : Nat) (u : Value), (ls1 l i v)[j]? = some (some u) → (j = i ∧ u = v) ∨ (j ≠ i ∧ l[j]? = some (some u) ∧ ¬ (j + 1 = i ∧ u.category = 2))
  | [], i, v, j, u, h => by simp [ls1] at h
  | a :: t, 0, v, 0, u, h => by simp [ls1] at h; exact Or.inl ⟨rfl, h.symm⟩
  | a :: t, 0, v, j + 1, u, h => by simp [ls1] at h; exact Or.inr ⟨by omega, by simpa using h, by omega⟩
  | a :: t, 1, v, 0, u, h => by
    simp only [ls1, List.getElem?_cons_zero, Option.some.injEq] at h
    obtain ⟨h1, h2⟩ := lk2_some h
    exact Or.inr ⟨by omega, by simp [h1], fun q => h2 q.2⟩
  | a :: t, 1, v, j + 1, u, h => by
    simp only [ls1, List.getElem?_cons_succ] at h
    rcases ls1_get t 0 v j u h with ⟨h1, h2⟩ | ⟨h1, h2, h3⟩
    · exact Or.inl ⟨by omega, h2⟩
    · exact Or.inr ⟨by omega, by simpa using h2, by omega⟩
  | a :: t, i + 2, v, 0, u, h => by
    simp only [ls1, List.getElem?_cons_zero, Option.some.injEq] at h
    exact Or.inr ⟨by omega, by simp [h], by omega⟩
  | a :: t, i + 2, v, j + 1, u, h => by
    simp only [ls1, List.getElem?_cons_succ] at h
    rcases ls1_get t (i + 1) v j u h with ⟨h1, h2⟩ | ⟨h1, h2, h3⟩
    · exact Or.inl ⟨by omega, h2⟩
    · exact Or.inr ⟨by omega, by simpa using h2, fun q => h3 ⟨by omega, q.2⟩⟩
theorem ls2_get : ∀ (l : List (Option Value)) (i : Nat) (v : Value) (j : Nat) (u : Value), (ls2 l i v)[j]? = some (some u) → (j = i ∧ u = v) ∨ (j ≠ i ∧ j ≠ i + 1 ∧ l[j]? = some (some u) ∧ ¬ (j + 1 = i ∧ u.category = 2))
  | [], i, v, j, u, h => by simp [ls2] at h
  | [a], 0, v, 0, u, h => by simp [ls2] at h; exact Or.inl ⟨rfl, h.symm⟩
  | [a], 0, v, j + 1, u, h => by simp [ls2] at h
  | a :: b :: t, 0, v, 0, u, h => by simp [ls2] at h; exact Or.inl ⟨rfl, h.symm⟩
  | a :: b :: t, 0, v, 1, u, h => by simp [ls2] at h
  | a :: b :: t, 0, v, j + 2, u, h => by simp [ls2] at h; exact Or.inr ⟨by omega, by omega, by simpa using h, by omega⟩
  | a :: t, 1, v, 0, u, h => by
    simp only [ls2, List.getElem?_cons_zero, Option.some.injEq] at h
    obtain ⟨h1, h2⟩ := lk2_some h
    exact Or.inr ⟨by omega, by omega, by simp [h1], fun q => h2 q.2⟩
  | a :: t, 1, v, j + 1, u, h => by
    simp only [ls2, List.getElem?_cons_succ] at h
    rcases ls2_get t 0 v j u h with ⟨h1, h2⟩ | ⟨h1, h0, h2, h3⟩
    · exact Or.inl ⟨by omega, h2⟩
    · exact Or.inr ⟨by omega, by omega, by simpa using h2, by omega⟩
  | a :: t, i + 2, v, 0, u, h => by
    simp only [ls2, List.getElem?_cons_zero, Option.some.injEq] at h
    exact Or.inr ⟨by omega, by omega, by simp [h], by omega⟩
  | a :: t, i + 2, v, j + 1, u, h => by
    simp only [ls2, List.getElem?_cons_succ] at h
    rcases ls2_get t (i + 1) v j u h with ⟨h1, h2⟩ | ⟨h1, h0, h2, h3⟩
    · exact Or.inl ⟨by omega, h2⟩
    · exact Or.inr ⟨by omega, by omega, by simpa using h2, fun q => h3 ⟨by omega, q.2⟩⟩
theorem lok_st1 {ls' : Array Slot} {lv : List (Option Value)} {i : Nat} {v : Value} (h : lv_has ls' lv.length ((i, v) :: (prs 0 lv).filter (fun q => !(q.1 == i) && !(q.1 + 1 == i && q.2.category == 2)))) : lok ls' (ls1 lv i v) := by
  refine ⟨by rw [ls1_len]; exact h.1, h.2.1, fun q hq => ?_⟩
  obtain ⟨j, u⟩ := q
  have hg := ((prs_iff _ 0 j u).mp hq).2
  apply h.2.2
  rcases ls1_get lv i v j u (by simpa using hg) with ⟨h1, h2⟩ | ⟨h1, h2, h3⟩
  · subst h1; subst h2; exact List.mem_cons_self
  · apply List.mem_cons_of_mem
    rw [List.mem_filter]
    refine ⟨(prs_iff lv 0 j u).mpr ⟨Nat.zero_le _, by simpa using h2⟩, ?_⟩
    simp only [Bool.and_eq_true, Bool.not_eq_true', beq_eq_false_iff_ne, ne_eq, Bool.and_eq_false_iff]
    refine ⟨h1, ?_⟩
    by_cases hj : j + 1 = i
    · right; exact fun c => h3 ⟨hj, c⟩
    · left; exact hj
theorem lok_st2 {ls' : Array Slot} {lv : List (Option Value)} {i : Nat} {v : Value} (h : lv_has ls' lv.length ((i, v) :: (prs 0 lv).filter (fun q => !(q.1 == i) && (!(q.1 == i + 1) && !(q.1 + 1 == i && q.2.category == 2))))) : lok ls' (ls2 lv i v) := by
  refine ⟨by rw [ls2_len]; exact h.1, h.2.1, fun q hq => ?_⟩
  obtain ⟨j, u⟩ := q
  have hg := ((prs_iff _ 0 j u).mp hq).2
  apply h.2.2
  rcases ls2_get lv i v j u (by simpa using hg) with ⟨h1, h2⟩ | ⟨h1, h0, h2, h3⟩
  · subst h1; subst h2; exact List.mem_cons_self
  · apply List.mem_cons_of_mem
    rw [List.mem_filter]
    refine ⟨(prs_iff lv 0 j u).mpr ⟨Nat.zero_le _, by simpa using h2⟩, ?_⟩
    simp only [Bool.and_eq_true, Bool.not_eq_true', beq_eq_false_iff_ne, ne_eq, Bool.and_eq_false_iff]
    refine ⟨h1, h0, ?_⟩
    by_cases hj : j + 1 = i
    · right; exact fun c => h3 ⟨hj, c⟩
    · left; exact hj
abbrev Ex : Type := Program × Env × Room × State × MethodId × Array Value × List Frame × Method × Code × (State → Prop)
def J (K : Kx) (cc : ByteArray) (E : Ex) (kc ks : Nat) (w : Wd) (pc : Nat) (lv : List (Option Value)) (st : List Value) : Prop := match E with
  | (p, e, R, s, m, args, below, meth, c, Q) => ∀ (H : Heap) (locs : List Loc) (cells slots : Nat) (ls : Array Slot), cells + kc ≤ R.cells → slots + ks ≤ R.slots → wh K.2.1 w H → wb K.2.2 w → va_S (fun q : Nat => K.2.2 ≤ q) s.heap H locs → lok ls lv → W p K.1 e R s m args below meth c H locs cells slots Q (F0 m pc ls st)
/-- what holds in a method's body: its code, its class, the words, what stands outside, its room -/
def BX (K : Kx) (own : String) (cc : ByteArray) (nL d : Nat) (E : Ex) : Prop := match E with
  | (p, _, R, s, m, args, _, meth, c, _) => p.tables.exec = Jvm.exec ∧ c.code = cc ∧ c.maxLocals = nL ∧ s.vm.findClass own = some m.cls ∧ (∀ w ∈ gtbl, w.before args s = true) ∧ va_K K.2.1.1 vwCl (tysG K.2.1) s ∧ Stc K.2.1 K.2.2 s ∧ meth.locks = false ∧ d ≤ R.frames ∧ 40 * d ≤ R.locals ∧ K.2.2 ≤ s.heap.size
/-- a method's start and end -/
def PcF (g : Gx) (B : Nat) (av : List Value) (w : Wd) : Array Value → State → Prop := fun v U => v = av.toArray ∧ B ≤ U.heap.size ∧ wh g w U.heap ∧ wb B w ∧ va_K g.1 vwCl (tysG g) U ∧ Stc g B U
def QmF (g : Gx) (B : Nat) (Post : Option Value → Wd → Prop) : Array Value → State → Outcome → State → Prop := fun _ st oc t => ∃ (v : Option Value) (w' : Wd), oc = .returned v ∧ Post v w' ∧ wh g w' t.heap ∧ wb B w' ∧ va_F (fun q : Nat => B ≤ q) st t
abbrev Mx : Type := MethodName × ByteArray × Nat × Option FieldType
/-- A CONTRACT: from the world w, with the arguments av, method M returns, and 'Post answer world' -/
def MT (K : Kx) (M : Mx) (d mc ms : Nat) (av : List Value) (w : Wd) (Post : Option Value → Wd → Prop) : Prop :=
  Met K.1 M.1 (Cond.code M.1 M.2.1 M.2.2.1 M.2.2.2 :: gtbl) { frames := d, cells := mc, slots := ms, locals := 40 * d } (PcF K.2.1 K.2.2 av w) (QmF K.2.1 K.2.2 Post) mc ms (fun q : Nat => K.2.2 ≤ q)
/-- what a return needs -/
def RX (K : Kx) (M : Mx) (mc ms : Nat) (Post : Option Value → Wd → Prop) (E : Ex) : Prop := match E with
  | (_, _, R, s, _, args, below, meth, _, Q) => R.cells = mc ∧ R.slots = ms ∧ Q = MQ below (QmF K.2.1 K.2.2 Post) args s mc ms (fun q : Nat => K.2.2 ≤ q) ∧ meth.sig.returnType = M.2.2.2 ∧ meth.name = M.1.name
theorem MT.mono {K : Kx} {M : Mx} {d mc ms : Nat} {av : List Value} {w : Wd} {Post Post' : Option Value → Wd → Prop} (h : MT K M d mc ms av w Post) (hp : ∀ v w', Post v w' → Post' v w') : MT K M d mc ms av w Post' := by
  unfold MT Met at h ⊢
  refine MetFree.mono h (fun a s hp => hp) (fun _ _ _ _ _ _ => trivial) (fun a s o s' _ hq => ?_)
  obtain ⟨⟨v, w', h1, h2, h3⟩, hL⟩ := hq
  exact ⟨⟨v, w', h1, hp v w' h2, h3⟩, hL⟩
theorem MT.of {K : Kx} {M : Mx} {d mc ms : Nat} {av : List Value} {w : Wd} {Post : Option Value → Wd → Prop} (lv : List (Option Value)) (hy : plainName M.1.cls = true) (hlen : lv.length = M.2.2.1) (hav : (lg_sl av).length ≤ M.2.2.1) (hlv : prs 0 lv = lv_args 0 av)
    (body : ∀ E : Ex, BX K M.1.cls M.2.1 M.2.2.1 d E → RX K M mc ms Post E → J K M.2.1 E mc ms w 0 lv []) : MT K M d mc ms av w Post := by
  refine Met.ofW (cc := M.2.1) (maxL := M.2.2.1) (ret := M.2.2.2) hy rfl ?_
  intro p e s m args below meth c s₁ B hml hv
  obtain ⟨rfl, hsz, hwh, hwb, hK, hSt⟩ := hv
  have hts := atoms_spec (ws := Cond.code M.1 M.2.1 M.2.2.1 M.2.2.2 :: gtbl) B.pre
  have hown : s.vm.findClass M.1.cls = some m.cls := findClass_of_methodNamed B.named
  have hl := lv_entry av (n := M.2.2.1) hav
  rw [lg_entry_eq]
  refine body (p, e, (headSpec (Cond.code M.1 M.2.1 M.2.2.1 M.2.2.2 :: gtbl) { frames := d, cells := mc, slots := ms, locals := 40 * d }).room, s, m, av.toArray, below, meth, c, _) ⟨B.exec, B.bytes, hml, hown, fun w hw => hts w (List.mem_cons_of_mem _ hw), hK, hSt, B.notSynchronized, Nat.le_refl _, Nat.le_refl _, hsz⟩ ⟨rfl, rfl, rfl, B.returns, (name_of_methodNamed B.named B.method).1⟩ s.heap [] 0 0 _ (by show 0 + mc ≤ mc; omega) (by show 0 + ms ≤ ms; omega) hwh hwb va_S.rf ?_
  unfold lok
  rw [hlv, hlen]
  exact hl
theorem PcF.blind {g : Gx} {B : Nat} {av : List Value} {w : Wd} : FrameBlind (PcF g B av w) := by
  intro a U gg mk h
  obtain ⟨h1, h2, h3, h4, h5, h6⟩ := h
  exact ⟨h1, h2, h3, h4, va_K.moved (u := U) (U := U.calling gg mk a) (Vm.Alike.refl U.vm) h5, h6.vm rfl rfl⟩
section JR
variable {K : Kx} {own : String} {cc : ByteArray} {nL d : Nat} {E : Ex} {kc ks : Nat} {w : Wd} {pc : Nat} {lv : List (Option Value)} {st : List Value}

theorem j_iadd (hC : BX K own cc nL d E) {x y : Int32} (hd : decode cc pc = .ok (.iadd, 1)) (k : J K cc E kc ks w (pc + 1) lv (.int (x + y) :: st)) : J K cc E kc ks w pc lv (.int y :: .int x :: st) := by
  obtain ⟨p, e, R, s, m, args, below, meth, c, Q⟩ := E
  obtain ⟨hx, hb, hml, hown, hts, hK, hSt, hlk, hfr, hlo, hBs⟩ := hC
  intro H locs cells slots ls h1 h2 h3 h4 h5 h6
  exact lv_iadd hx hb hd (k H locs cells slots ls h1 h2 h3 h4 h5 h6)
theorem j_isub (hC : BX K own cc nL d E) {x y : Int32} (hd : decode cc pc = .ok (.isub, 1)) (k : J K cc E kc ks w (pc + 1) lv (.int (x - y) :: st)) : J K cc E kc ks w pc lv (.int y :: .int x :: st) := by
  obtain ⟨p, e, R, s, m, args, below, meth, c, Q⟩ := E
  obtain ⟨hx, hb, hml, hown, hts, hK, hSt, hlk, hfr, hlo, hBs⟩ := hC
  intro H locs cells slots ls h1 h2 h3 h4 h5 h6
  exact lv_isub hx hb hd (k H locs cells slots ls h1 h2 h3 h4 h5 h6)
theorem j_imul (hC : BX K own cc nL d E) {x y : Int32} (hd : decode cc pc = .ok (.imul, 1)) (k : J K cc E kc ks w (pc + 1) lv (.int (x * y) :: st)) : J K cc E kc ks w pc lv (.int y :: .int x :: st) := by
  obtain ⟨p, e, R, s, m, args, below, meth, c, Q⟩ := E
  obtain ⟨hx, hb, hml, hown, hts, hK, hSt, hlk, hfr, hlo, hBs⟩ := hC
  intro H locs cells slots ls h1 h2 h3 h4 h5 h6
  exact lv_imul hx hb hd (k H locs cells slots ls h1 h2 h3 h4 h5 h6)
theorem j_iand (hC : BX K own cc nL d E) {x y : Int32} (hd : decode cc pc = .ok (.iand, 1)) (k : J K cc E kc ks w (pc + 1) lv (.int (x &&& y) :: st)) : J K cc E kc ks w pc lv (.int y :: .int x :: st) := by
  obtain ⟨p, e, R, s, m, args, below, meth, c, Q⟩ := E
  obtain ⟨hx, hb, hml, hown, hts, hK, hSt, hlk, hfr, hlo, hBs⟩ := hC
  intro H locs cells slots ls h1 h2 h3 h4 h5 h6
  exact lv_iand hx hb hd (k H locs cells slots ls h1 h2 h3 h4 h5 h6)
theorem j_ladd (hC : BX K own cc nL d E) {x y : Int64} (hd : decode cc pc = .ok (.ladd, 1)) (k : J K cc E kc ks w (pc + 1) lv (.long (x + y) :: st)) : J K cc E kc ks w pc lv (.long y :: .long x :: st) := by
  obtain ⟨p, e, R, s, m, args, below, meth, c, Q⟩ := E
  obtain ⟨hx, hb, hml, hown, hts, hK, hSt, hlk, hfr, hlo, hBs⟩ := hC
  intro H locs cells slots ls h1 h2 h3 h4 h5 h6
  exact lv_ladd hx hb hd (k H locs cells slots ls h1 h2 h3 h4 h5 h6)
theorem j_lsub (hC : BX K own cc nL d E) {x y : Int64} (hd : decode cc pc = .ok (.lsub, 1)) (k : J K cc E kc ks w (pc + 1) lv (.long (x - y) :: st)) : J K cc E kc ks w pc lv (.long y :: .long x :: st) := by
  obtain ⟨p, e, R, s, m, args, below, meth, c, Q⟩ := E
  obtain ⟨hx, hb, hml, hown, hts, hK, hSt, hlk, hfr, hlo, hBs⟩ := hC
  intro H locs cells slots ls h1 h2 h3 h4 h5 h6
  exact lv_lsub hx hb hd (k H locs cells slots ls h1 h2 h3 h4 h5 h6)
theorem j_lmul (hC : BX K own cc nL d E) {x y : Int64} (hd : decode cc pc = .ok (.lmul, 1)) (k : J K cc E kc ks w (pc + 1) lv (.long (x * y) :: st)) : J K cc E kc ks w pc lv (.long y :: .long x :: st) := by
  obtain ⟨p, e, R, s, m, args, below, meth, c, Q⟩ := E
  obtain ⟨hx, hb, hml, hown, hts, hK, hSt, hlk, hfr, hlo, hBs⟩ := hC
  intro H locs cells slots ls h1 h2 h3 h4 h5 h6
  exact lv_lmul hx hb hd (k H locs cells slots ls h1 h2 h3 h4 h5 h6)
theorem j_ldiv (hC : BX K own cc nL d E) {x y : Int64} (hd : decode cc pc = .ok (.ldiv, 1)) (hne : ¬ y = 0) (k : J K cc E kc ks w (pc + 1) lv (.long (x / y) :: st)) : J K cc E kc ks w pc lv (.long y :: .long x :: st) := by
  obtain ⟨p, e, R, s, m, args, below, meth, c, Q⟩ := E
  obtain ⟨hx, hb, hml, hown, hts, hK, hSt, hlk, hfr, hlo, hBs⟩ := hC
  intro H locs cells slots ls h1 h2 h3 h4 h5 h6
  exact lv_ldiv hx hb hd hne (k H locs cells slots ls h1 h2 h3 h4 h5 h6)
theorem j_lrem (hC : BX K own cc nL d E) {x y : Int64} (hd : decode cc pc = .ok (.lrem, 1)) (hne : ¬ y = 0) (k : J K cc E kc ks w (pc + 1) lv (.long (x - x / y * y) :: st)) : J K cc E kc ks w pc lv (.long y :: .long x :: st) := by
  obtain ⟨p, e, R, s, m, args, below, meth, c, Q⟩ := E
  obtain ⟨hx, hb, hml, hown, hts, hK, hSt, hlk, hfr, hlo, hBs⟩ := hC
  intro H locs cells slots ls h1 h2 h3 h4 h5 h6
  exact lv_lrem hx hb hd hne (k H locs cells slots ls h1 h2 h3 h4 h5 h6)
theorem j_idiv (hC : BX K own cc nL d E) {x y : Int32} (hd : decode cc pc = .ok (.idiv, 1)) (hne : ¬ y = 0) (k : J K cc E kc ks w (pc + 1) lv (.int (x / y) :: st)) : J K cc E kc ks w pc lv (.int y :: .int x :: st) := by
  obtain ⟨p, e, R, s, m, args, below, meth, c, Q⟩ := E
  obtain ⟨hx, hb, hml, hown, hts, hK, hSt, hlk, hfr, hlo, hBs⟩ := hC
  intro H locs cells slots ls h1 h2 h3 h4 h5 h6
  exact lv_idiv hx hb hd hne (k H locs cells slots ls h1 h2 h3 h4 h5 h6)
theorem j_lneg (hC : BX K own cc nL d E) {x : Int64} (hd : decode cc pc = .ok (.lneg, 1)) (k : J K cc E kc ks w (pc + 1) lv (.long (-x) :: st)) : J K cc E kc ks w pc lv (.long x :: st) := by
  obtain ⟨p, e, R, s, m, args, below, meth, c, Q⟩ := E
  obtain ⟨hx, hb, hml, hown, hts, hK, hSt, hlk, hfr, hlo, hBs⟩ := hC
  intro H locs cells slots ls h1 h2 h3 h4 h5 h6
  exact lv_lneg hx hb hd (k H locs cells slots ls h1 h2 h3 h4 h5 h6)
theorem j_dup (hC : BX K own cc nL d E) {v : Value} (hd : decode cc pc = .ok (.dup, 1)) (hv : v.category = 1) (k : J K cc E kc ks w (pc + 1) lv (v :: v :: st)) : J K cc E kc ks w pc lv (v :: st) := by
  obtain ⟨p, e, R, s, m, args, below, meth, c, Q⟩ := E
  obtain ⟨hx, hb, hml, hown, hts, hK, hSt, hlk, hfr, hlo, hBs⟩ := hC
  intro H locs cells slots ls h1 h2 h3 h4 h5 h6
  exact lv_dup hx hb hd hv (k H locs cells slots ls h1 h2 h3 h4 h5 h6)
theorem j_pop (hC : BX K own cc nL d E) {v : Value} (hd : decode cc pc = .ok (.pop, 1)) (hv : v.category = 1) (k : J K cc E kc ks w (pc + 1) lv (st)) : J K cc E kc ks w pc lv (v :: st) := by
  obtain ⟨p, e, R, s, m, args, below, meth, c, Q⟩ := E
  obtain ⟨hx, hb, hml, hown, hts, hK, hSt, hlk, hfr, hlo, hBs⟩ := hC
  intro H locs cells slots ls h1 h2 h3 h4 h5 h6
  exact lv_pop hx hb hd hv (k H locs cells slots ls h1 h2 h3 h4 h5 h6)
theorem j_dup_x1 (hC : BX K own cc nL d E) {v u : Value} (hd : decode cc pc = .ok (.dup_x1, 1)) (hv : v.category = 1) (hu : u.category = 1) (k : J K cc E kc ks w (pc + 1) lv (v :: u :: v :: st)) : J K cc E kc ks w pc lv (v :: u :: st) := by
  obtain ⟨p, e, R, s, m, args, below, meth, c, Q⟩ := E
  obtain ⟨hx, hb, hml, hown, hts, hK, hSt, hlk, hfr, hlo, hBs⟩ := hC
  intro H locs cells slots ls h1 h2 h3 h4 h5 h6
  exact lv_dup_x1 hx hb hd hv hu (k H locs cells slots ls h1 h2 h3 h4 h5 h6)
theorem j_dup2_11 (hC : BX K own cc nL d E) {v u : Value} (hd : decode cc pc = .ok (.dup2, 1)) (hv : v.category = 1) (hu : u.category = 1) (k : J K cc E kc ks w (pc + 1) lv (v :: u :: v :: u :: st)) : J K cc E kc ks w pc lv (v :: u :: st) := by
  obtain ⟨p, e, R, s, m, args, below, meth, c, Q⟩ := E
  obtain ⟨hx, hb, hml, hown, hts, hK, hSt, hlk, hfr, hlo, hBs⟩ := hC
  intro H locs cells slots ls h1 h2 h3 h4 h5 h6
  exact lv_dup2_11 hx hb hd hv hu (k H locs cells slots ls h1 h2 h3 h4 h5 h6)
theorem j_pop2_2 (hC : BX K own cc nL d E) {v : Value} (hd : decode cc pc = .ok (.pop2, 1)) (hv : v.category = 2) (k : J K cc E kc ks w (pc + 1) lv (st)) : J K cc E kc ks w pc lv (v :: st) := by
  obtain ⟨p, e, R, s, m, args, below, meth, c, Q⟩ := E
  obtain ⟨hx, hb, hml, hown, hts, hK, hSt, hlk, hfr, hlo, hBs⟩ := hC
  intro H locs cells slots ls h1 h2 h3 h4 h5 h6
  exact lv_pop2_2 hx hb hd hv (k H locs cells slots ls h1 h2 h3 h4 h5 h6)
theorem j_ishr (hC : BX K own cc nL d E) {x y : Int32} (hd : decode cc pc = .ok (.ishr, 1)) (k : J K cc E kc ks w (pc + 1) lv (.int (x >>> (y &&& 31)) :: st)) : J K cc E kc ks w pc lv (.int y :: .int x :: st) := by
  obtain ⟨p, e, R, s, m, args, below, meth, c, Q⟩ := E
  obtain ⟨hx, hb, hml, hown, hts, hK, hSt, hlk, hfr, hlo, hBs⟩ := hC
  intro H locs cells slots ls h1 h2 h3 h4 h5 h6
  exact lv_ishr hx hb hd (k H locs cells slots ls h1 h2 h3 h4 h5 h6)
theorem j_iconst (hC : BX K own cc nL d E) {n : Int} (v : Int32) (hd : decode cc pc = .ok (.iconst n, 1)) (hv : Int32.ofInt n = v) (k : J K cc E kc ks w (pc + 1) lv (.int v :: st)) : J K cc E kc ks w pc lv st := by
  obtain ⟨p, e, R, s, m, args, below, meth, c, Q⟩ := E
  obtain ⟨hx, hb, hml, hown, hts, hK, hSt, hlk, hfr, hlo, hBs⟩ := hC
  intro H locs cells slots ls h1 h2 h3 h4 h5 h6
  exact lv_iconst hx hb hd hv (k H locs cells slots ls h1 h2 h3 h4 h5 h6)
theorem j_bipush (hC : BX K own cc nL d E) {n : Int} (v : Int32) (hd : decode cc pc = .ok (.bipush n, 2)) (hv : (Int8.ofInt n).toInt32 = v) (k : J K cc E kc ks w (pc + 2) lv (.int v :: st)) : J K cc E kc ks w pc lv st := by
  obtain ⟨p, e, R, s, m, args, below, meth, c, Q⟩ := E
  obtain ⟨hx, hb, hml, hown, hts, hK, hSt, hlk, hfr, hlo, hBs⟩ := hC
  intro H locs cells slots ls h1 h2 h3 h4 h5 h6
  exact lv_bipush hx hb hd hv (k H locs cells slots ls h1 h2 h3 h4 h5 h6)
theorem j_sipush (hC : BX K own cc nL d E) {n : Int} (v : Int32) (hd : decode cc pc = .ok (.sipush n, 3)) (hv : (Int16.ofInt n).toInt32 = v) (k : J K cc E kc ks w (pc + 3) lv (.int v :: st)) : J K cc E kc ks w pc lv st := by
  obtain ⟨p, e, R, s, m, args, below, meth, c, Q⟩ := E
  obtain ⟨hx, hb, hml, hown, hts, hK, hSt, hlk, hfr, hlo, hBs⟩ := hC
  intro H locs cells slots ls h1 h2 h3 h4 h5 h6
  exact lv_sipush hx hb hd hv (k H locs cells slots ls h1 h2 h3 h4 h5 h6)
theorem j_lconst (hC : BX K own cc nL d E) {n : Fin 2} (v : Int64) (hd : decode cc pc = .ok (.lconst n, 1)) (hv : Int64.ofNat (n : Nat) = v) (k : J K cc E kc ks w (pc + 1) lv (.long v :: st)) : J K cc E kc ks w pc lv st := by
  obtain ⟨p, e, R, s, m, args, below, meth, c, Q⟩ := E
  obtain ⟨hx, hb, hml, hown, hts, hK, hSt, hlk, hfr, hlo, hBs⟩ := hC
  intro H locs cells slots ls h1 h2 h3 h4 h5 h6
  exact lv_lconst hx hb hd hv (k H locs cells slots ls h1 h2 h3 h4 h5 h6)
theorem j_i2l (hC : BX K own cc nL d E) {x : Int32} (hd : decode cc pc = .ok (.i2l, 1)) (k : J K cc E kc ks w (pc + 1) lv (.long x.toInt64 :: st)) : J K cc E kc ks w pc lv (.int x :: st) := by
  obtain ⟨p, e, R, s, m, args, below, meth, c, Q⟩ := E
  obtain ⟨hx, hb, hml, hown, hts, hK, hSt, hlk, hfr, hlo, hBs⟩ := hC
  intro H locs cells slots ls h1 h2 h3 h4 h5 h6
  exact lv_i2l hx hb hd rfl (k H locs cells slots ls h1 h2 h3 h4 h5 h6)
theorem j_l2i (hC : BX K own cc nL d E) {x : Int64} (hd : decode cc pc = .ok (.l2i, 1)) (k : J K cc E kc ks w (pc + 1) lv (.int x.toInt32 :: st)) : J K cc E kc ks w pc lv (.long x :: st) := by
  obtain ⟨p, e, R, s, m, args, below, meth, c, Q⟩ := E
  obtain ⟨hx, hb, hml, hown, hts, hK, hSt, hlk, hfr, hlo, hBs⟩ := hC
  intro H locs cells slots ls h1 h2 h3 h4 h5 h6
  exact lv_l2i hx hb hd rfl (k H locs cells slots ls h1 h2 h3 h4 h5 h6)
theorem j_iload_n (hC : BX K own cc nL d E) {i : Fin 4} {x : Int32} (hd : decode cc pc = .ok (.iload_n i, 1)) (hl : lv[(i : Nat)]? = some (some (.int x))) (k : J K cc E kc ks w (pc + 1) lv (.int x :: st)) : J K cc E kc ks w pc lv st := by
  obtain ⟨p, e, R, s, m, args, below, meth, c, Q⟩ := E
  obtain ⟨hx, hb, hml, hown, hts, hK, hSt, hlk, hfr, hlo, hBs⟩ := hC
  intro H locs cells slots ls h1 h2 h3 h4 h5 h6
  exact lv_iload_n hx hb hd rfl (h6.at hl) (k H locs cells slots ls h1 h2 h3 h4 h5 h6)
theorem j_iload (hC : BX K own cc nL d E) {i : Nat} {x : Int32} (hd : decode cc pc = .ok (.iload i, 2)) (hl : lv[i]? = some (some (.int x))) (k : J K cc E kc ks w (pc + 2) lv (.int x :: st)) : J K cc E kc ks w pc lv st := by
  obtain ⟨p, e, R, s, m, args, below, meth, c, Q⟩ := E
  obtain ⟨hx, hb, hml, hown, hts, hK, hSt, hlk, hfr, hlo, hBs⟩ := hC
  intro H locs cells slots ls h1 h2 h3 h4 h5 h6
  exact lv_iload hx hb hd (h6.at hl) (k H locs cells slots ls h1 h2 h3 h4 h5 h6)
theorem j_istore_n (hC : BX K own cc nL d E) {i : Fin 4} {x : Int32} {lv' : List (Option Value)} (hd : decode cc pc = .ok (.istore_n i, 1)) (hn : (i : Nat) < lv.length) (hl : ls1 lv i (.int x) = lv') (k : J K cc E kc ks w (pc + 1) lv' st) : J K cc E kc ks w pc lv (.int x :: st) := by
  subst hl
  obtain ⟨p, e, R, s, m, args, below, meth, c, Q⟩ := E
  obtain ⟨hx, hb, hml, hown, hts, hK, hSt, hlk, hfr, hlo, hBs⟩ := hC
  intro H locs cells slots ls h1 h2 h3 h4 h5 h6
  exact lv_istore_n hx hb hd rfl h6 hn rfl (fun ls' h6 => k H locs cells slots ls' h1 h2 h3 h4 h5 (lok_st1 h6))
theorem j_istore (hC : BX K own cc nL d E) {i : Nat} {x : Int32} {lv' : List (Option Value)} (hd : decode cc pc = .ok (.istore i, 2)) (hn : i < lv.length) (hl : ls1 lv i (.int x) = lv') (k : J K cc E kc ks w (pc + 2) lv' st) : J K cc E kc ks w pc lv (.int x :: st) := by
  subst hl
  obtain ⟨p, e, R, s, m, args, below, meth, c, Q⟩ := E
  obtain ⟨hx, hb, hml, hown, hts, hK, hSt, hlk, hfr, hlo, hBs⟩ := hC
  intro H locs cells slots ls h1 h2 h3 h4 h5 h6
  exact lv_istore hx hb hd h6 hn rfl (fun ls' h6 => k H locs cells slots ls' h1 h2 h3 h4 h5 (lok_st1 h6))
theorem j_lload_n (hC : BX K own cc nL d E) {i : Fin 4} {x : Int64} (hd : decode cc pc = .ok (.lload_n i, 1)) (hl : lv[(i : Nat)]? = some (some (.long x))) (k : J K cc E kc ks w (pc + 1) lv (.long x :: st)) : J K cc E kc ks w pc lv st := by
  obtain ⟨p, e, R, s, m, args, below, meth, c, Q⟩ := E
  obtain ⟨hx, hb, hml, hown, hts, hK, hSt, hlk, hfr, hlo, hBs⟩ := hC
  intro H locs cells slots ls h1 h2 h3 h4 h5 h6
  exact lv_lload_n hx hb hd rfl (h6.at hl) (k H locs cells slots ls h1 h2 h3 h4 h5 h6)
theorem j_lload (hC : BX K own cc nL d E) {i : Nat} {x : Int64} (hd : decode cc pc = .ok (.lload i, 2)) (hl : lv[i]? = some (some (.long x))) (k : J K cc E kc ks w (pc + 2) lv (.long x :: st)) : J K cc E kc ks w pc lv st := by
  obtain ⟨p, e, R, s, m, args, below, meth, c, Q⟩ := E
  obtain ⟨hx, hb, hml, hown, hts, hK, hSt, hlk, hfr, hlo, hBs⟩ := hC
  intro H locs cells slots ls h1 h2 h3 h4 h5 h6
  exact lv_lload hx hb hd (h6.at hl) (k H locs cells slots ls h1 h2 h3 h4 h5 h6)
theorem j_lstore_n (hC : BX K own cc nL d E) {i : Fin 4} {x : Int64} {lv' : List (Option Value)} (hd : decode cc pc = .ok (.lstore_n i, 1)) (hn : (i : Nat) + 1 < lv.length) (hl : ls2 lv i (.long x) = lv') (k : J K cc E kc ks w (pc + 1) lv' st) : J K cc E kc ks w pc lv (.long x :: st) := by
  subst hl
  obtain ⟨p, e, R, s, m, args, below, meth, c, Q⟩ := E
  obtain ⟨hx, hb, hml, hown, hts, hK, hSt, hlk, hfr, hlo, hBs⟩ := hC
  intro H locs cells slots ls h1 h2 h3 h4 h5 h6
  exact lv_lstore_n hx hb hd rfl h6 hn rfl (fun ls' h6 => k H locs cells slots ls' h1 h2 h3 h4 h5 (lok_st2 h6))
theorem j_lstore (hC : BX K own cc nL d E) {i : Nat} {x : Int64} {lv' : List (Option Value)} (hd : decode cc pc = .ok (.lstore i, 2)) (hn : i + 1 < lv.length) (hl : ls2 lv i (.long x) = lv') (k : J K cc E kc ks w (pc + 2) lv' st) : J K cc E kc ks w pc lv (.long x :: st) := by
  subst hl
  obtain ⟨p, e, R, s, m, args, below, meth, c, Q⟩ := E
  obtain ⟨hx, hb, hml, hown, hts, hK, hSt, hlk, hfr, hlo, hBs⟩ := hC
  intro H locs cells slots ls h1 h2 h3 h4 h5 h6
  exact lv_lstore hx hb hd h6 hn rfl (fun ls' h6 => k H locs cells slots ls' h1 h2 h3 h4 h5 (lok_st2 h6))
theorem j_aload_n (hC : BX K own cc nL d E) {i : Fin 4} {x : Nat} (hd : decode cc pc = .ok (.aload_n i, 1)) (hl : lv[(i : Nat)]? = some (some (.ref x))) (k : J K cc E kc ks w (pc + 1) lv (.ref x :: st)) : J K cc E kc ks w pc lv st := by
  obtain ⟨p, e, R, s, m, args, below, meth, c, Q⟩ := E
  obtain ⟨hx, hb, hml, hown, hts, hK, hSt, hlk, hfr, hlo, hBs⟩ := hC
  intro H locs cells slots ls h1 h2 h3 h4 h5 h6
  exact lv_aload_n hx hb hd rfl (h6.at hl) (k H locs cells slots ls h1 h2 h3 h4 h5 h6)
theorem j_aload (hC : BX K own cc nL d E) {i : Nat} {x : Nat} (hd : decode cc pc = .ok (.aload i, 2)) (hl : lv[i]? = some (some (.ref x))) (k : J K cc E kc ks w (pc + 2) lv (.ref x :: st)) : J K cc E kc ks w pc lv st := by
  obtain ⟨p, e, R, s, m, args, below, meth, c, Q⟩ := E
  obtain ⟨hx, hb, hml, hown, hts, hK, hSt, hlk, hfr, hlo, hBs⟩ := hC
  intro H locs cells slots ls h1 h2 h3 h4 h5 h6
  exact lv_aload hx hb hd (h6.at hl) (k H locs cells slots ls h1 h2 h3 h4 h5 h6)
theorem j_astore_n (hC : BX K own cc nL d E) {i : Fin 4} {x : Nat} {lv' : List (Option Value)} (hd : decode cc pc = .ok (.astore_n i, 1)) (hn : (i : Nat) < lv.length) (hl : ls1 lv i (.ref x) = lv') (k : J K cc E kc ks w (pc + 1) lv' st) : J K cc E kc ks w pc lv (.ref x :: st) := by
  subst hl
  obtain ⟨p, e, R, s, m, args, below, meth, c, Q⟩ := E
  obtain ⟨hx, hb, hml, hown, hts, hK, hSt, hlk, hfr, hlo, hBs⟩ := hC
  intro H locs cells slots ls h1 h2 h3 h4 h5 h6
  exact lv_astore_n hx hb hd rfl h6 hn rfl (fun ls' h6 => k H locs cells slots ls' h1 h2 h3 h4 h5 (lok_st1 h6))
theorem j_astore (hC : BX K own cc nL d E) {i : Nat} {x : Nat} {lv' : List (Option Value)} (hd : decode cc pc = .ok (.astore i, 2)) (hn : i < lv.length) (hl : ls1 lv i (.ref x) = lv') (k : J K cc E kc ks w (pc + 2) lv' st) : J K cc E kc ks w pc lv (.ref x :: st) := by
  subst hl
  obtain ⟨p, e, R, s, m, args, below, meth, c, Q⟩ := E
  obtain ⟨hx, hb, hml, hown, hts, hK, hSt, hlk, hfr, hlo, hBs⟩ := hC
  intro H locs cells slots ls h1 h2 h3 h4 h5 h6
  exact lv_astore hx hb hd h6 hn rfl (fun ls' h6 => k H locs cells slots ls' h1 h2 h3 h4 h5 (lok_st1 h6))
theorem j_iinc (hC : BX K own cc nL d E) {i : Nat} {n : Int} {x v : Int32} {lv' : List (Option Value)} (hd : decode cc pc = .ok (.iinc i n, 3)) (hk : lv[i]? = some (some (.int x))) (hv : x + Int32.ofInt n = v) (hn : i < lv.length) (hl : ls1 lv i (.int v) = lv') (k : J K cc E kc ks w (pc + 3) lv' st) : J K cc E kc ks w pc lv st := by
  subst hl
  obtain ⟨p, e, R, s, m, args, below, meth, c, Q⟩ := E
  obtain ⟨hx, hb, hml, hown, hts, hK, hSt, hlk, hfr, hlo, hBs⟩ := hC
  intro H locs cells slots ls h1 h2 h3 h4 h5 h6
  obtain ⟨k0, hk0⟩ := List.getElem?_of_mem ((prs_iff lv 0 i (.int x)).mpr ⟨Nat.zero_le _, by simpa using hk⟩)
  exact lv_iinc hx hb hd h6 hk0 hv hn rfl (fun ls' h6 => k H locs cells slots ls' h1 h2 h3 h4 h5 (lok_st1 h6))
theorem j_if_eq (hC : BX K own cc nL d E) {x : Int32} {off : Int} (tgt : Nat) (hd : decode cc pc = .ok (.ifCond .eq off, 3)) (ht : (pc : Int) + off = (tgt : Int)) (kt : x = 0 → J K cc E kc ks w tgt lv st) (kf : ¬ x = 0 → J K cc E kc ks w (pc + 3) lv st) : J K cc E kc ks w pc lv (.int x :: st) := by
  obtain ⟨p, e, R, s, m, args, below, meth, c, Q⟩ := E
  obtain ⟨hx, hb, hml, hown, hts, hK, hSt, hlk, hfr, hlo, hBs⟩ := hC
  intro H locs cells slots ls h1 h2 h3 h4 h5 h6
  exact lv_if_eq hx hb hd ht (fun z => kt z H locs cells slots ls h1 h2 h3 h4 h5 h6) (fun z => kf z H locs cells slots ls h1 h2 h3 h4 h5 h6)
theorem j_icmp_eq (hC : BX K own cc nL d E) {x y : Int32} {off : Int} (tgt : Nat) (hd : decode cc pc = .ok (.if_icmp .eq off, 3)) (ht : (pc : Int) + off = (tgt : Int)) (kt : x = y → J K cc E kc ks w tgt lv st) (kf : ¬ x = y → J K cc E kc ks w (pc + 3) lv st) : J K cc E kc ks w pc lv (.int y :: .int x :: st) := by
  obtain ⟨p, e, R, s, m, args, below, meth, c, Q⟩ := E
  obtain ⟨hx, hb, hml, hown, hts, hK, hSt, hlk, hfr, hlo, hBs⟩ := hC
  intro H locs cells slots ls h1 h2 h3 h4 h5 h6
  exact lv_icmp_eq hx hb hd ht (fun z => kt z H locs cells slots ls h1 h2 h3 h4 h5 h6) (fun z => kf z H locs cells slots ls h1 h2 h3 h4 h5 h6)
theorem j_lcmp_eq (hC : BX K own cc nL d E) {x y : Int64} {off : Int} (tgt : Nat) (hd0 : decode cc pc = .ok (.lcmp, 1)) (hd : decode cc (pc + 1) = .ok (.ifCond .eq off, 3)) (ht : ((pc + 1 : Nat) : Int) + off = (tgt : Int)) (kt : x = y → J K cc E kc ks w tgt lv st) (kf : ¬ x = y → J K cc E kc ks w (pc + 4) lv st) : J K cc E kc ks w pc lv (.long y :: .long x :: st) := by
  obtain ⟨p, e, R, s, m, args, below, meth, c, Q⟩ := E
  obtain ⟨hx, hb, hml, hown, hts, hK, hSt, hlk, hfr, hlo, hBs⟩ := hC
  intro H locs cells slots ls h1 h2 h3 h4 h5 h6
  refine W.lcmp hx hb hd0 ?_
  exact lv_if_eq hx hb hd ht (fun z => kt ((lg_cmp_eq x y).mp z) H locs cells slots ls h1 h2 h3 h4 h5 h6) (fun z => kf (fun q => z ((lg_cmp_eq x y).mpr q)) H locs cells slots ls h1 h2 h3 h4 h5 h6)
theorem j_if_ne (hC : BX K own cc nL d E) {x : Int32} {off : Int} (tgt : Nat) (hd : decode cc pc = .ok (.ifCond .ne off, 3)) (ht : (pc : Int) + off = (tgt : Int)) (kt : ¬ x = 0 → J K cc E kc ks w tgt lv st) (kf : x = 0 → J K cc E kc ks w (pc + 3) lv st) : J K cc E kc ks w pc lv (.int x :: st) := by
  obtain ⟨p, e, R, s, m, args, below, meth, c, Q⟩ := E
  obtain ⟨hx, hb, hml, hown, hts, hK, hSt, hlk, hfr, hlo, hBs⟩ := hC
  intro H locs cells slots ls h1 h2 h3 h4 h5 h6
  exact lv_if_ne hx hb hd ht (fun z => kt z H locs cells slots ls h1 h2 h3 h4 h5 h6) (fun z => kf z H locs cells slots ls h1 h2 h3 h4 h5 h6)
theorem j_icmp_ne (hC : BX K own cc nL d E) {x y : Int32} {off : Int} (tgt : Nat) (hd : decode cc pc = .ok (.if_icmp .ne off, 3)) (ht : (pc : Int) + off = (tgt : Int)) (kt : ¬ x = y → J K cc E kc ks w tgt lv st) (kf : x = y → J K cc E kc ks w (pc + 3) lv st) : J K cc E kc ks w pc lv (.int y :: .int x :: st) := by
  obtain ⟨p, e, R, s, m, args, below, meth, c, Q⟩ := E
  obtain ⟨hx, hb, hml, hown, hts, hK, hSt, hlk, hfr, hlo, hBs⟩ := hC
  intro H locs cells slots ls h1 h2 h3 h4 h5 h6
  exact lv_icmp_ne hx hb hd ht (fun z => kt z H locs cells slots ls h1 h2 h3 h4 h5 h6) (fun z => kf z H locs cells slots ls h1 h2 h3 h4 h5 h6)
theorem j_lcmp_ne (hC : BX K own cc nL d E) {x y : Int64} {off : Int} (tgt : Nat) (hd0 : decode cc pc = .ok (.lcmp, 1)) (hd : decode cc (pc + 1) = .ok (.ifCond .ne off, 3)) (ht : ((pc + 1 : Nat) : Int) + off = (tgt : Int)) (kt : ¬ x = y → J K cc E kc ks w tgt lv st) (kf : x = y → J K cc E kc ks w (pc + 4) lv st) : J K cc E kc ks w pc lv (.long y :: .long x :: st) := by
  obtain ⟨p, e, R, s, m, args, below, meth, c, Q⟩ := E
  obtain ⟨hx, hb, hml, hown, hts, hK, hSt, hlk, hfr, hlo, hBs⟩ := hC
  intro H locs cells slots ls h1 h2 h3 h4 h5 h6
  refine W.lcmp hx hb hd0 ?_
  exact lv_if_ne hx hb hd ht (fun z => kt (fun q => z ((lg_cmp_eq x y).mpr q)) H locs cells slots ls h1 h2 h3 h4 h5 h6) (fun z => kf ((lg_cmp_eq x y).mp z) H locs cells slots ls h1 h2 h3 h4 h5 h6)
theorem j_if_lt (hC : BX K own cc nL d E) {x : Int32} {off : Int} (tgt : Nat) (hd : decode cc pc = .ok (.ifCond .lt off, 3)) (ht : (pc : Int) + off = (tgt : Int)) (kt : x < 0 → J K cc E kc ks w tgt lv st) (kf : ¬ x < 0 → J K cc E kc ks w (pc + 3) lv st) : J K cc E kc ks w pc lv (.int x :: st) := by
  obtain ⟨p, e, R, s, m, args, below, meth, c, Q⟩ := E
  obtain ⟨hx, hb, hml, hown, hts, hK, hSt, hlk, hfr, hlo, hBs⟩ := hC
  intro H locs cells slots ls h1 h2 h3 h4 h5 h6
  exact lv_if_lt hx hb hd ht (fun z => kt z H locs cells slots ls h1 h2 h3 h4 h5 h6) (fun z => kf z H locs cells slots ls h1 h2 h3 h4 h5 h6)
theorem j_icmp_lt (hC : BX K own cc nL d E) {x y : Int32} {off : Int} (tgt : Nat) (hd : decode cc pc = .ok (.if_icmp .lt off, 3)) (ht : (pc : Int) + off = (tgt : Int)) (kt : x < y → J K cc E kc ks w tgt lv st) (kf : ¬ x < y → J K cc E kc ks w (pc + 3) lv st) : J K cc E kc ks w pc lv (.int y :: .int x :: st) := by
  obtain ⟨p, e, R, s, m, args, below, meth, c, Q⟩ := E
  obtain ⟨hx, hb, hml, hown, hts, hK, hSt, hlk, hfr, hlo, hBs⟩ := hC
  intro H locs cells slots ls h1 h2 h3 h4 h5 h6
  exact lv_icmp_lt hx hb hd ht (fun z => kt z H locs cells slots ls h1 h2 h3 h4 h5 h6) (fun z => kf z H locs cells slots ls h1 h2 h3 h4 h5 h6)
theorem j_lcmp_lt (hC : BX K own cc nL d E) {x y : Int64} {off : Int} (tgt : Nat) (hd0 : decode cc pc = .ok (.lcmp, 1)) (hd : decode cc (pc + 1) = .ok (.ifCond .lt off, 3)) (ht : ((pc + 1 : Nat) : Int) + off = (tgt : Int)) (kt : x < y → J K cc E kc ks w tgt lv st) (kf : ¬ x < y → J K cc E kc ks w (pc + 4) lv st) : J K cc E kc ks w pc lv (.long y :: .long x :: st) := by
  obtain ⟨p, e, R, s, m, args, below, meth, c, Q⟩ := E
  obtain ⟨hx, hb, hml, hown, hts, hK, hSt, hlk, hfr, hlo, hBs⟩ := hC
  intro H locs cells slots ls h1 h2 h3 h4 h5 h6
  refine W.lcmp hx hb hd0 ?_
  exact lv_if_lt hx hb hd ht (fun z => kt ((lg_cmp_lt x y).mp z) H locs cells slots ls h1 h2 h3 h4 h5 h6) (fun z => kf (fun q => z ((lg_cmp_lt x y).mpr q)) H locs cells slots ls h1 h2 h3 h4 h5 h6)
theorem j_if_ge (hC : BX K own cc nL d E) {x : Int32} {off : Int} (tgt : Nat) (hd : decode cc pc = .ok (.ifCond .ge off, 3)) (ht : (pc : Int) + off = (tgt : Int)) (kt : 0 ≤ x → J K cc E kc ks w tgt lv st) (kf : ¬ 0 ≤ x → J K cc E kc ks w (pc + 3) lv st) : J K cc E kc ks w pc lv (.int x :: st) := by
  obtain ⟨p, e, R, s, m, args, below, meth, c, Q⟩ := E
  obtain ⟨hx, hb, hml, hown, hts, hK, hSt, hlk, hfr, hlo, hBs⟩ := hC
  intro H locs cells slots ls h1 h2 h3 h4 h5 h6
  exact lv_if_ge hx hb hd ht (fun z => kt z H locs cells slots ls h1 h2 h3 h4 h5 h6) (fun z => kf z H locs cells slots ls h1 h2 h3 h4 h5 h6)
theorem j_icmp_ge (hC : BX K own cc nL d E) {x y : Int32} {off : Int} (tgt : Nat) (hd : decode cc pc = .ok (.if_icmp .ge off, 3)) (ht : (pc : Int) + off = (tgt : Int)) (kt : y ≤ x → J K cc E kc ks w tgt lv st) (kf : ¬ y ≤ x → J K cc E kc ks w (pc + 3) lv st) : J K cc E kc ks w pc lv (.int y :: .int x :: st) := by
  obtain ⟨p, e, R, s, m, args, below, meth, c, Q⟩ := E
  obtain ⟨hx, hb, hml, hown, hts, hK, hSt, hlk, hfr, hlo, hBs⟩ := hC
  intro H locs cells slots ls h1 h2 h3 h4 h5 h6
  exact lv_icmp_ge hx hb hd ht (fun z => kt z H locs cells slots ls h1 h2 h3 h4 h5 h6) (fun z => kf z H locs cells slots ls h1 h2 h3 h4 h5 h6)
theorem j_lcmp_ge (hC : BX K own cc nL d E) {x y : Int64} {off : Int} (tgt : Nat) (hd0 : decode cc pc = .ok (.lcmp, 1)) (hd : decode cc (pc + 1) = .ok (.ifCond .ge off, 3)) (ht : ((pc + 1 : Nat) : Int) + off = (tgt : Int)) (kt : y ≤ x → J K cc E kc ks w tgt lv st) (kf : ¬ y ≤ x → J K cc E kc ks w (pc + 4) lv st) : J K cc E kc ks w pc lv (.long y :: .long x :: st) := by
  obtain ⟨p, e, R, s, m, args, below, meth, c, Q⟩ := E
  obtain ⟨hx, hb, hml, hown, hts, hK, hSt, hlk, hfr, hlo, hBs⟩ := hC
  intro H locs cells slots ls h1 h2 h3 h4 h5 h6
  refine W.lcmp hx hb hd0 ?_
  exact lv_if_ge hx hb hd ht (fun z => kt ((lg_cmp_ge x y).mp z) H locs cells slots ls h1 h2 h3 h4 h5 h6) (fun z => kf (fun q => z ((lg_cmp_ge x y).mpr q)) H locs cells slots ls h1 h2 h3 h4 h5 h6)
theorem j_if_gt (hC : BX K own cc nL d E) {x : Int32} {off : Int} (tgt : Nat) (hd : decode cc pc = .ok (.ifCond .gt off, 3)) (ht : (pc : Int) + off = (tgt : Int)) (kt : 0 < x → J K cc E kc ks w tgt lv st) (kf : ¬ 0 < x → J K cc E kc ks w (pc + 3) lv st) : J K cc E kc ks w pc lv (.int x :: st) := by
  obtain ⟨p, e, R, s, m, args, below, meth, c, Q⟩ := E
  obtain ⟨hx, hb, hml, hown, hts, hK, hSt, hlk, hfr, hlo, hBs⟩ := hC
  intro H locs cells slots ls h1 h2 h3 h4 h5 h6
  exact lv_if_gt hx hb hd ht (fun z => kt z H locs cells slots ls h1 h2 h3 h4 h5 h6) (fun z => kf z H locs cells slots ls h1 h2 h3 h4 h5 h6)
theorem j_icmp_gt (hC : BX K own cc nL d E) {x y : Int32} {off : Int} (tgt : Nat) (hd : decode cc pc = .ok (.if_icmp .gt off, 3)) (ht : (pc : Int) + off = (tgt : Int)) (kt : y < x → J K cc E kc ks w tgt lv st) (kf : ¬ y < x → J K cc E kc ks w (pc + 3) lv st) : J K cc E kc ks w pc lv (.int y :: .int x :: st) := by
  obtain ⟨p, e, R, s, m, args, below, meth, c, Q⟩ := E
  obtain ⟨hx, hb, hml, hown, hts, hK, hSt, hlk, hfr, hlo, hBs⟩ := hC
  intro H locs cells slots ls h1 h2 h3 h4 h5 h6
  exact lv_icmp_gt hx hb hd ht (fun z => kt z H locs cells slots ls h1 h2 h3 h4 h5 h6) (fun z => kf z H locs cells slots ls h1 h2 h3 h4 h5 h6)
theorem j_lcmp_gt (hC : BX K own cc nL d E) {x y : Int64} {off : Int} (tgt : Nat) (hd0 : decode cc pc = .ok (.lcmp, 1)) (hd : decode cc (pc + 1) = .ok (.ifCond .gt off, 3)) (ht : ((pc + 1 : Nat) : Int) + off = (tgt : Int)) (kt : y < x → J K cc E kc ks w tgt lv st) (kf : ¬ y < x → J K cc E kc ks w (pc + 4) lv st) : J K cc E kc ks w pc lv (.long y :: .long x :: st) := by
  obtain ⟨p, e, R, s, m, args, below, meth, c, Q⟩ := E
  obtain ⟨hx, hb, hml, hown, hts, hK, hSt, hlk, hfr, hlo, hBs⟩ := hC
  intro H locs cells slots ls h1 h2 h3 h4 h5 h6
  refine W.lcmp hx hb hd0 ?_
  exact lv_if_gt hx hb hd ht (fun z => kt ((lg_cmp_gt x y).mp z) H locs cells slots ls h1 h2 h3 h4 h5 h6) (fun z => kf (fun q => z ((lg_cmp_gt x y).mpr q)) H locs cells slots ls h1 h2 h3 h4 h5 h6)
theorem j_if_le (hC : BX K own cc nL d E) {x : Int32} {off : Int} (tgt : Nat) (hd : decode cc pc = .ok (.ifCond .le off, 3)) (ht : (pc : Int) + off = (tgt : Int)) (kt : x ≤ 0 → J K cc E kc ks w tgt lv st) (kf : ¬ x ≤ 0 → J K cc E kc ks w (pc + 3) lv st) : J K cc E kc ks w pc lv (.int x :: st) := by
  obtain ⟨p, e, R, s, m, args, below, meth, c, Q⟩ := E
  obtain ⟨hx, hb, hml, hown, hts, hK, hSt, hlk, hfr, hlo, hBs⟩ := hC
  intro H locs cells slots ls h1 h2 h3 h4 h5 h6
  exact lv_if_le hx hb hd ht (fun z => kt z H locs cells slots ls h1 h2 h3 h4 h5 h6) (fun z => kf z H locs cells slots ls h1 h2 h3 h4 h5 h6)
theorem j_icmp_le (hC : BX K own cc nL d E) {x y : Int32} {off : Int} (tgt : Nat) (hd : decode cc pc = .ok (.if_icmp .le off, 3)) (ht : (pc : Int) + off = (tgt : Int)) (kt : x ≤ y → J K cc E kc ks w tgt lv st) (kf : ¬ x ≤ y → J K cc E kc ks w (pc + 3) lv st) : J K cc E kc ks w pc lv (.int y :: .int x :: st) := by
  obtain ⟨p, e, R, s, m, args, below, meth, c, Q⟩ := E
  obtain ⟨hx, hb, hml, hown, hts, hK, hSt, hlk, hfr, hlo, hBs⟩ := hC
  intro H locs cells slots ls h1 h2 h3 h4 h5 h6
  exact lv_icmp_le hx hb hd ht (fun z => kt z H locs cells slots ls h1 h2 h3 h4 h5 h6) (fun z => kf z H locs cells slots ls h1 h2 h3 h4 h5 h6)
theorem j_lcmp_le (hC : BX K own cc nL d E) {x y : Int64} {off : Int} (tgt : Nat) (hd0 : decode cc pc = .ok (.lcmp, 1)) (hd : decode cc (pc + 1) = .ok (.ifCond .le off, 3)) (ht : ((pc + 1 : Nat) : Int) + off = (tgt : Int)) (kt : x ≤ y → J K cc E kc ks w tgt lv st) (kf : ¬ x ≤ y → J K cc E kc ks w (pc + 4) lv st) : J K cc E kc ks w pc lv (.long y :: .long x :: st) := by
  obtain ⟨p, e, R, s, m, args, below, meth, c, Q⟩ := E
  obtain ⟨hx, hb, hml, hown, hts, hK, hSt, hlk, hfr, hlo, hBs⟩ := hC
  intro H locs cells slots ls h1 h2 h3 h4 h5 h6
  refine W.lcmp hx hb hd0 ?_
  exact lv_if_le hx hb hd ht (fun z => kt ((lg_cmp_le x y).mp z) H locs cells slots ls h1 h2 h3 h4 h5 h6) (fun z => kf (fun q => z ((lg_cmp_le x y).mpr q)) H locs cells slots ls h1 h2 h3 h4 h5 h6)
theorem j_goto (hC : BX K own cc nL d E) {off : Int} (tgt : Nat) (hd : decode cc pc = .ok (.goto off, 3)) (ht : (pc : Int) + off = (tgt : Int)) (k : J K cc E kc ks w tgt lv st) : J K cc E kc ks w pc lv st := by
  obtain ⟨p, e, R, s, m, args, below, meth, c, Q⟩ := E
  obtain ⟨hx, hb, hml, hown, hts, hK, hSt, hlk, hfr, hlo, hBs⟩ := hC
  intro H locs cells slots ls h1 h2 h3 h4 h5 h6
  exact lv_goto hx hb hd ht (k H locs cells slots ls h1 h2 h3 h4 h5 h6)
theorem j_ldc (hC : BX K own cc nL d E) {i : Nat} {v : Int32} (hd : decode cc pc = .ok (.ldc i, 2)) (hw : Cond.constant own i v ∈ gtbl) (k : J K cc E kc ks w (pc + 2) lv (.int v :: st)) : J K cc E kc ks w pc lv st := by
  obtain ⟨p, e, R, s, m, args, below, meth, c, Q⟩ := E
  obtain ⟨hx, hb, hml, hown, hts, hK, hSt, hlk, hfr, hlo, hBs⟩ := hC
  intro H locs cells slots ls h1 h2 h3 h4 h5 h6
  exact lv_ldc hx hb hown (hts _ hw) hd (k H locs cells slots ls h1 h2 h3 h4 h5 h6)
theorem j_ldc_w (hC : BX K own cc nL d E) {i : Nat} {v : Int32} (hd : decode cc pc = .ok (.ldc_w i, 3)) (hw : Cond.constant own i v ∈ gtbl) (k : J K cc E kc ks w (pc + 3) lv (.int v :: st)) : J K cc E kc ks w pc lv st := by
  obtain ⟨p, e, R, s, m, args, below, meth, c, Q⟩ := E
  obtain ⟨hx, hb, hml, hown, hts, hK, hSt, hlk, hfr, hlo, hBs⟩ := hC
  intro H locs cells slots ls h1 h2 h3 h4 h5 h6
  exact lv_ldcw hx hb hown (hts _ hw) hd (k H locs cells slots ls h1 h2 h3 h4 h5 h6)
theorem j_ldc2 (hC : BX K own cc nL d E) {i : Nat} {v : Int64} (hd : decode cc pc = .ok (.ldc2_w i, 3)) (hw : Cond.constantLong own i v ∈ gtbl) (k : J K cc E kc ks w (pc + 3) lv (.long v :: st)) : J K cc E kc ks w pc lv st := by
  obtain ⟨p, e, R, s, m, args, below, meth, c, Q⟩ := E
  obtain ⟨hx, hb, hml, hown, hts, hK, hSt, hlk, hfr, hlo, hBs⟩ := hC
  intro H locs cells slots ls h1 h2 h3 h4 h5 h6
  exact lv_ldc2 hx hb hown (hts _ hw) hd (k H locs cells slots ls h1 h2 h3 h4 h5 h6)
theorem j_null (hC : BX K own cc nL d E) (hd : decode cc pc = .ok (.aconst_null, 1)) (k : J K cc E kc ks w (pc + 1) lv (.null :: st)) : J K cc E kc ks w pc lv st := by
  obtain ⟨p, e, R, s, m, args, below, meth, c, Q⟩ := E
  obtain ⟨hx, hb, hml, hown, hts, hK, hSt, hlk, hfr, hlo, hBs⟩ := hC
  intro H locs cells slots ls h1 h2 h3 h4 h5 h6
  exact lv_null hx hb hd (k H locs cells slots ls h1 h2 h3 h4 h5 h6)
end JR
end
section

theorem wh.one {g : Gx} {w : Wd} {H : Heap} (h : wh g w H) {a : Nat} {e : va_E} (ha : w a = some e) : va_P g.1 vwCl [(a, e)] H := by
  intro k q hk
  match k, hk with
  | 0, hk => cases hk; exact h a e ha
  | k + 1, hk => simp at hk
/-- a class of the worlds: its place, its table, its words -/
def CF (ci : Nat) (C : String) (T : u_T) (N : Nat) (ty : Nat → FieldType) : Prop := vwCl[ci]? = some (C, T, N) ∧ (∀ w ∈ u_ws C T N, w ∈ gtbl) ∧ (∀ k, k < N → parseFieldDescriptor (T k).2.2.1 = some (ty k)) ∧ (∀ a, a < N → ∀ b, b < N → a ≠ b → (T a).2.1 ≠ (T b).2.1)
def NM (nm : String) (E : Ex) : Prop := match E with
  | (_, _, _, _, _, _, _, meth, _, _) => meth.name = nm
theorem RX.nm {K : Kx} {M : Mx} {mc ms : Nat} {Post : Option Value → Wd → Prop} {E : Ex} (h : RX K M mc ms Post E) : NM M.1.name E := by
  obtain ⟨p, e, R, s, m, args, below, meth, c, Q⟩ := E
  exact h.2.2.2.2
/-- an index that is the number k, in range -/
def ix (i : Int32) (n k : Nat) : Prop := vp_in i n ∧ i.toNatClampNeg = k
theorem ix_nI {n k : Nat} (h : k < n) (hn : n < 2 ^ 31) : ix (nI k) n k := ⟨vp_in_nI h hn, nI_clamp (by omega)⟩
theorem va_S.newer {B : Nat} {H0 H H1 : Heap} {locs : List Loc} (h : va_S (fun q : Nat => B ≤ q) H0 H locs) (z : H.size ≤ H1.size) (oq : ∀ q : Nat, q < H.size → H1[q]? = H[q]?) : va_S (fun q : Nat => B ≤ q) H0 H1 locs :=
  ⟨Nat.le_trans h.1 z, fun q h1 h2 => (oq q (Nat.lt_of_lt_of_le h1 h.1)).trans (h.2.1 q h1 h2), h.2.2⟩
section JH
variable {K : Kx} {own : String} {cc : ByteArray} {nL d : Nat} {E : Ex} {kc ks : Nat} {w : Wd} {pc : Nat} {lv : List (Option Value)} {st : List Value} {ci k idx a : Nat} {C : String} {T : u_T} {N : Nat} {ty : Nat → FieldType} {fs fs' : List Value} {v : Value}

theorem j_get (hC : BX K own cc nL d E) (hcf : CF ci C T N ty) (hd : decode cc pc = .ok (.getfield idx, 3)) (hfl : Cond.fieldLink own idx (T k).1 (T k).2.1 (T k).2.2.1 ∈ gtbl) (hk : k < N) (hw : w a = some (.inr (ci, fs))) (hv : fs[k]? = some v) (kk : J K cc E kc ks w (pc + 3) lv (v :: st)) : J K cc E kc ks w pc lv (.ref a :: st) := by
  obtain ⟨p, e, R, s, m, args, below, meth, c, Q⟩ := E
  obtain ⟨hx, hb, hml, hown, hts, hK, hSt, hlk, hfr, hlo, hBs⟩ := hC
  intro H locs cells slots ls h1 h2 h3 h4 h5 h6
  exact va_get (D := K.2.1.1) (ws := [(a, .inr (ci, fs))]) hx hb hts hcf.2.1 hown hK (h3.one hw) 0 rfl hcf.1 k hk (hts _ hfl) (fun _ h9 => h9) hv hd (kk H locs cells slots ls h1 h2 h3 h4 h5 h6)
theorem j_getR (hC : BX K own cc nL d E) (hcf : CF ci C T N ty) (hd : decode cc pc = .ok (.getfield idx, 3)) {ref : String} (hfl : Cond.fieldLink own idx ref (T k).2.1 (T k).2.2.1 ∈ gtbl) (hsm : Cond.sameField ref (T k).1 (T k).2.1 (T k).2.2.1 ∈ gtbl) (hk : k < N) (hw : w a = some (.inr (ci, fs))) (hv : fs[k]? = some v) (kk : J K cc E kc ks w (pc + 3) lv (v :: st)) : J K cc E kc ks w pc lv (.ref a :: st) := by
  obtain ⟨p, e, R, s, m, args, below, meth, c, Q⟩ := E
  obtain ⟨hx, hb, hml, hown, hts, hK, hSt, hlk, hfr, hlo, hBs⟩ := hC
  intro H locs cells slots ls h1 h2 h3 h4 h5 h6
  exact va_get (D := K.2.1.1) (ws := [(a, .inr (ci, fs))]) hx hb hts hcf.2.1 hown hK (h3.one hw) 0 rfl hcf.1 k hk (hts _ hfl) (u_same (hts _ hsm)) hv hd (kk H locs cells slots ls h1 h2 h3 h4 h5 h6)
theorem j_put (hC : BX K own cc nL d E) (hcf : CF ci C T N ty) (hd : decode cc pc = .ok (.putfield idx, 3)) (hfl : Cond.fieldLink own idx (T k).1 (T k).2.1 (T k).2.2.1 ∈ gtbl) (hfin : (T k).2.2.2 = false) (hk : k < N) (hw : w a = some (.inr (ci, fs))) (hn : narrow (ty k) v = v) (hfit : fits (ty k) v = true) (hlt : k < fs.length) (hl : fs.set k v = fs') (kk : J K cc E kc ks (wst w a (.inr (ci, fs'))) (pc + 3) lv st) : J K cc E kc ks w pc lv (v :: .ref a :: st) := by
  subst hl
  obtain ⟨p, e, R, s, m, args, below, meth, c, Q⟩ := E
  obtain ⟨hx, hb, hml, hown, hts, hK, hSt, hlk, hfr, hlo, hBs⟩ := hC
  intro H locs cells slots ls h1 h2 h3 h4 h5 h6
  have hap := va_apart (own := own) hts hcf.2.1 ty hcf.2.2.1 hcf.2.2.2 hK hcf.1
  obtain ⟨r, g1, cell, q1, q2, q3, q4⟩ := h3 a _ hw
  have hr : r = (C, T, N) := Option.some.inj (g1.symm.trans hcf.1)
  subst hr
  obtain ⟨hS, hfc, kC, hkC, hkind⟩ := hK.1 ci _ hcf.1
  obtain ⟨cf, kf, fi, f, hi, hsl⟩ := hS k hk
  have hlay := hts _ (hcf.2.1 _ (u_in_lay hk))
  unfold u_lay at hlay
  rw [if_neg (by rw [hfin]; decide)] at hlay
  have hst := (u_facts hfc hkC (u_lays hts hcf.2.1 hk) hi).1
  have h6x := u_store hfc hkC hkind hlay hi (hcf.2.2.1 k hk) hn hfit
  refine W.putK hx hb (f := f) ⟨hown, hts _ hfl, ⟨_, _, _, hi⟩, hst⟩ (by rw [q2]; exact h6x) q1 q3 (by rw [hsl]; exact k2_hasslot (q4 k hk)) rfl rfl hd fun H' e1 e2 e3 => ?_
  rw [hsl] at e1 ⊢
  refine kk H' _ cells slots ls h1 h2 (h3.set ⟨_, hcf.1, t_OB.to (V := updV (vp_V fs) k v) ⟨_, e1, q2, q3, t_set q4 hap hk v⟩ (fun j _ => vp_updV_set hlt v j)⟩ e3) (h4.set (h4 a _ hw)) (h5.put e2 e3 (h4 a _ hw)) h6
theorem j_putR (hC : BX K own cc nL d E) (hcf : CF ci C T N ty) (hd : decode cc pc = .ok (.putfield idx, 3)) {ref : String} (hfl : Cond.fieldLink own idx ref (T k).2.1 (T k).2.2.1 ∈ gtbl) (hsm : Cond.sameField ref (T k).1 (T k).2.1 (T k).2.2.1 ∈ gtbl) (hfin : (T k).2.2.2 = false) (hk : k < N) (hw : w a = some (.inr (ci, fs))) (hn : narrow (ty k) v = v) (hfit : fits (ty k) v = true) (hlt : k < fs.length) (hl : fs.set k v = fs') (kk : J K cc E kc ks (wst w a (.inr (ci, fs'))) (pc + 3) lv st) : J K cc E kc ks w pc lv (v :: .ref a :: st) := by
  subst hl
  obtain ⟨p, e, R, s, m, args, below, meth, c, Q⟩ := E
  obtain ⟨hx, hb, hml, hown, hts, hK, hSt, hlk, hfr, hlo, hBs⟩ := hC
  intro H locs cells slots ls h1 h2 h3 h4 h5 h6
  have hap := va_apart (own := own) hts hcf.2.1 ty hcf.2.2.1 hcf.2.2.2 hK hcf.1
  obtain ⟨r, g1, cell, q1, q2, q3, q4⟩ := h3 a _ hw
  have hr : r = (C, T, N) := Option.some.inj (g1.symm.trans hcf.1)
  subst hr
  obtain ⟨hS, hfc, kC, hkC, hkind⟩ := hK.1 ci _ hcf.1
  obtain ⟨cf, kf, fi, f, hi, hsl⟩ := hS k hk
  have hlay := hts _ (hcf.2.1 _ (u_in_lay hk))
  unfold u_lay at hlay
  rw [if_neg (by rw [hfin]; decide)] at hlay
  have hst := (u_facts hfc hkC (u_lays hts hcf.2.1 hk) hi).1
  have h6x := u_store hfc hkC hkind hlay hi (hcf.2.2.1 k hk) hn hfit
  refine W.putK hx hb (f := f) ⟨hown, hts _ hfl, ⟨_, _, _, u_same (hts _ hsm) _ hi⟩, hst⟩ (by rw [q2]; exact h6x) q1 q3 (by rw [hsl]; exact k2_hasslot (q4 k hk)) rfl rfl hd fun H' e1 e2 e3 => ?_
  rw [hsl] at e1 ⊢
  refine kk H' _ cells slots ls h1 h2 (h3.set ⟨_, hcf.1, t_OB.to (V := updV (vp_V fs) k v) ⟨_, e1, q2, q3, t_set q4 hap hk v⟩ (fun j _ => vp_updV_set hlt v j)⟩ e3) (h4.set (h4 a _ hw)) (h5.put e2 e3 (h4 a _ hw)) h6
theorem j_putF (hC : BX K own cc nL d E) (hcf : CF ci C T N ty) (hd : decode cc pc = .ok (.putfield idx, 3)) (hnm : NM "<init>" E) (hfl : Cond.fieldLink own idx (T k).1 (T k).2.1 (T k).2.2.1 ∈ gtbl) (hfin : (T k).2.2.2 = true) (hdecl : (T k).1 = own) (hk : k < N) (hw : w a = some (.inr (ci, fs))) (hn : narrow (ty k) v = v) (hfit : fits (ty k) v = true) (hlt : k < fs.length) (hl : fs.set k v = fs') (kk : J K cc E kc ks (wst w a (.inr (ci, fs'))) (pc + 3) lv st) : J K cc E kc ks w pc lv (v :: .ref a :: st) := by
  subst hl
  obtain ⟨p, e, R, s, m, args, below, meth, c, Q⟩ := E
  obtain ⟨hx, hb, hml, hown, hts, hK, hSt, hlk, hfr, hlo, hBs⟩ := hC
  intro H locs cells slots ls h1 h2 h3 h4 h5 h6
  have hap := va_apart (own := own) hts hcf.2.1 ty hcf.2.2.1 hcf.2.2.2 hK hcf.1
  obtain ⟨r, g1, cell, q1, q2, q3, q4⟩ := h3 a _ hw
  have hr : r = (C, T, N) := Option.some.inj (g1.symm.trans hcf.1)
  subst hr
  obtain ⟨hS, hfc, kC, hkC, hkind⟩ := hK.1 ci _ hcf.1
  obtain ⟨cf, kf, fi, f, hi, hsl⟩ := hS k hk
  have hlay := hts _ (hcf.2.1 _ (u_in_lay hk))
  unfold u_lay at hlay
  rw [if_pos hfin] at hlay
  have hst := (u_facts hfc hkC (u_lays hts hcf.2.1 hk) hi).1
  have hcf2 : m.cls = cf := by
    obtain ⟨_, _, c', _, _, _, -, -, hf', -, -, -, hown2, -⟩ := Cond.laysFinal_spec hlay
    have e1 : c' = cf := by have := hi.symm.trans hf'; simp at this; exact this.1.symm
    rw [hdecl] at hown2
    rw [← e1]; exact Option.some.inj (hown.symm.trans hown2)
  have h6x := u_fits hfc hkC hkind (Or.inr hlay) hi (hcf.2.2.1 k hk) hn hfit
  refine W.putFinK hx hb hown (hts _ hfl) hi hst hcf2 hnm (by rw [q2]; exact h6x) q1 q3 (by rw [hsl]; exact k2_hasslot (q4 k hk)) rfl rfl hd fun H' e1 e2 e3 => ?_
  rw [hsl] at e1 ⊢
  refine kk H' _ cells slots ls h1 h2 (h3.set ⟨_, hcf.1, t_OB.to (V := updV (vp_V fs) k v) ⟨_, e1, q2, q3, t_set q4 hap hk v⟩ (fun j _ => vp_updV_set hlt v j)⟩ e3) (h4.set (h4 a _ hw)) (h5.put e2 e3 (h4 a _ hw)) h6
theorem j_aldI (hC : BX K own cc nL d E) {n : Nat} {f : Nat → Int32} {i : Int32} (hd : decode cc pc = .ok (.iaload, 1)) (hw : w a = some (aI K.2.1 n f)) (hi : ix i n k) (kk : J K cc E kc ks w (pc + 1) lv (.int (f k) :: st)) : J K cc E kc ks w pc lv (.int i :: .ref a :: st) := by
  obtain ⟨p, e, R, s, m, args, below, meth, c, Q⟩ := E
  obtain ⟨hx, hb, hml, hown, hts, hK, hSt, hlk, hfr, hlo, hBs⟩ := hC
  intro H locs cells slots ls h1 h2 h3 h4 h5 h6
  obtain ⟨hin, rfl⟩ := hi
  exact va_iald (D := K.2.1.1) (ws := [(a, aI K.2.1 n f)]) hx hb hK (h3.one hw) 0 0 rfl rfl hin hd (kk H locs cells slots ls h1 h2 h3 h4 h5 h6)
theorem j_aldJ (hC : BX K own cc nL d E) {n : Nat} {f : Nat → Int64} {i : Int32} (hd : decode cc pc = .ok (.laload, 1)) (hw : w a = some (aJ K.2.1 n f)) (hi : ix i n k) (kk : J K cc E kc ks w (pc + 1) lv (.long (f k) :: st)) : J K cc E kc ks w pc lv (.int i :: .ref a :: st) := by
  obtain ⟨p, e, R, s, m, args, below, meth, c, Q⟩ := E
  obtain ⟨hx, hb, hml, hown, hts, hK, hSt, hlk, hfr, hlo, hBs⟩ := hC
  intro H locs cells slots ls h1 h2 h3 h4 h5 h6
  obtain ⟨hin, rfl⟩ := hi
  exact va_lald (D := K.2.1.1) (ws := [(a, aJ K.2.1 n f)]) hx hb hK (h3.one hw) 0 1 rfl rfl hin hd (kk H locs cells slots ls h1 h2 h3 h4 h5 h6)
theorem j_aldZ (hC : BX K own cc nL d E) {n : Nat} {f : Nat → Int32} {i : Int32} (hd : decode cc pc = .ok (.baload, 1)) (hw : w a = some (aZ K.2.1 n f)) (hi : ix i n k) (kk : J K cc E kc ks w (pc + 1) lv (.int (f k) :: st)) : J K cc E kc ks w pc lv (.int i :: .ref a :: st) := by
  obtain ⟨p, e, R, s, m, args, below, meth, c, Q⟩ := E
  obtain ⟨hx, hb, hml, hown, hts, hK, hSt, hlk, hfr, hlo, hBs⟩ := hC
  intro H locs cells slots ls h1 h2 h3 h4 h5 h6
  obtain ⟨hin, rfl⟩ := hi
  exact va_zald (D := K.2.1.1) (ws := [(a, aZ K.2.1 n f)]) hx hb hK (h3.one hw) 0 2 rfl rfl hin hd (kk H locs cells slots ls h1 h2 h3 h4 h5 h6)
theorem j_astI (hC : BX K own cc nL d E) {n : Nat} {f : Nat → Int32} {i : Int32} {x : Int32} (hd : decode cc pc = .ok (.iastore, 1)) (hw : w a = some (aI K.2.1 n f)) (hi : ix i n k) (kk : J K cc E kc ks (wst w a (aI K.2.1 n (va_up f k x))) (pc + 1) lv st) : J K cc E kc ks w pc lv (.int x :: .int i :: .ref a :: st) := by
  obtain ⟨p, e, R, s, m, args, below, meth, c, Q⟩ := E
  obtain ⟨hx, hb, hml, hown, hts, hK, hSt, hlk, hfr, hlo, hBs⟩ := hC
  intro H locs cells slots ls h1 h2 h3 h4 h5 h6
  obtain ⟨hin, rfl⟩ := hi
  refine W.iast hx hb (h3 a _ hw) ((hK.2 0 _ rfl).1 n (fun j => .int (f j))) (fun q => by cases q) (by show ¬ (i < 0 ∨ (arrV _ _ _).slots.size ≤ _); rw [arrV_size]; exact hin) rfl rfl hd fun H' e z oq => ?_
  refine kk H' _ cells slots ls h1 h2 (h3.set ?_ oq) (h4.set (h4 a _ hw)) (h5.put z oq (h4 a _ hw)) h6
  show H'[a]? = some (vp_cell _ _)
  rw [e]
  rw [vp_cell_i, vp_cell_i, arrV_store]
  congr 2
  funext q
  by_cases hq : q = i.toNatClampNeg
  · subst hq
    simp [updV, va_up]
  · simp [updV, va_up, hq]
theorem j_astJ (hC : BX K own cc nL d E) {n : Nat} {f : Nat → Int64} {i : Int32} {x : Int64} (hd : decode cc pc = .ok (.lastore, 1)) (hw : w a = some (aJ K.2.1 n f)) (hi : ix i n k) (kk : J K cc E kc ks (wst w a (aJ K.2.1 n (va_up f k x))) (pc + 1) lv st) : J K cc E kc ks w pc lv (.long x :: .int i :: .ref a :: st) := by
  obtain ⟨p, e, R, s, m, args, below, meth, c, Q⟩ := E
  obtain ⟨hx, hb, hml, hown, hts, hK, hSt, hlk, hfr, hlo, hBs⟩ := hC
  intro H locs cells slots ls h1 h2 h3 h4 h5 h6
  obtain ⟨hin, rfl⟩ := hi
  refine W.last hx hb (h3 a _ hw) ((hK.2 1 _ rfl).1 n (fun j => .long (f j))) (fun q => by cases q) (by show ¬ (i < 0 ∨ (arrV _ _ _).slots.size ≤ _); rw [arrV_size]; exact hin) rfl rfl hd fun H' e z oq => ?_
  refine kk H' _ cells slots ls h1 h2 (h3.set ?_ oq) (h4.set (h4 a _ hw)) (h5.put z oq (h4 a _ hw)) h6
  show H'[a]? = some (vp_cell _ _)
  rw [e]
  rw [vp_cell_l, vp_cell_l, arrV_store]
  congr 2
  funext q
  by_cases hq : q = i.toNatClampNeg
  · subst hq
    simp [updV, va_up]
  · simp [updV, va_up, hq]
theorem j_astZ (hC : BX K own cc nL d E) {n : Nat} {f : Nat → Int32} {i : Int32} {x : Int32} (hd : decode cc pc = .ok (.bastore, 1)) (hw : w a = some (aZ K.2.1 n f)) (hi : ix i n k) (hnz : narrow .boolean (.int x) = .int x) (kk : J K cc E kc ks (wst w a (aZ K.2.1 n (va_up f k x))) (pc + 1) lv st) : J K cc E kc ks w pc lv (.int x :: .int i :: .ref a :: st) := by
  obtain ⟨p, e, R, s, m, args, below, meth, c, Q⟩ := E
  obtain ⟨hx, hb, hml, hown, hts, hK, hSt, hlk, hfr, hlo, hBs⟩ := hC
  intro H locs cells slots ls h1 h2 h3 h4 h5 h6
  obtain ⟨hin, rfl⟩ := hi
  refine W.zast hx hb (h3 a _ hw) ((hK.2 2 _ rfl).1 n (fun j => .int (f j))) (fun q => by cases q) (by show ¬ (i < 0 ∨ (arrV _ _ _).slots.size ≤ _); rw [arrV_size]; exact hin) rfl rfl hd fun H' e z oq => ?_
  rw [hnz] at e
  refine kk H' _ cells slots ls h1 h2 (h3.set ?_ oq) (h4.set (h4 a _ hw)) (h5.put z oq (h4 a _ hw)) h6
  show H'[a]? = some (vp_cell _ _)
  rw [e]
  rw [vp_cell_i, vp_cell_i, arrV_store]
  congr 2
  funext q
  by_cases hq : q = i.toNatClampNeg
  · subst hq
    simp [updV, va_up]
  · simp [updV, va_up, hq]
theorem j_aldO (hC : BX K own cc nL d E) {n : Nat} {f : Nat → Option Nat} {i : Int32} {b : Nat} (hd : decode cc pc = .ok (.aaload, 1)) (hw : w a = some (aO K.2.1 n f)) (hi : ix i n k) (hf : f k = some b) (kk : J K cc E kc ks w (pc + 1) lv (.ref b :: st)) : J K cc E kc ks w pc lv (.int i :: .ref a :: st) := by
  obtain ⟨p, e, R, s, m, args, below, meth, c, Q⟩ := E
  obtain ⟨hx, hb, hml, hown, hts, hK, hSt, hlk, hfr, hlo, hBs⟩ := hC
  intro H locs cells slots ls h1 h2 h3 h4 h5 h6
  obtain ⟨hin, rfl⟩ := hi
  refine va_aldq (D := K.2.1.1) (ws := [(a, aO K.2.1 n f)]) (C := "java/lang/Object") hx hb hK (h3.one hw) 0 3 rfl rfl hin hd ?_
  rw [hf]
  exact kk H locs cells slots ls h1 h2 h3 h4 h5 h6
theorem wh.any {g : Gx} {s : State} {H : Heap} {w : Wd} {b : Nat} {r : vw_C} (hK : va_K g.1 vwCl (tysG g) s) (hX : XW s) (h3 : wh g w H) (hw : w b = some (.inr (ci, fs))) (hc : vwCl[ci]? = some r) (hcast : r.1 ∈ ([RX0, RX1, RX2, RX3, RX5, RX6, RX7, RX8] : List String)) : va_Any "java/lang/Object" s H b := by
  refine va_rAny (D := g.1) (ws := [(b, .inr (ci, fs))]) (q0 := 0) hK (h3.one hw) rfl hc ?_
  intro comp c0 f1 f2
  obtain ⟨c1, t1, g1, g2, g3⟩ := Cond.castable_spec (va_Nw.use (A := #[]) rfl (hX.1 _ hcast))
  cases f2.symm.trans g1
  cases f1.symm.trans g2
  exact g3
theorem j_astO (hC : BX K own cc nL d E) {n : Nat} {f : Nat → Option Nat} {i : Int32} {b : Nat} {r : vw_C} (hd : decode cc pc = .ok (.aastore, 1)) (hw : w a = some (aO K.2.1 n f)) (hi : ix i n k) (hwb : w b = some (.inr (ci, fs))) (hc : vwCl[ci]? = some r) (hcast : r.1 ∈ ([RX0, RX1, RX2, RX3, RX5, RX6, RX7, RX8] : List String)) (kk : J K cc E kc ks (wst w a (aO K.2.1 n (va_up f k (some b)))) (pc + 1) lv st) : J K cc E kc ks w pc lv (.ref b :: .int i :: .ref a :: st) := by
  obtain ⟨p, e, R, s, m, args, below, meth, c, Q⟩ := E
  obtain ⟨hx, hb, hml, hown, hts, hK, hSt, hlk, hfr, hlo, hBs⟩ := hC
  intro H locs cells slots ls h1 h2 h3 h4 h5 h6
  obtain ⟨hin, rfl⟩ := hi
  have hlt : i.toNatClampNeg < n := Nat.not_le.mp fun q => hin (Or.inr q)
  have h0 : ¬ i < 0 := fun q => hin (Or.inl q)
  obtain ⟨cellV, g1, g3, ⟨kC, hkC⟩, hasg⟩ := h3.any hK hSt.1 hwb hc hcast
  obtain ⟨kA, comp, k1, k2, k3, -⟩ := (hK.2 3 _ rfl).2
  obtain ⟨kE, hkE, -⟩ := Vm.findClass_spec k3
  refine W.aast hx hb (h3 a _ hw) (fun q h => by cases h) (fun h => by cases h) k1 k2 rfl hkE ⟨h0, by show _ < (arrV _ _ _).slots.size; rw [arrV_size]; exact hlt⟩ g1 (fun q h => by rw [h] at g3; cases g3) hkC (hasg _ k3) rfl rfl hd fun H' e z oq => ?_
  refine kk H' _ cells slots ls h1 h2 (h3.set ?_ oq) (h4.set (h4 a _ hw)) (h5.put z oq (h4 a _ hw)) h6
  show H'[a]? = some (vp_cell _ _)
  rw [e]
  rw [vp_cell_q, vp_cell_q, arrV_store]
  congr 2
  funext q
  by_cases hq : q = i.toNatClampNeg
  · subst hq
    simp [updV, va_up, va_rf]
  · simp [updV, va_up, hq]
theorem j_alenO (hC : BX K own cc nL d E) {n : Nat} {f : Nat → Option Nat} (hd : decode cc pc = .ok (.arraylength, 1)) (hw : w a = some (aO K.2.1 n f)) (kk : J K cc E kc ks w (pc + 1) lv (.int (nI n) :: st)) : J K cc E kc ks w pc lv (.ref a :: st) := by
  obtain ⟨p, e, R, s, m, args, below, meth, c, Q⟩ := E
  obtain ⟨hx, hb, hml, hown, hts, hK, hSt, hlk, hfr, hlo, hBs⟩ := hC
  intro H locs cells slots ls h1 h2 h3 h4 h5 h6
  exact va_alen (D := K.2.1.1) (ws := [(a, aO K.2.1 n f)]) hx hb hK (h3.one hw) 0 3 rfl rfl rfl hd (kk H locs cells slots ls h1 h2 h3 h4 h5 h6)
theorem j_new (hC : BX K own cc nL d E) (hcf : CF ci C T N ty) {kc' ks' : Nat} (hd : decode cc pc = .ok (.new idx, 3)) (hcl : Cond.classLink own idx C ∈ gtbl) (hin : Cond.instantiable C N ∈ gtbl) (hini : Cond.initialized C ∈ gtbl) (hfs : ∀ j, j < N → defaultValue (ty j) = vp_V fs j) (hkc : kc' + 1 ≤ kc) (hks : ks' + N ≤ ks) (kk : ∀ q : Nat, w q = none → J K cc E kc' ks' (wst w q (.inr (ci, fs))) (pc + 3) lv (.ref q :: st)) : J K cc E kc ks w pc lv st := by
  obtain ⟨p, e, R, s, m, args, below, meth, c, Q⟩ := E
  obtain ⟨hx, hb, hml, hown, hts, hK, hSt, hlk, hfr, hlo, hBs⟩ := hC
  intro H locs cells slots ls h1 h2 h3 h4 h5 h6
  have hKn := hK.1 ci _ hcf.1
  refine W.newcK hx hb hown (hts _ hcl) (hts _ hin) (hts _ hini) rfl hd (by omega) (by omega) hKn.2.1 rfl fun H1 kC hkC e1 z1 o1 => ?_
  have hsz : K.2.2 ≤ H.size := Nat.le_trans hBs h5.1
  refine kk H.size (h3.fresh (Nat.le_refl _)) H1 locs (cells + 1) (slots + N) ls (by omega) (by omega) (h3.push rfl ⟨_, hcf.1, (u_born ty hts hcf.2.1 hKn hkC e1 hcf.2.2.1).to hfs⟩ o1) (h4.set hsz) (h5.newer (by omega) o1) h6
theorem j_newI (hC : BX K own cc nL d E) {n : Int32} {n' : Nat} {kc' ks' : Nat} (hd : decode cc pc = .ok (.newarray .int, 2)) (hcl : Cond.arrayClass .int ∈ gtbl) (hn : ¬ n < 0) (hN : n.toNatClampNeg = n') (hby : n' ≤ 67108864) (hkc : kc' + 1 ≤ kc) (hks : ks' + n' ≤ ks) (kk : ∀ q : Nat, w q = none → J K cc E kc' ks' (wst w q (aI K.2.1 n' (fun _ => 0))) (pc + 2) lv (.ref q :: st)) : J K cc E kc ks w pc lv (.int n :: st) := by
  obtain ⟨p, e, R, s, m, args, below, meth, c, Q⟩ := E
  obtain ⟨hx, hb, hml, hown, hts, hK, hSt, hlk, hfr, hlo, hBs⟩ := hC
  intro H locs cells slots ls h1 h2 h3 h4 h5 h6
  have hA : s.vm.findClass ("[" ++ (.int : FieldType).toString) = some K.2.1.2.1 := (hK.2 0 _ rfl).2
  refine va_newaK hx hb (atype := .int) (hts _ hcl) rfl hd rfl hn hN (by show n' * 4 ≤ _; omega) (by omega) (by omega) rfl fun H1 cA e1 z1 o1 hAr hNm => ?_
  have hcA : cA = K.2.1.2.1 := Option.some.inj (hNm.symm.trans hA)
  subst hcA
  have hsz : K.2.2 ≤ H.size := Nat.le_trans hBs h5.1
  refine kk H.size (h3.fresh (Nat.le_refl _)) H1 locs (cells + 1) (slots + n') ls (by omega) (by omega) (h3.push rfl ?_ o1) (h4.set hsz) (h5.newer (by omega) o1) h6
  show H1[H.size]? = some (vp_cell _ _)
  rw [vp_cell_i]
  exact e1
theorem j_newJ (hC : BX K own cc nL d E) {n : Int32} {n' : Nat} {kc' ks' : Nat} (hd : decode cc pc = .ok (.newarray .long, 2)) (hcl : Cond.arrayClass .long ∈ gtbl) (hn : ¬ n < 0) (hN : n.toNatClampNeg = n') (hby : n' ≤ 67108864) (hkc : kc' + 1 ≤ kc) (hks : ks' + n' ≤ ks) (kk : ∀ q : Nat, w q = none → J K cc E kc' ks' (wst w q (aJ K.2.1 n' (fun _ => 0))) (pc + 2) lv (.ref q :: st)) : J K cc E kc ks w pc lv (.int n :: st) := by
  obtain ⟨p, e, R, s, m, args, below, meth, c, Q⟩ := E
  obtain ⟨hx, hb, hml, hown, hts, hK, hSt, hlk, hfr, hlo, hBs⟩ := hC
  intro H locs cells slots ls h1 h2 h3 h4 h5 h6
  have hA : s.vm.findClass ("[" ++ (.long : FieldType).toString) = some K.2.1.2.2.1 := (hK.2 1 _ rfl).2
  refine va_newaK hx hb (atype := .long) (hts _ hcl) rfl hd rfl hn hN (by show n' * 8 ≤ _; omega) (by omega) (by omega) rfl fun H1 cA e1 z1 o1 hAr hNm => ?_
  have hcA : cA = K.2.1.2.2.1 := Option.some.inj (hNm.symm.trans hA)
  subst hcA
  have hsz : K.2.2 ≤ H.size := Nat.le_trans hBs h5.1
  refine kk H.size (h3.fresh (Nat.le_refl _)) H1 locs (cells + 1) (slots + n') ls (by omega) (by omega) (h3.push rfl ?_ o1) (h4.set hsz) (h5.newer (by omega) o1) h6
  show H1[H.size]? = some (vp_cell _ _)
  rw [vp_cell_l]
  exact e1
theorem j_newZ (hC : BX K own cc nL d E) {n : Int32} {n' : Nat} {kc' ks' : Nat} (hd : decode cc pc = .ok (.newarray .boolean, 2)) (hcl : Cond.arrayClass .boolean ∈ gtbl) (hn : ¬ n < 0) (hN : n.toNatClampNeg = n') (hby : n' ≤ 67108864) (hkc : kc' + 1 ≤ kc) (hks : ks' + n' ≤ ks) (kk : ∀ q : Nat, w q = none → J K cc E kc' ks' (wst w q (aZ K.2.1 n' (fun _ => 0))) (pc + 2) lv (.ref q :: st)) : J K cc E kc ks w pc lv (.int n :: st) := by
  obtain ⟨p, e, R, s, m, args, below, meth, c, Q⟩ := E
  obtain ⟨hx, hb, hml, hown, hts, hK, hSt, hlk, hfr, hlo, hBs⟩ := hC
  intro H locs cells slots ls h1 h2 h3 h4 h5 h6
  have hA : s.vm.findClass ("[" ++ (.boolean : FieldType).toString) = some K.2.1.2.2.2.1 := (hK.2 2 _ rfl).2
  refine va_newaK hx hb (atype := .boolean) (hts _ hcl) rfl hd rfl hn hN (by show n' * 1 ≤ _; omega) (by omega) (by omega) rfl fun H1 cA e1 z1 o1 hAr hNm => ?_
  have hcA : cA = K.2.1.2.2.2.1 := Option.some.inj (hNm.symm.trans hA)
  subst hcA
  have hsz : K.2.2 ≤ H.size := Nat.le_trans hBs h5.1
  refine kk H.size (h3.fresh (Nat.le_refl _)) H1 locs (cells + 1) (slots + n') ls (by omega) (by omega) (h3.push rfl ?_ o1) (h4.set hsz) (h5.newer (by omega) o1) h6
  show H1[H.size]? = some (vp_cell _ _)
  rw [vp_cell_i]
  exact e1
theorem j_newO (hC : BX K own cc nL d E) {n : Int32} {n' : Nat} {kc' ks' : Nat} (hd : decode cc pc = .ok (.anewarray idx, 3)) (hcl : Cond.classLink own idx "java/lang/Object" ∈ gtbl) (hn : ¬ n < 0) (hN : n.toNatClampNeg = n') (hby : n' ≤ 67108864) (hkc : kc' + 1 ≤ kc) (hks : ks' + n' ≤ ks) (kk : ∀ q : Nat, w q = none → J K cc E kc' ks' (wst w q (aO K.2.1 n' (fun _ => none))) (pc + 3) lv (.ref q :: st)) : J K cc E kc ks w pc lv (.int n :: st) := by
  obtain ⟨p, e, R, s, m, args, below, meth, c, Q⟩ := E
  obtain ⟨hx, hb, hml, hown, hts, hK, hSt, hlk, hfr, hlo, hBs⟩ := hC
  intro H locs cells slots ls h1 h2 h3 h4 h5 h6
  subst hN
  refine W.anew hx hb hown (hts _ hcl) (va_AO.use hSt.1.2.2.2.2) rfl hd rfl hn (by omega) (by omega) (by omega) fun cA kA comp f1 f2 f3 f4 => ?_
  have hcA : cA = K.2.1.2.2.2.2.1 := by
    have hA : s.vm.findClass ("[" ++ (FieldType.object "java/lang/Object").toString) = some K.2.1.2.2.2.2.1 := by
      obtain ⟨-, -, -, -, -, g4⟩ := (hK.2 3 _ rfl).2
      exact g4
    exact Option.some.inj (f1.symm.trans hA)
  subst hcA
  generalize hH1 : H.push ({ cls := K.2.1.2.2.2.2.1, slots := Array.replicate n.toNatClampNeg .null, vm := .none } : Cell) = H1
  have z1 : H1.size = H.size + 1 := by rw [← hH1, Array.size_push]
  have e1 : H1[H.size]? = some (arrV K.2.1.2.2.2.2.1 n.toNatClampNeg (fun _ => .null)) := by rw [← hH1, Array.getElem?_push_size, ← arrV_new]
  have o1 : ∀ q : Nat, q < H.size → H1[q]? = H[q]? := fun q hq => by rw [← hH1, Array.getElem?_push, if_neg (Nat.ne_of_lt hq)]
  have hsz : K.2.2 ≤ H.size := Nat.le_trans hBs h5.1
  refine kk H.size (h3.fresh (Nat.le_refl _)) H1 locs (cells + 1) (slots + n.toNatClampNeg) ls (by omega) (by omega) (h3.push rfl ?_ o1) (h4.set hsz) (h5.newer (by omega) o1) h6
  show H1[H.size]? = some (vp_cell _ _)
  rw [vp_cell_q]
  exact e1
theorem j_cast (hC : BX K own cc nL d E) {r : vw_C} (hd : decode cc pc = .ok (.checkcast idx, 3)) (hcl : Cond.classLink own idx r.1 ∈ gtbl) (hw : w a = some (.inr (ci, fs))) (hc : vwCl[ci]? = some r) (kk : J K cc E kc ks w (pc + 3) lv (.ref a :: st)) : J K cc E kc ks w pc lv (.ref a :: st) := by
  obtain ⟨p, e, R, s, m, args, below, meth, c, Q⟩ := E
  obtain ⟨hx, hb, hml, hown, hts, hK, hSt, hlk, hfr, hlo, hBs⟩ := hC
  intro H locs cells slots ls h1 h2 h3 h4 h5 h6
  exact va_castS hx hb hown (hts _ hcl) (hK.1 ci _ hc).2 (va_recv hK (h3.one hw) (q0 := 0) hc rfl) hd (kk H locs cells slots ls h1 h2 h3 h4 h5 h6)
theorem j_obj (hC : BX K own cc nL d E) (hd : decode cc pc = .ok (.invokespecial idx, 3)) (hl : Cond.methodLink own idx objectInit ∈ gtbl) (hin : Cond.instanceMethod objectInit ∈ gtbl) (hcd : Cond.code objectInit ⟨#[0xb1]⟩ 1 none ∈ gtbl) (hnl : lv.length = nL) (hst : (st.map fun v => v.category).sum ≤ 8) (hd1 : 1 ≤ d) (kk : J K cc E kc ks w (pc + 3) lv st) : J K cc E kc ks w pc lv (.ref a :: st) := by
  obtain ⟨p, e, R, s, m, args, below, meth, c, Q⟩ := E
  obtain ⟨hx, hb, hml, hown, hts, hK, hSt, hlk, hfr, hlo, hBs⟩ := hC
  intro H locs cells slots ls h1 h2 h3 h4 h5 h6
  refine W.objInit hx hb hown (hts _ hl) (hts _ hin) (hts _ hcd) rfl (by rw [hml, ← hnl]; exact h6.1) rfl hd (by omega) (by have := lv_room (m := m) (pc := pc) (ls := ls) (rest := .ref a :: st) hst; omega) ?_
  exact kk H locs cells slots ls h1 h2 h3 h4 h5 h6
end JH
/-- the words of a call -/
def CWd (M : Mx) (n : Nat) : Prop := Cond.code M.1 M.2.1 M.2.2.1 M.2.2.2 ∈ gtbl ∧ Cond.initialized M.1.cls ∈ gtbl ∧ (M.1.cls ≠ "java/lang/invoke/MethodHandle" ∧ M.1.cls ≠ "java/lang/invoke/VarHandle" ∧ (parseMethodDescriptor M.1.desc).map (fun d => d.parameters.length) = some n) ∧ M.2.2.1 ≤ 21
section JC
variable {K : Kx} {own : String} {cc : ByteArray} {nL d : Nat} {E : Ex} {kc ks kc' ks' : Nat} {w : Wd} {pc : Nat} {lv : List (Option Value)} {st0 rest As : List Value} {M : Mx} {d' mc ms n idx b ci : Nat} {C : String} {Post : Option Value → Wd → Prop} {fs : List Value} {r : vw_C}
theorem call_B (hC : BX K own cc nL d E) (hW : CWd M n) (hd1 : d' + 1 ≤ d) (hl : Cond.methodLink own idx M.1 ∈ gtbl) : match E with
  | (_, _, R, s, _, args, _, _, _, _) => CallB R s args own idx M.1 M.2.1 M.2.2.1 M.2.2.2 (Cond.code M.1 M.2.1 M.2.2.1 M.2.2.2 :: gtbl) { frames := d', cells := mc, slots := ms, locals := 40 * d' } mc ms n := by
  obtain ⟨p, e, R, s, m, args, below, meth, c, Q⟩ := E
  obtain ⟨hx, hb, hml, hown, hts, hK, hSt, hlk, hfr, hlo, hBs⟩ := hC
  refine callB_of n hts ?_ rfl rfl rfl (hts _ hW.2.1) (hts _ hl) hW.2.2.1 ⟨by show d' + 1 ≤ _; omega, by show 8 + (_ + 11) + 40 * d' ≤ _; have := hW.2.2.2; omega⟩
  intro x hx2
  rcases List.mem_cons.mp hx2 with rfl | h
  · exact gtbl_good _ hW.1
  · exact gtbl_good _ h
theorem call_pre (hC : BX K own cc nL d E) {av : List Value} {H : Heap} {locs : List Loc} (h3 : wh K.2.1 w H) (h4 : wb K.2.2 w) : match E with
  | (_, _, _, s, _, _, _, _, _, _) => va_S (fun q : Nat => K.2.2 ≤ q) s.heap H locs → PreS s H (PcF K.2.1 K.2.2 av w) av := by
  obtain ⟨p, e, R, s, m, args, below, meth, c, Q⟩ := E
  obtain ⟨hx, hb, hml, hown, hts, hK, hSt, hlk, hfr, hlo, hBs⟩ := hC
  intro h5
  exact ⟨PcF.blind, fun U hU hW => ⟨rfl, by rw [hU]; exact Nat.le_trans hBs h5.1, by rw [hU]; exact h3, h4, va_K.moved hW.alike hK, hSt.go hW (by rw [hU]; exact h5.2.1)⟩⟩
/-- behind any call -/
theorem call_on {g : JFrame} {a : Array Value} (hg : g = F0 g.method pc g.locals st0) (hkc : kc' + mc ≤ kc) (hks : ks' + ms ≤ ks) (kk : ∀ (v : Option Value) (w' : Wd), Post v w' → J K cc E kc' ks' w' (pc + 3) lv (v.toList ++ rest)) {H : Heap} {locs : List Loc} {cells slots : Nat} : match E with
  | (p, e, R, s, m, args, below, meth, c, Q) => g.method = m → cells + kc ≤ R.cells → slots + ks ≤ R.slots → va_S (fun q : Nat => K.2.2 ≤ q) s.heap H locs → lok g.locals lv → va_Run p K.1 e R s m args below meth c H locs cells slots mc ms g rest (QmF K.2.1 K.2.2 Post a) (fun q : Nat => K.2.2 ≤ q) → W p K.1 e R s m args below meth c H locs cells slots Q g := by
  obtain ⟨p, e, R, s, m, args, below, meth, c, Q⟩ := E
  intro hm h1 h2 h5 h6 hr T hT X
  obtain ⟨v, st₀, t, T', L, h0, X', hL, e1, e2, ⟨v', w', hv, hp, hwh, hwb, hz, hk⟩, stp⟩ := hr T hT X
  cases hv
  rw [h0] at hz hk
  obtain ⟨t2, a1, b1⟩ := kk v w' hp T'.heap (locs ++ L) (cells + mc) (slots + ms) g.locals (by omega) (by omega) (by rw [e1]; exact hwh) hwb
    ⟨Nat.le_trans h5.1 (by rw [e1]; exact hz), fun q q1 q2 => by rw [e1, hk q (Nat.lt_of_lt_of_le q1 h5.1) q2]; exact h5.2.1 q q1 q2, fun q hq => by
      rcases List.mem_append.mp hq with h | h
      · exact h5.2.2 q h
      · exact hL q h⟩ h6 T' rfl X'
  refine ⟨t2, stp t2 ?_, b1⟩
  subst hm
  rw [hg]
  exact a1
theorem j_calls (hC : BX K own cc nL d E) (hM : MT K M d' mc ms As w Post) (hd : decode cc pc = .ok (.invokestatic idx, 3)) (hW : CWd M n) (hl : Cond.methodLink own idx M.1 ∈ gtbl) (hs : Cond.static M.1 ∈ gtbl) (hn : As.length = n) (hst : st0 = As.reverse ++ rest) (hrm : (rest.map fun v => v.category).sum ≤ 8) (hlen : lv.length = nL) (hd1 : d' + 1 ≤ d) (hkc : kc' + mc ≤ kc) (hks : ks' + ms ≤ ks) (kk : ∀ (v : Option Value) (w' : Wd), Post v w' → J K cc E kc' ks' w' (pc + 3) lv (v.toList ++ rest)) : J K cc E kc ks w pc lv st0 := by
  obtain ⟨p, e, R, s, m, args, below, meth, c, Q⟩ := E
  have cb := call_B (mc := mc) (ms := ms) (M := M) hC hW hd1 hl
  intro H locs cells slots ls h1 h2 h3 h4 h5 h6
  have cp := call_pre (av := As) (locs := locs) hC h3 h4 h5
  obtain ⟨hx, hb, hml, hown, hts, hK, hSt, hlk, hfr, hlo, hBs⟩ := hC
  refine call_on (E := (p, e, R, s, m, args, below, meth, c, Q)) (g := F0 m pc ls st0) (a := As.toArray) rfl hkc hks kk rfl h1 h2 h5 h6 ?_
  exact va_runS (As := As) (rest := rest) ⟨hx, hb, hml, hown, hts⟩ hM ⟨cb, hts _ hs⟩ cp rfl hn (by rw [← hlen]; exact h6.1) hst (lv_room hrm) hd ⟨by omega, by omega⟩
theorem j_callv (hC : BX K own cc nL d E) (hM : MT K M d' mc ms (.ref b :: As) w Post) (hd : decode cc pc = .ok (.invokevirtual idx, 3)) (hW : CWd M n) (hl : Cond.methodLink own idx M.1 ∈ gtbl) (hi : Cond.instanceMethod M.1 ∈ gtbl) (hse : Cond.selects r.1 M.1 M.1 ∈ gtbl) (hw : w b = some (.inr (ci, fs))) (hc : vwCl[ci]? = some r) (hn : As.length = n) (hst : st0 = As.reverse ++ .ref b :: rest) (hrm : (rest.map fun v => v.category).sum ≤ 8) (hlen : lv.length = nL) (hd1 : d' + 1 ≤ d) (hkc : kc' + mc ≤ kc) (hks : ks' + ms ≤ ks) (kk : ∀ (v : Option Value) (w' : Wd), Post v w' → J K cc E kc' ks' w' (pc + 3) lv (v.toList ++ rest)) : J K cc E kc ks w pc lv st0 := by
  obtain ⟨p, e, R, s, m, args, below, meth, c, Q⟩ := E
  have cb := call_B (mc := mc) (ms := ms) (M := M) hC hW hd1 hl
  intro H locs cells slots ls h1 h2 h3 h4 h5 h6
  have cp := call_pre (av := .ref b :: As) (locs := locs) hC h3 h4 h5
  obtain ⟨hx, hb, hml, hown, hts, hK, hSt, hlk, hfr, hlo, hBs⟩ := hC
  refine call_on (E := (p, e, R, s, m, args, below, meth, c, Q)) (g := F0 m pc ls st0) (a := (.ref b :: As : List Value).toArray) rfl hkc hks kk rfl h1 h2 h5 h6 ?_
  exact va_runV (As := As) (rest := rest) (C := r.1) ⟨hx, hb, hml, hown, hts⟩ hM ⟨cb, hts _ hi, hts _ hse⟩ ⟨cp.1, va_recv hK (h3.one hw) (q0 := 0) hc rfl, cp.2⟩ rfl hn (by rw [← hlen]; exact h6.1) hst (lv_room hrm) hd ⟨by omega, by omega⟩
theorem j_calli (hC : BX K own cc nL d E) {y : MethodName} {bytes : ByteArray} {mL : Nat} (hM : MT K (y, bytes, mL, none) d' mc ms (.ref b :: As) w Post) (hd : decode cc pc = .ok (.invokespecial idx, 3)) (hW : CWd (y, bytes, mL, none) n) (hl : Cond.methodLink own idx y ∈ gtbl) (hi : Cond.instanceMethod y ∈ gtbl) (hnm : y.name = "<init>") (hn : As.length = n) (hst : st0 = As.reverse ++ .ref b :: rest) (hrm : (rest.map fun v => v.category).sum ≤ 8) (hlen : lv.length = nL) (hd1 : d' + 1 ≤ d) (hkc : kc' + mc ≤ kc) (hks : ks' + ms ≤ ks) (kk : ∀ (v : Option Value) (w' : Wd), Post v w' → J K cc E kc' ks' w' (pc + 3) lv (v.toList ++ rest)) : J K cc E kc ks w pc lv st0 := by
  obtain ⟨p, e, R, s, m, args, below, meth, c, Q⟩ := E
  have cb := call_B (mc := mc) (ms := ms) (M := (y, bytes, mL, none)) hC hW hd1 hl
  intro H locs cells slots ls h1 h2 h3 h4 h5 h6
  have cp := call_pre (av := .ref b :: As) (locs := locs) hC h3 h4 h5
  obtain ⟨hx, hb, hml, hown, hts, hK, hSt, hlk, hfr, hlo, hBs⟩ := hC
  refine call_on (E := (p, e, R, s, m, args, below, meth, c, Q)) (g := F0 m pc ls st0) (a := (.ref b :: As : List Value).toArray) rfl hkc hks kk rfl h1 h2 h5 h6 ?_
  exact va_runI (As := As) (rest := rest) ⟨hx, hb, hml, hown, hts⟩ hM ⟨cb, hnm, hts _ hi⟩ cp rfl hn (by rw [← hlen]; exact h6.1) hst (lv_room hrm) hd ⟨by omega, by omega⟩
/-- Math's four -/
theorem j_mmin (hC : BX K own cc nL d E) {x y : Int32} {st : List Value} (hd : decode cc pc = .ok (.invokestatic idx, 3)) (hl : Cond.methodLink own idx Lib.Math.min.name ∈ gtbl) (hs : Cond.static Lib.Math.min.name ∈ gtbl) (hi : Cond.initialized "java/lang/Math" ∈ gtbl) (hc : Cond.code Lib.Math.min.name Lib.Math.min.code 2 (some .int) ∈ gtbl) (hlen : lv.length = nL) (hrm : (st.map fun v => v.category).sum ≤ 8) (hd1 : 1 ≤ d) (k : J K cc E kc ks w (pc + 3) lv (.int (if y < x then y else x) :: st)) : J K cc E kc ks w pc lv (.int y :: .int x :: st) := by
  obtain ⟨p, e, R, s, m, args, below, meth, c, Q⟩ := E
  obtain ⟨hx, hb, hml, hown, hts, hK, hSt, hlk, hfr, hlo, hBs⟩ := hC
  intro H locs cells slots ls h1 h2 h3 h4 h5 h6
  exact va_mmin hx hb (by rw [hml, ← hlen]; exact h6.1.symm) hown (hts _ hl) (hts _ hs) (hts _ hi) (hts _ hc) (by omega) (by omega) (by omega) (by omega) hd (k H locs cells slots ls h1 h2 h3 h4 h5 h6)
theorem j_mmax (hC : BX K own cc nL d E) {x y : Int32} {st : List Value} (hd : decode cc pc = .ok (.invokestatic idx, 3)) (hl : Cond.methodLink own idx Lib.Math.max.name ∈ gtbl) (hs : Cond.static Lib.Math.max.name ∈ gtbl) (hi : Cond.initialized "java/lang/Math" ∈ gtbl) (hc : Cond.code Lib.Math.max.name Lib.Math.max.code 2 (some .int) ∈ gtbl) (hlen : lv.length = nL) (hrm : (st.map fun v => v.category).sum ≤ 8) (hd1 : 1 ≤ d) (k : J K cc E kc ks w (pc + 3) lv (.int (if x < y then y else x) :: st)) : J K cc E kc ks w pc lv (.int y :: .int x :: st) := by
  obtain ⟨p, e, R, s, m, args, below, meth, c, Q⟩ := E
  obtain ⟨hx, hb, hml, hown, hts, hK, hSt, hlk, hfr, hlo, hBs⟩ := hC
  intro H locs cells slots ls h1 h2 h3 h4 h5 h6
  exact va_mmax hx hb (by rw [hml, ← hlen]; exact h6.1.symm) hown (hts _ hl) (hts _ hs) (hts _ hi) (hts _ hc) (by omega) (by omega) (by omega) (by omega) hd (k H locs cells slots ls h1 h2 h3 h4 h5 h6)
theorem j_mminL (hC : BX K own cc nL d E) {x y : Int64} {st : List Value} (hd : decode cc pc = .ok (.invokestatic idx, 3)) (hl : Cond.methodLink own idx Lib.MathLoose.min_long.x ∈ gtbl) (hs : Cond.static Lib.MathLoose.min_long.x ∈ gtbl) (hi : Cond.initialized "java/lang/Math" ∈ gtbl) (hc : Cond.code Lib.MathLoose.min_long.x Lib.MathLoose.min_long.code 4 (some .long) ∈ gtbl) (hlen : lv.length = nL) (hrm : (st.map fun v => v.category).sum ≤ 8) (hd1 : 1 ≤ d) (k : J K cc E kc ks w (pc + 3) lv (.long (if y < x then y else x) :: st)) : J K cc E kc ks w pc lv (.long y :: .long x :: st) := by
  obtain ⟨p, e, R, s, m, args, below, meth, c, Q⟩ := E
  obtain ⟨hx, hb, hml, hown, hts, hK, hSt, hlk, hfr, hlo, hBs⟩ := hC
  intro H locs cells slots ls h1 h2 h3 h4 h5 h6
  exact va_mmin_long hx hb (by rw [hml, ← hlen]; exact h6.1.symm) hown (hts _ hl) (hts _ hs) (hts _ hi) (hts _ hc) (by omega) (by omega) (by omega) (by omega) hd (k H locs cells slots ls h1 h2 h3 h4 h5 h6)
theorem j_mmaxL (hC : BX K own cc nL d E) {x y : Int64} {st : List Value} (hd : decode cc pc = .ok (.invokestatic idx, 3)) (hl : Cond.methodLink own idx Lib.MathLoose.max_long.x ∈ gtbl) (hs : Cond.static Lib.MathLoose.max_long.x ∈ gtbl) (hi : Cond.initialized "java/lang/Math" ∈ gtbl) (hc : Cond.code Lib.MathLoose.max_long.x Lib.MathLoose.max_long.code 4 (some .long) ∈ gtbl) (hlen : lv.length = nL) (hrm : (st.map fun v => v.category).sum ≤ 8) (hd1 : 1 ≤ d) (k : J K cc E kc ks w (pc + 3) lv (.long (if y < x then x else y) :: st)) : J K cc E kc ks w pc lv (.long y :: .long x :: st) := by
  obtain ⟨p, e, R, s, m, args, below, meth, c, Q⟩ := E
  obtain ⟨hx, hb, hml, hown, hts, hK, hSt, hlk, hfr, hlo, hBs⟩ := hC
  intro H locs cells slots ls h1 h2 h3 h4 h5 h6
  exact va_mmax_long hx hb (by rw [hml, ← hlen]; exact h6.1.symm) hown (hts _ hl) (hts _ hs) (hts _ hi) (hts _ hc) (by omega) (by omega) (by omega) (by omega) hd (k H locs cells slots ls h1 h2 h3 h4 h5 h6)
theorem j_iret (hC : BX K own cc nL d E) (hR : RX K M mc ms Post E) {v : Int32} (hd : decode cc pc = .ok (.ireturn, 1)) (hr : M.2.2.2 = some .int) (hp : Post (some (.int v)) w) : J K cc E kc ks w pc lv [.int v] := by
  obtain ⟨p, e, R, s, m, args, below, meth, c, Q⟩ := E
  obtain ⟨hx, hb, hml, hown, hts, hK, hSt, hlk, hfr, hlo, hBs⟩ := hC
  obtain ⟨r1, r2, rfl, r4, r5⟩ := hR
  intro H locs cells slots ls h1 h2 h3 h4 h5 h6
  refine W.widen (k := mc) (n := ms) (by omega) (by omega) ?_
  exact W.iret (v := v) hx hb (r4.trans hr) (fun t ht hW => ⟨_, w, rfl, hp, by rw [ht]; exact h3, h4, h5.F ht⟩) h5.2.2 hd hlk
theorem j_zret (hC : BX K own cc nL d E) (hR : RX K M mc ms Post E) {v : Int32} (hd : decode cc pc = .ok (.ireturn, 1)) (hr : M.2.2.2 = some .boolean) (hv : narrow .boolean (.int v) = .int v) (hp : Post (some (.int v)) w) : J K cc E kc ks w pc lv [.int v] := by
  obtain ⟨p, e, R, s, m, args, below, meth, c, Q⟩ := E
  obtain ⟨hx, hb, hml, hown, hts, hK, hSt, hlk, hfr, hlo, hBs⟩ := hC
  obtain ⟨r1, r2, rfl, r4, r5⟩ := hR
  intro H locs cells slots ls h1 h2 h3 h4 h5 h6
  refine W.widen (k := mc) (n := ms) (by omega) (by omega) ?_
  exact W.zret (v := v) hx hb (r4.trans hr) hv (fun t ht hW => ⟨_, w, rfl, hp, by rw [ht]; exact h3, h4, h5.F ht⟩) h5.2.2 hd hlk
theorem j_lret (hC : BX K own cc nL d E) (hR : RX K M mc ms Post E) {v : Int64} (hd : decode cc pc = .ok (.lreturn, 1)) (hr : M.2.2.2 = some .long) (hp : Post (some (.long v)) w) : J K cc E kc ks w pc lv [.long v] := by
  obtain ⟨p, e, R, s, m, args, below, meth, c, Q⟩ := E
  obtain ⟨hx, hb, hml, hown, hts, hK, hSt, hlk, hfr, hlo, hBs⟩ := hC
  obtain ⟨r1, r2, rfl, r4, r5⟩ := hR
  intro H locs cells slots ls h1 h2 h3 h4 h5 h6
  refine W.widen (k := mc) (n := ms) (by omega) (by omega) ?_
  exact W.lret (v := v) hx hb (r4.trans hr) (fun t ht hW => ⟨_, w, rfl, hp, by rw [ht]; exact h3, h4, h5.F ht⟩) h5.2.2 hd hlk
theorem j_vret (hC : BX K own cc nL d E) (hR : RX K M mc ms Post E) (hd : decode cc pc = .ok (.return_, 1)) (hr : M.2.2.2 = none) (hp : Post none w) : J K cc E kc ks w pc lv [] := by
  obtain ⟨p, e, R, s, m, args, below, meth, c, Q⟩ := E
  obtain ⟨hx, hb, hml, hown, hts, hK, hSt, hlk, hfr, hlo, hBs⟩ := hC
  obtain ⟨r1, r2, rfl, r4, r5⟩ := hR
  intro H locs cells slots ls h1 h2 h3 h4 h5 h6
  refine W.widen (k := mc) (n := ms) (by omega) (by omega) ?_
  exact W.vret hx hb (r4.trans hr) (fun t ht hW => ⟨_, w, rfl, hp, by rw [ht]; exact h3, h4, h5.F ht⟩) h5.2.2 hd hlk
theorem j_aret (hC : BX K own cc nL d E) (hR : RX K M mc ms Post E) {a : Nat} {rt : FieldType} (hd : decode cc pc = .ok (.areturn, 1)) (hr : M.2.2.2 = some rt) (hrt : (∃ n, rt = .object n) ∨ ∃ t, rt = .array t) (hp : Post (some (.ref a)) w) : J K cc E kc ks w pc lv [.ref a] := by
  obtain ⟨p, e, R, s, m, args, below, meth, c, Q⟩ := E
  obtain ⟨hx, hb, hml, hown, hts, hK, hSt, hlk, hfr, hlo, hBs⟩ := hC
  obtain ⟨r1, r2, rfl, r4, r5⟩ := hR
  intro H locs cells slots ls h1 h2 h3 h4 h5 h6
  refine W.widen (k := mc) (n := ms) (by omega) (by omega) ?_
  exact W.aret (v := .ref a) hx hb (r4.trans hr) hrt (Or.inr ⟨a, rfl⟩) (fun t ht hW => ⟨_, w, rfl, hp, by rw [ht]; exact h3, h4, h5.F ht⟩) h5.2.2 hd hlk
/-- a row may be put under another name -/
theorem J.toI {x y : Int32} {st : List Value} (h : x = y) (k : J K cc E kc ks w pc lv (.int y :: st)) : J K cc E kc ks w pc lv (.int x :: st) := h ▸ k
theorem J.toL {x y : Int64} {st : List Value} (h : x = y) (k : J K cc E kc ks w pc lv (.long y :: st)) : J K cc E kc ks w pc lv (.long x :: st) := h ▸ k
theorem J.nmI {x : Int32} {st : List Value} (k : ∀ y : Int32, y = x → J K cc E kc ks w pc lv (.int y :: st)) : J K cc E kc ks w pc lv (.int x :: st) := k x rfl
theorem J.nmL {x : Int64} {st : List Value} (k : ∀ y : Int64, y = x → J K cc E kc ks w pc lv (.long y :: st)) : J K cc E kc ks w pc lv (.long x :: st) := k x rfl
theorem J.nmW {st : List Value} (k : ∀ w' : Wd, w' = w → J K cc E kc ks w' pc lv st) : J K cc E kc ks w pc lv st := k w rfl
theorem J.less (hkc : kc' ≤ kc) (hks : ks' ≤ ks) (k : J K cc E kc' ks' w pc lv rest) : J K cc E kc ks w pc lv rest := by
  obtain ⟨p, e, R, s, m, args, below, meth, c, Q⟩ := E
  intro H locs cells slots ls h1 h2 h3 h4 h5 h6
  exact k H locs cells slots ls (by omega) (by omega) h3 h4 h5 h6
end JC
end
section
theorem gt {i : Nat} {w : Cond} (h : tables_1[i]? = some w) (hg : goodWord w = true) : w ∈ gtbl := List.mem_filter.mpr ⟨List.mem_append_right _ (List.mem_of_getElem? h), hg⟩
theorem gtp {i : Nat} {w : Cond} (h : (k2_sels lw_privs)[i]? = some w) (hg : goodWord w = true) : w ∈ gtbl := List.mem_filter.mpr ⟨List.mem_append_left _ (List.mem_of_getElem? h), hg⟩
theorem gta {ws : List Cond} (ps : List Nat) (h : ws.map some = ps.map (fun i => tables_1[i]?)) (hg : ws.all goodWord = true) : ∀ w ∈ ws, w ∈ gtbl := by
  intro w hw
  have h1 : some w ∈ ws.map some := List.mem_map.mpr ⟨w, hw, rfl⟩
  rw [h] at h1
  obtain ⟨i, -, hi⟩ := List.mem_map.mp h1
  exact gt hi (List.all_eq_true.mp hg w hw)
theorem cfJx4a65c : CF 0 RJx4a65c TJx4a65c 3 tyJx4a65c := ⟨rfl, gta [52, 48, 50] (by decide +kernel) (by decide +kernel), tyJx4a65c_ok, nmJx4a65c⟩
theorem cfX0 : CF 1 RX0 TX0 3 tyX0 := ⟨rfl, gta [331, 333, 335] (by decide +kernel) (by decide +kernel), tyX0_ok, nmX0⟩
theorem cfX1 : CF 2 RX1 TX1 2 tyX1 := ⟨rfl, gta [551, 553] (by decide +kernel) (by decide +kernel), tyX1_ok, nmX1⟩
theorem cfX2 : CF 3 RX2 TX2 3 tyX2 := ⟨rfl, gta [386, 388, 390] (by decide +kernel) (by decide +kernel), tyX2_ok, nmX2⟩
theorem cfX3 : CF 4 RX3 TX3 3 tyX3 := ⟨rfl, gta [410, 412, 414] (by decide +kernel) (by decide +kernel), tyX3_ok, nmX3⟩
theorem cfX4 : CF 5 RX4 TX4 10 tyX4 := ⟨rfl, gta [75, 77, 79, 81, 83, 85, 87, 89, 91, 93] (by decide +kernel) (by decide +kernel), tyX4_ok, nmX4⟩
theorem cfX5 : CF 6 RX5 TX5 8 tyX5 := ⟨rfl, gta [187, 189, 191, 193, 195, 197, 199, 201] (by decide +kernel) (by decide +kernel), tyX5_ok, nmX5⟩
theorem cfX6 : CF 7 RX6 TX6 7 tyX6 := ⟨rfl, gta [587, 589, 591, 593, 595, 597, 599] (by decide +kernel) (by decide +kernel), tyX6_ok, nmX6⟩
theorem cfX7 : CF 8 RX7 TX7 7 tyX7 := ⟨rfl, gta [302, 304, 306, 308, 310, 312, 314] (by decide +kernel) (by decide +kernel), tyX7_ok, nmX7⟩
theorem cfX8 : CF 9 RX8 TX8 6 tyX8 := ⟨rfl, gta [359, 361, 363, 365, 367, 369] (by decide +kernel) (by decide +kernel), tyX8_ok, nmX8⟩
theorem cfX9 : CF 10 RX9 TX9 14 tyX9 := ⟨rfl, gta [118, 120, 122, 124, 126, 128, 130, 132, 134, 136, 138, 140, 142, 144] (by decide +kernel) (by decide +kernel), tyX9_ok, nmX9⟩
theorem cfX10 : CF 11 RX10 TX10 59 tyX10 := ⟨rfl, gta [740, 742, 744, 746, 748, 750, 752, 754, 756, 758, 760, 762, 764, 766, 768, 770, 772, 774, 776, 778, 780, 782, 784, 786, 788, 790, 792, 794, 796, 798, 800, 802, 804, 806, 808, 810, 812, 814, 816, 818, 820, 822, 824, 826, 828, 830, 832, 834, 836, 838, 840, 842, 844, 846, 848, 850, 852, 854, 856] (by decide +kernel) (by decide +kernel), tyX10_ok, nmX10⟩
theorem fJx4a65c_9 : Cond.fieldLink RJx4a65c 9 (TJx4a65c 1).1 (TJx4a65c 1).2.1 (TJx4a65c 1).2.2.1 ∈ gtbl := gt (i := 43) (by decide +kernel) rfl
theorem fJx4a65c_48 : Cond.fieldLink RJx4a65c 48 (TJx4a65c 2).1 (TJx4a65c 2).2.1 (TJx4a65c 2).2.2.1 ∈ gtbl := gt (i := 44) (by decide +kernel) rfl
theorem fJxc12de_7 : Cond.fieldLink RJxc12de 7 (TJx4a65c 0).1 (TJx4a65c 0).2.1 (TJx4a65c 0).2.2.1 ∈ gtbl := gt (i := 45) (by decide +kernel) rfl
theorem fJx4a65c_63 : Cond.fieldLink RJx4a65c 63 "java/util/ArrayList" (TJx4a65c 0).2.1 (TJx4a65c 0).2.2.1 ∈ gtbl := gt (i := 46) (by decide +kernel) rfl
theorem fX4_12 : Cond.fieldLink RX4 12 (TX4 0).1 (TX4 0).2.1 (TX4 0).2.2.1 ∈ gtbl := gt (i := 63) (by decide +kernel) rfl
theorem fX9_196 : Cond.fieldLink RX9 196 (TX4 0).1 (TX4 0).2.1 (TX4 0).2.2.1 ∈ gtbl := gt (i := 64) (by decide +kernel) rfl
theorem fX4_18 : Cond.fieldLink RX4 18 (TX4 1).1 (TX4 1).2.1 (TX4 1).2.2.1 ∈ gtbl := gt (i := 65) (by decide +kernel) rfl
theorem fX4_21 : Cond.fieldLink RX4 21 (TX4 2).1 (TX4 2).2.1 (TX4 2).2.2.1 ∈ gtbl := gt (i := 66) (by decide +kernel) rfl
theorem fX4_56 : Cond.fieldLink RX4 56 (TX4 3).1 (TX4 3).2.1 (TX4 3).2.2.1 ∈ gtbl := gt (i := 67) (by decide +kernel) rfl
theorem fX9_199 : Cond.fieldLink RX9 199 (TX4 3).1 (TX4 3).2.1 (TX4 3).2.2.1 ∈ gtbl := gt (i := 68) (by decide +kernel) rfl
theorem fX4_59 : Cond.fieldLink RX4 59 (TX4 4).1 (TX4 4).2.1 (TX4 4).2.2.1 ∈ gtbl := gt (i := 69) (by decide +kernel) rfl
theorem fX4_46 : Cond.fieldLink RX4 46 (TX4 5).1 (TX4 5).2.1 (TX4 5).2.2.1 ∈ gtbl := gt (i := 70) (by decide +kernel) rfl
theorem fX4_50 : Cond.fieldLink RX4 50 (TX4 6).1 (TX4 6).2.1 (TX4 6).2.2.1 ∈ gtbl := gt (i := 71) (by decide +kernel) rfl
theorem fX4_53 : Cond.fieldLink RX4 53 (TX4 7).1 (TX4 7).2.1 (TX4 7).2.2.1 ∈ gtbl := gt (i := 72) (by decide +kernel) rfl
theorem fX4_76 : Cond.fieldLink RX4 76 (TX4 8).1 (TX4 8).2.1 (TX4 8).2.2.1 ∈ gtbl := gt (i := 73) (by decide +kernel) rfl
theorem fX4_79 : Cond.fieldLink RX4 79 (TX4 9).1 (TX4 9).2.1 (TX4 9).2.2.1 ∈ gtbl := gt (i := 74) (by decide +kernel) rfl
theorem fX9_55 : Cond.fieldLink RX9 55 (TX9 0).1 (TX9 0).2.1 (TX9 0).2.2.1 ∈ gtbl := gt (i := 104) (by decide +kernel) rfl
theorem fX9_10 : Cond.fieldLink RX9 10 (TX9 1).1 (TX9 1).2.1 (TX9 1).2.2.1 ∈ gtbl := gt (i := 105) (by decide +kernel) rfl
theorem fX9_16 : Cond.fieldLink RX9 16 (TX9 2).1 (TX9 2).2.1 (TX9 2).2.2.1 ∈ gtbl := gt (i := 106) (by decide +kernel) rfl
theorem fX9_19 : Cond.fieldLink RX9 19 (TX9 3).1 (TX9 3).2.1 (TX9 3).2.2.1 ∈ gtbl := gt (i := 107) (by decide +kernel) rfl
theorem fX9_22 : Cond.fieldLink RX9 22 (TX9 4).1 (TX9 4).2.1 (TX9 4).2.2.1 ∈ gtbl := gt (i := 108) (by decide +kernel) rfl
theorem fX9_25 : Cond.fieldLink RX9 25 (TX9 5).1 (TX9 5).2.1 (TX9 5).2.2.1 ∈ gtbl := gt (i := 109) (by decide +kernel) rfl
theorem fX9_28 : Cond.fieldLink RX9 28 (TX9 6).1 (TX9 6).2.1 (TX9 6).2.2.1 ∈ gtbl := gt (i := 110) (by decide +kernel) rfl
theorem fX9_31 : Cond.fieldLink RX9 31 (TX9 7).1 (TX9 7).2.1 (TX9 7).2.2.1 ∈ gtbl := gt (i := 111) (by decide +kernel) rfl
theorem fX9_35 : Cond.fieldLink RX9 35 (TX9 8).1 (TX9 8).2.1 (TX9 8).2.2.1 ∈ gtbl := gt (i := 112) (by decide +kernel) rfl
theorem fX9_42 : Cond.fieldLink RX9 42 (TX9 9).1 (TX9 9).2.1 (TX9 9).2.2.1 ∈ gtbl := gt (i := 113) (by decide +kernel) rfl
theorem fX9_123 : Cond.fieldLink RX9 123 (TX9 10).1 (TX9 10).2.1 (TX9 10).2.2.1 ∈ gtbl := gt (i := 114) (by decide +kernel) rfl
theorem fX9_163 : Cond.fieldLink RX9 163 (TX9 11).1 (TX9 11).2.1 (TX9 11).2.2.1 ∈ gtbl := gt (i := 115) (by decide +kernel) rfl
theorem fX9_172 : Cond.fieldLink RX9 172 (TX9 12).1 (TX9 12).2.1 (TX9 12).2.2.1 ∈ gtbl := gt (i := 116) (by decide +kernel) rfl
theorem fX9_175 : Cond.fieldLink RX9 175 (TX9 13).1 (TX9 13).2.1 (TX9 13).2.2.1 ∈ gtbl := gt (i := 117) (by decide +kernel) rfl
theorem fX5_15 : Cond.fieldLink RX5 15 (TX5 0).1 (TX5 0).2.1 (TX5 0).2.2.1 ∈ gtbl := gt (i := 169) (by decide +kernel) rfl
theorem fX2_13 : Cond.fieldLink RX2 13 (TX5 1).1 (TX5 1).2.1 (TX5 1).2.2.1 ∈ gtbl := gt (i := 170) (by decide +kernel) rfl
theorem fX5_18 : Cond.fieldLink RX5 18 (TX5 1).1 (TX5 1).2.1 (TX5 1).2.2.1 ∈ gtbl := gt (i := 171) (by decide +kernel) rfl
theorem fX5_21 : Cond.fieldLink RX5 21 (TX5 2).1 (TX5 2).2.1 (TX5 2).2.2.1 ∈ gtbl := gt (i := 172) (by decide +kernel) rfl
theorem fX3_20 : Cond.fieldLink RX3 20 (TX5 2).1 (TX5 2).2.1 (TX5 2).2.2.1 ∈ gtbl := gt (i := 173) (by decide +kernel) rfl
theorem fX5_25 : Cond.fieldLink RX5 25 (TX5 3).1 (TX5 3).2.1 (TX5 3).2.2.1 ∈ gtbl := gt (i := 174) (by decide +kernel) rfl
theorem fX2_26 : Cond.fieldLink RX2 26 (TX5 3).1 (TX5 3).2.1 (TX5 3).2.2.1 ∈ gtbl := gt (i := 175) (by decide +kernel) rfl
theorem fX3_26 : Cond.fieldLink RX3 26 (TX5 3).1 (TX5 3).2.1 (TX5 3).2.2.1 ∈ gtbl := gt (i := 176) (by decide +kernel) rfl
theorem fX0_24 : Cond.fieldLink RX0 24 (TX5 3).1 (TX5 3).2.1 (TX5 3).2.2.1 ∈ gtbl := gt (i := 177) (by decide +kernel) rfl
theorem fX9_132 : Cond.fieldLink RX9 132 (TX5 3).1 (TX5 3).2.1 (TX5 3).2.2.1 ∈ gtbl := gt (i := 178) (by decide +kernel) rfl
theorem fX7_28 : Cond.fieldLink RX7 28 (TX5 4).1 (TX5 4).2.1 (TX5 4).2.2.1 ∈ gtbl := gt (i := 179) (by decide +kernel) rfl
theorem fX5_32 : Cond.fieldLink RX5 32 (TX5 4).1 (TX5 4).2.1 (TX5 4).2.2.1 ∈ gtbl := gt (i := 180) (by decide +kernel) rfl
theorem fX5_44 : Cond.fieldLink RX5 44 (TX5 5).1 (TX5 5).2.1 (TX5 5).2.2.1 ∈ gtbl := gt (i := 181) (by decide +kernel) rfl
theorem fX9_140 : Cond.fieldLink RX9 140 (TX5 5).1 (TX5 5).2.1 (TX5 5).2.2.1 ∈ gtbl := gt (i := 182) (by decide +kernel) rfl
theorem fX2_38 : Cond.fieldLink RX2 38 (TX5 6).1 (TX5 6).2.1 (TX5 6).2.2.1 ∈ gtbl := gt (i := 183) (by decide +kernel) rfl
theorem fX9_143 : Cond.fieldLink RX9 143 (TX5 6).1 (TX5 6).2.1 (TX5 6).2.2.1 ∈ gtbl := gt (i := 184) (by decide +kernel) rfl
theorem fX5_9 : Cond.fieldLink RX5 9 (TX5 7).1 (TX5 7).2.1 (TX5 7).2.2.1 ∈ gtbl := gt (i := 185) (by decide +kernel) rfl
theorem fX9_120 : Cond.fieldLink RX9 120 (TX5 7).1 (TX5 7).2.1 (TX5 7).2.2.1 ∈ gtbl := gt (i := 186) (by decide +kernel) rfl
theorem fX7_7 : Cond.fieldLink RX7 7 (TX7 0).1 (TX7 0).2.1 (TX7 0).2.2.1 ∈ gtbl := gt (i := 292) (by decide +kernel) rfl
theorem fX7_13 : Cond.fieldLink RX7 13 (TX7 1).1 (TX7 1).2.1 (TX7 1).2.2.1 ∈ gtbl := gt (i := 293) (by decide +kernel) rfl
theorem fX7_16 : Cond.fieldLink RX7 16 (TX7 2).1 (TX7 2).2.1 (TX7 2).2.2.1 ∈ gtbl := gt (i := 294) (by decide +kernel) rfl
theorem fX7_22 : Cond.fieldLink RX7 22 (TX7 3).1 (TX7 3).2.1 (TX7 3).2.2.1 ∈ gtbl := gt (i := 295) (by decide +kernel) rfl
theorem fX7_25 : Cond.fieldLink RX7 25 (TX7 4).1 (TX7 4).2.1 (TX7 4).2.2.1 ∈ gtbl := gt (i := 296) (by decide +kernel) rfl
theorem fX9_154 : Cond.fieldLink RX9 154 (TX7 4).1 (TX7 4).2.1 (TX7 4).2.2.1 ∈ gtbl := gt (i := 297) (by decide +kernel) rfl
theorem fX7_37 : Cond.fieldLink RX7 37 (TX7 5).1 (TX7 5).2.1 (TX7 5).2.2.1 ∈ gtbl := gt (i := 298) (by decide +kernel) rfl
theorem fX9_148 : Cond.fieldLink RX9 148 (TX7 5).1 (TX7 5).2.1 (TX7 5).2.2.1 ∈ gtbl := gt (i := 299) (by decide +kernel) rfl
theorem fX7_40 : Cond.fieldLink RX7 40 (TX7 6).1 (TX7 6).2.1 (TX7 6).2.2.1 ∈ gtbl := gt (i := 300) (by decide +kernel) rfl
theorem fX9_151 : Cond.fieldLink RX9 151 (TX7 6).1 (TX7 6).2.1 (TX7 6).2.2.1 ∈ gtbl := gt (i := 301) (by decide +kernel) rfl
theorem fX0_9 : Cond.fieldLink RX0 9 (TX0 0).1 (TX0 0).2.1 (TX0 0).2.2.1 ∈ gtbl := gt (i := 328) (by decide +kernel) rfl
theorem fX0_15 : Cond.fieldLink RX0 15 (TX0 1).1 (TX0 1).2.1 (TX0 1).2.2.1 ∈ gtbl := gt (i := 329) (by decide +kernel) rfl
theorem fX0_19 : Cond.fieldLink RX0 19 (TX0 2).1 (TX0 2).2.1 (TX0 2).2.2.1 ∈ gtbl := gt (i := 330) (by decide +kernel) rfl
theorem fX8_7 : Cond.fieldLink RX8 7 (TX8 0).1 (TX8 0).2.1 (TX8 0).2.2.1 ∈ gtbl := gt (i := 352) (by decide +kernel) rfl
theorem fX8_13 : Cond.fieldLink RX8 13 (TX8 1).1 (TX8 1).2.1 (TX8 1).2.2.1 ∈ gtbl := gt (i := 353) (by decide +kernel) rfl
theorem fX8_16 : Cond.fieldLink RX8 16 (TX8 2).1 (TX8 2).2.1 (TX8 2).2.2.1 ∈ gtbl := gt (i := 354) (by decide +kernel) rfl
theorem fX8_20 : Cond.fieldLink RX8 20 (TX8 3).1 (TX8 3).2.1 (TX8 3).2.2.1 ∈ gtbl := gt (i := 355) (by decide +kernel) rfl
theorem fX8_23 : Cond.fieldLink RX8 23 (TX8 4).1 (TX8 4).2.1 (TX8 4).2.2.1 ∈ gtbl := gt (i := 356) (by decide +kernel) rfl
theorem fX8_32 : Cond.fieldLink RX8 32 (TX8 5).1 (TX8 5).2.1 (TX8 5).2.2.1 ∈ gtbl := gt (i := 357) (by decide +kernel) rfl
theorem fX9_159 : Cond.fieldLink RX9 159 (TX8 5).1 (TX8 5).2.1 (TX8 5).2.2.1 ∈ gtbl := gt (i := 358) (by decide +kernel) rfl
theorem fX2_7 : Cond.fieldLink RX2 7 (TX2 0).1 (TX2 0).2.1 (TX2 0).2.2.1 ∈ gtbl := gt (i := 383) (by decide +kernel) rfl
theorem fX2_19 : Cond.fieldLink RX2 19 (TX2 1).1 (TX2 1).2.1 (TX2 1).2.2.1 ∈ gtbl := gt (i := 384) (by decide +kernel) rfl
theorem fX2_23 : Cond.fieldLink RX2 23 (TX2 2).1 (TX2 2).2.1 (TX2 2).2.2.1 ∈ gtbl := gt (i := 385) (by decide +kernel) rfl
theorem fX3_7 : Cond.fieldLink RX3 7 (TX3 0).1 (TX3 0).2.1 (TX3 0).2.2.1 ∈ gtbl := gt (i := 406) (by decide +kernel) rfl
theorem fX9_231 : Cond.fieldLink RX9 231 (TX3 0).1 (TX3 0).2.1 (TX3 0).2.2.1 ∈ gtbl := gt (i := 407) (by decide +kernel) rfl
theorem fX3_13 : Cond.fieldLink RX3 13 (TX3 1).1 (TX3 1).2.1 (TX3 1).2.2.1 ∈ gtbl := gt (i := 408) (by decide +kernel) rfl
theorem fX3_17 : Cond.fieldLink RX3 17 (TX3 2).1 (TX3 2).2.1 (TX3 2).2.2.1 ∈ gtbl := gt (i := 409) (by decide +kernel) rfl
theorem fX1_7 : Cond.fieldLink RX1 7 (TX1 0).1 (TX1 0).2.1 (TX1 0).2.2.1 ∈ gtbl := gt (i := 547) (by decide +kernel) rfl
theorem fX4_35 : Cond.fieldLink RX4 35 (TX1 0).1 (TX1 0).2.1 (TX1 0).2.2.1 ∈ gtbl := gt (i := 548) (by decide +kernel) rfl
theorem fX1_13 : Cond.fieldLink RX1 13 (TX1 1).1 (TX1 1).2.1 (TX1 1).2.2.1 ∈ gtbl := gt (i := 549) (by decide +kernel) rfl
theorem fX4_140 : Cond.fieldLink RX4 140 (TX1 1).1 (TX1 1).2.1 (TX1 1).2.2.1 ∈ gtbl := gt (i := 550) (by decide +kernel) rfl
theorem fX6_9 : Cond.fieldLink RX6 9 (TX6 0).1 (TX6 0).2.1 (TX6 0).2.2.1 ∈ gtbl := gt (i := 579) (by decide +kernel) rfl
theorem fX4_91 : Cond.fieldLink RX4 91 (TX6 0).1 (TX6 0).2.1 (TX6 0).2.2.1 ∈ gtbl := gt (i := 580) (by decide +kernel) rfl
theorem fX4_67 : Cond.fieldLink RX4 67 (TX6 1).1 (TX6 1).2.1 (TX6 1).2.2.1 ∈ gtbl := gt (i := 581) (by decide +kernel) rfl
theorem fX4_68 : Cond.fieldLink RX4 68 (TX6 2).1 (TX6 2).2.1 (TX6 2).2.2.1 ∈ gtbl := gt (i := 582) (by decide +kernel) rfl
theorem fX4_71 : Cond.fieldLink RX4 71 (TX6 3).1 (TX6 3).2.1 (TX6 3).2.2.1 ∈ gtbl := gt (i := 583) (by decide +kernel) rfl
theorem fX4_104 : Cond.fieldLink RX4 104 (TX6 4).1 (TX6 4).2.1 (TX6 4).2.2.1 ∈ gtbl := gt (i := 584) (by decide +kernel) rfl
theorem fX4_107 : Cond.fieldLink RX4 107 (TX6 5).1 (TX6 5).2.1 (TX6 5).2.2.1 ∈ gtbl := gt (i := 585) (by decide +kernel) rfl
theorem fX4_110 : Cond.fieldLink RX4 110 (TX6 6).1 (TX6 6).2.1 (TX6 6).2.2.1 ∈ gtbl := gt (i := 586) (by decide +kernel) rfl
theorem fX10_138 : Cond.fieldLink RX10 138 (TX10 0).1 (TX10 0).2.1 (TX10 0).2.2.1 ∈ gtbl := gt (i := 681) (by decide +kernel) rfl
theorem fX10_142 : Cond.fieldLink RX10 142 (TX10 1).1 (TX10 1).2.1 (TX10 1).2.2.1 ∈ gtbl := gt (i := 682) (by decide +kernel) rfl
theorem fX10_7 : Cond.fieldLink RX10 7 (TX10 2).1 (TX10 2).2.1 (TX10 2).2.2.1 ∈ gtbl := gt (i := 683) (by decide +kernel) rfl
theorem fX10_13 : Cond.fieldLink RX10 13 (TX10 3).1 (TX10 3).2.1 (TX10 3).2.2.1 ∈ gtbl := gt (i := 684) (by decide +kernel) rfl
theorem fX10_16 : Cond.fieldLink RX10 16 (TX10 4).1 (TX10 4).2.1 (TX10 4).2.2.1 ∈ gtbl := gt (i := 685) (by decide +kernel) rfl
theorem fX10_19 : Cond.fieldLink RX10 19 (TX10 5).1 (TX10 5).2.1 (TX10 5).2.2.1 ∈ gtbl := gt (i := 686) (by decide +kernel) rfl
theorem fX10_22 : Cond.fieldLink RX10 22 (TX10 6).1 (TX10 6).2.1 (TX10 6).2.2.1 ∈ gtbl := gt (i := 687) (by decide +kernel) rfl
theorem fX10_26 : Cond.fieldLink RX10 26 (TX10 7).1 (TX10 7).2.1 (TX10 7).2.2.1 ∈ gtbl := gt (i := 688) (by decide +kernel) rfl
theorem fX10_29 : Cond.fieldLink RX10 29 (TX10 8).1 (TX10 8).2.1 (TX10 8).2.2.1 ∈ gtbl := gt (i := 689) (by decide +kernel) rfl
theorem fX10_32 : Cond.fieldLink RX10 32 (TX10 9).1 (TX10 9).2.1 (TX10 9).2.2.1 ∈ gtbl := gt (i := 690) (by decide +kernel) rfl
theorem fX10_151 : Cond.fieldLink RX10 151 (TX10 10).1 (TX10 10).2.1 (TX10 10).2.2.1 ∈ gtbl := gt (i := 691) (by decide +kernel) rfl
theorem fX10_35 : Cond.fieldLink RX10 35 (TX10 11).1 (TX10 11).2.1 (TX10 11).2.2.1 ∈ gtbl := gt (i := 692) (by decide +kernel) rfl
theorem fX10_38 : Cond.fieldLink RX10 38 (TX10 12).1 (TX10 12).2.1 (TX10 12).2.2.1 ∈ gtbl := gt (i := 693) (by decide +kernel) rfl
theorem fX10_41 : Cond.fieldLink RX10 41 (TX10 13).1 (TX10 13).2.1 (TX10 13).2.2.1 ∈ gtbl := gt (i := 694) (by decide +kernel) rfl
theorem fX10_44 : Cond.fieldLink RX10 44 (TX10 14).1 (TX10 14).2.1 (TX10 14).2.2.1 ∈ gtbl := gt (i := 695) (by decide +kernel) rfl
theorem fX10_47 : Cond.fieldLink RX10 47 (TX10 15).1 (TX10 15).2.1 (TX10 15).2.2.1 ∈ gtbl := gt (i := 696) (by decide +kernel) rfl
theorem fX10_50 : Cond.fieldLink RX10 50 (TX10 16).1 (TX10 16).2.1 (TX10 16).2.2.1 ∈ gtbl := gt (i := 697) (by decide +kernel) rfl
theorem fX10_53 : Cond.fieldLink RX10 53 (TX10 17).1 (TX10 17).2.1 (TX10 17).2.2.1 ∈ gtbl := gt (i := 698) (by decide +kernel) rfl
theorem fX10_158 : Cond.fieldLink RX10 158 (TX10 18).1 (TX10 18).2.1 (TX10 18).2.2.1 ∈ gtbl := gt (i := 699) (by decide +kernel) rfl
theorem fX10_56 : Cond.fieldLink RX10 56 (TX10 19).1 (TX10 19).2.1 (TX10 19).2.2.1 ∈ gtbl := gt (i := 700) (by decide +kernel) rfl
theorem fX10_59 : Cond.fieldLink RX10 59 (TX10 20).1 (TX10 20).2.1 (TX10 20).2.2.1 ∈ gtbl := gt (i := 701) (by decide +kernel) rfl
theorem fX10_62 : Cond.fieldLink RX10 62 (TX10 21).1 (TX10 21).2.1 (TX10 21).2.2.1 ∈ gtbl := gt (i := 702) (by decide +kernel) rfl
theorem fX10_65 : Cond.fieldLink RX10 65 (TX10 22).1 (TX10 22).2.1 (TX10 22).2.2.1 ∈ gtbl := gt (i := 703) (by decide +kernel) rfl
theorem fX10_68 : Cond.fieldLink RX10 68 (TX10 23).1 (TX10 23).2.1 (TX10 23).2.2.1 ∈ gtbl := gt (i := 704) (by decide +kernel) rfl
theorem fX10_162 : Cond.fieldLink RX10 162 (TX10 24).1 (TX10 24).2.1 (TX10 24).2.2.1 ∈ gtbl := gt (i := 705) (by decide +kernel) rfl
theorem fX10_71 : Cond.fieldLink RX10 71 (TX10 25).1 (TX10 25).2.1 (TX10 25).2.2.1 ∈ gtbl := gt (i := 706) (by decide +kernel) rfl
theorem fX10_74 : Cond.fieldLink RX10 74 (TX10 26).1 (TX10 26).2.1 (TX10 26).2.2.1 ∈ gtbl := gt (i := 707) (by decide +kernel) rfl
theorem fX10_77 : Cond.fieldLink RX10 77 (TX10 27).1 (TX10 27).2.1 (TX10 27).2.2.1 ∈ gtbl := gt (i := 708) (by decide +kernel) rfl
theorem fX10_80 : Cond.fieldLink RX10 80 (TX10 28).1 (TX10 28).2.1 (TX10 28).2.2.1 ∈ gtbl := gt (i := 709) (by decide +kernel) rfl
theorem fX10_83 : Cond.fieldLink RX10 83 (TX10 29).1 (TX10 29).2.1 (TX10 29).2.2.1 ∈ gtbl := gt (i := 710) (by decide +kernel) rfl
theorem fX10_86 : Cond.fieldLink RX10 86 (TX10 30).1 (TX10 30).2.1 (TX10 30).2.2.1 ∈ gtbl := gt (i := 711) (by decide +kernel) rfl
theorem fX10_165 : Cond.fieldLink RX10 165 (TX10 31).1 (TX10 31).2.1 (TX10 31).2.2.1 ∈ gtbl := gt (i := 712) (by decide +kernel) rfl
theorem fX10_90 : Cond.fieldLink RX10 90 (TX10 32).1 (TX10 32).2.1 (TX10 32).2.2.1 ∈ gtbl := gt (i := 713) (by decide +kernel) rfl
theorem fX10_93 : Cond.fieldLink RX10 93 (TX10 33).1 (TX10 33).2.1 (TX10 33).2.2.1 ∈ gtbl := gt (i := 714) (by decide +kernel) rfl
theorem fX10_96 : Cond.fieldLink RX10 96 (TX10 34).1 (TX10 34).2.1 (TX10 34).2.2.1 ∈ gtbl := gt (i := 715) (by decide +kernel) rfl
theorem fX10_169 : Cond.fieldLink RX10 169 (TX10 35).1 (TX10 35).2.1 (TX10 35).2.2.1 ∈ gtbl := gt (i := 716) (by decide +kernel) rfl
theorem fX10_99 : Cond.fieldLink RX10 99 (TX10 36).1 (TX10 36).2.1 (TX10 36).2.2.1 ∈ gtbl := gt (i := 717) (by decide +kernel) rfl
theorem fX10_102 : Cond.fieldLink RX10 102 (TX10 37).1 (TX10 37).2.1 (TX10 37).2.2.1 ∈ gtbl := gt (i := 718) (by decide +kernel) rfl
theorem fX10_105 : Cond.fieldLink RX10 105 (TX10 38).1 (TX10 38).2.1 (TX10 38).2.2.1 ∈ gtbl := gt (i := 719) (by decide +kernel) rfl
theorem fX10_108 : Cond.fieldLink RX10 108 (TX10 39).1 (TX10 39).2.1 (TX10 39).2.2.1 ∈ gtbl := gt (i := 720) (by decide +kernel) rfl
theorem fX10_197 : Cond.fieldLink RX10 197 (TX10 40).1 (TX10 40).2.1 (TX10 40).2.2.1 ∈ gtbl := gt (i := 721) (by decide +kernel) rfl
theorem fX10_174 : Cond.fieldLink RX10 174 (TX10 41).1 (TX10 41).2.1 (TX10 41).2.2.1 ∈ gtbl := gt (i := 722) (by decide +kernel) rfl
theorem fX10_188 : Cond.fieldLink RX10 188 (TX10 42).1 (TX10 42).2.1 (TX10 42).2.2.1 ∈ gtbl := gt (i := 723) (by decide +kernel) rfl
theorem fX10_194 : Cond.fieldLink RX10 194 (TX10 43).1 (TX10 43).2.1 (TX10 43).2.2.1 ∈ gtbl := gt (i := 724) (by decide +kernel) rfl
theorem fX10_234 : Cond.fieldLink RX10 234 (TX10 44).1 (TX10 44).2.1 (TX10 44).2.2.1 ∈ gtbl := gt (i := 725) (by decide +kernel) rfl
theorem fX10_111 : Cond.fieldLink RX10 111 (TX10 45).1 (TX10 45).2.1 (TX10 45).2.2.1 ∈ gtbl := gt (i := 726) (by decide +kernel) rfl
theorem fX10_114 : Cond.fieldLink RX10 114 (TX10 46).1 (TX10 46).2.1 (TX10 46).2.2.1 ∈ gtbl := gt (i := 727) (by decide +kernel) rfl
theorem fX10_241 : Cond.fieldLink RX10 241 (TX10 47).1 (TX10 47).2.1 (TX10 47).2.2.1 ∈ gtbl := gt (i := 728) (by decide +kernel) rfl
theorem fX10_244 : Cond.fieldLink RX10 244 (TX10 48).1 (TX10 48).2.1 (TX10 48).2.2.1 ∈ gtbl := gt (i := 729) (by decide +kernel) rfl
theorem fX10_247 : Cond.fieldLink RX10 247 (TX10 49).1 (TX10 49).2.1 (TX10 49).2.2.1 ∈ gtbl := gt (i := 730) (by decide +kernel) rfl
theorem fX10_250 : Cond.fieldLink RX10 250 (TX10 50).1 (TX10 50).2.1 (TX10 50).2.2.1 ∈ gtbl := gt (i := 731) (by decide +kernel) rfl
theorem fX10_117 : Cond.fieldLink RX10 117 (TX10 51).1 (TX10 51).2.1 (TX10 51).2.2.1 ∈ gtbl := gt (i := 732) (by decide +kernel) rfl
theorem fX10_120 : Cond.fieldLink RX10 120 (TX10 52).1 (TX10 52).2.1 (TX10 52).2.2.1 ∈ gtbl := gt (i := 733) (by decide +kernel) rfl
theorem fX10_123 : Cond.fieldLink RX10 123 (TX10 53).1 (TX10 53).2.1 (TX10 53).2.2.1 ∈ gtbl := gt (i := 734) (by decide +kernel) rfl
theorem fX10_126 : Cond.fieldLink RX10 126 (TX10 54).1 (TX10 54).2.1 (TX10 54).2.2.1 ∈ gtbl := gt (i := 735) (by decide +kernel) rfl
theorem fX10_237 : Cond.fieldLink RX10 237 (TX10 55).1 (TX10 55).2.1 (TX10 55).2.2.1 ∈ gtbl := gt (i := 736) (by decide +kernel) rfl
theorem fX10_129 : Cond.fieldLink RX10 129 (TX10 56).1 (TX10 56).2.1 (TX10 56).2.2.1 ∈ gtbl := gt (i := 737) (by decide +kernel) rfl
theorem fX10_132 : Cond.fieldLink RX10 132 (TX10 57).1 (TX10 57).2.1 (TX10 57).2.2.1 ∈ gtbl := gt (i := 738) (by decide +kernel) rfl
theorem fX10_135 : Cond.fieldLink RX10 135 (TX10 58).1 (TX10 58).2.1 (TX10 58).2.2.1 ∈ gtbl := gt (i := 739) (by decide +kernel) rfl
theorem lL_15 : Cond.methodLink RL 15 yX9_init ∈ gtbl := gt (i := 23) (by decide +kernel) rfl
theorem lX9_1 : Cond.methodLink RX9 1 objectInit ∈ gtbl := gt (i := 26) (by decide +kernel) rfl
theorem lX9_9 : Cond.methodLink RX9 9 yJx4a65c_init_da8c8 ∈ gtbl := gt (i := 31) (by decide +kernel) rfl
theorem lJx4a65c_1 : Cond.methodLink RJx4a65c 1 yJxc12de_init_da8c8 ∈ gtbl := gt (i := 34) (by decide +kernel) rfl
theorem lJxc12de_1 : Cond.methodLink RJxc12de 1 yJxa1e45_init_da8c8 ∈ gtbl := gt (i := 37) (by decide +kernel) rfl
theorem lJxa1e45_1 : Cond.methodLink RJxa1e45 1 objectInit ∈ gtbl := gt (i := 40) (by decide +kernel) rfl
theorem lX4_3 : Cond.methodLink RX4 3 objectInit ∈ gtbl := gt (i := 60) (by decide +kernel) rfl
theorem lX4_11 : Cond.methodLink RX4 11 yJx4a65c_init_da8c8 ∈ gtbl := gt (i := 62) (by decide +kernel) rfl
theorem lX9_46 : Cond.methodLink RX9 46 yJ9_min_7cf53 ∈ gtbl := gt (i := 98) (by decide +kernel) rfl
theorem lX9_52 : Cond.methodLink RX9 52 yJ9_max_7cf53 ∈ gtbl := gt (i := 101) (by decide +kernel) rfl
theorem lL_21 : Cond.methodLink RL 21 yX9_node ∈ gtbl := gt (i := 147) (by decide +kernel) rfl
theorem lX9_59 : Cond.methodLink RX9 59 yJx4a65c_size_8abf5 ∈ gtbl := gt (i := 151) (by decide +kernel) rfl
theorem lX9_63 : Cond.methodLink RX9 63 yX9_isHeight ∈ gtbl := gt (i := 155) (by decide +kernel) rfl
theorem lX9_68 : Cond.methodLink RX9 68 yX9_isWithin ∈ gtbl := gt (i := 160) (by decide +kernel) rfl
theorem lX9_74 : Cond.methodLink RX9 74 yX5_init ∈ gtbl := gt (i := 165) (by decide +kernel) rfl
theorem lX5_3 : Cond.methodLink RX5 3 objectInit ∈ gtbl := gt (i := 168) (by decide +kernel) rfl
theorem lX9_77 : Cond.methodLink RX9 77 yJx4a65c_add_9ea2d ∈ gtbl := gt (i := 204) (by decide +kernel) rfl
theorem lJx4a65c_131 : Cond.methodLink RJx4a65c 131 yJx4a65c_add_72be8 ∈ gtbl := gt (i := 208) (by decide +kernel) rfl
theorem lJx4a65c_129 : Cond.methodLink RJx4a65c 129 yJx4a65c_grow_d5877 ∈ gtbl := gt (i := 212) (by decide +kernel) rfl
theorem lJx4a65c_69 : Cond.methodLink RJx4a65c 69 yJx4a65c_grow_92f84 ∈ gtbl := gt (i := 216) (by decide +kernel) rfl
theorem lJx4a65c_73 : Cond.methodLink RJx4a65c 73 yJ8_newLength_cabcc ∈ gtbl := gt (i := 220) (by decide +kernel) rfl
theorem lJ8_194 : Cond.methodLink RJ8 194 yJ9_max_7cf53 ∈ gtbl := gt (i := 223) (by decide +kernel) rfl
theorem lJ8_201 : Cond.methodLink RJ8 201 yJ8_hugeLength_7cf53 ∈ gtbl := gt (i := 225) (by decide +kernel) rfl
theorem lJx4a65c_66 : Cond.methodLink RJx4a65c 66 yJ7_copyOf_1904c ∈ gtbl := gt (i := 228) (by decide +kernel) rfl
theorem lJ7_300 : Cond.methodLink RJ7 300 yJ7_copyOf_6403c ∈ gtbl := gt (i := 247) (by decide +kernel) rfl
theorem lJ7_304 : Cond.methodLink RJ7 304 yJ9_min_7cf53 ∈ gtbl := gt (i := 253) (by decide +kernel) rfl
theorem lJx4a65c_79 : Cond.methodLink RJx4a65c 79 yJ9_max_7cf53 ∈ gtbl := gt (i := 257) (by decide +kernel) rfl
theorem lL_26 : Cond.methodLink RL 26 yX9_pipe ∈ gtbl := gt (i := 259) (by decide +kernel) rfl
theorem lX9_81 : Cond.methodLink RX9 81 yX9_areTwoNodes ∈ gtbl := gt (i := 263) (by decide +kernel) rfl
theorem lX9_94 : Cond.methodLink RX9 94 yX9_isNode ∈ gtbl := gt (i := 267) (by decide +kernel) rfl
theorem lX9_87 : Cond.methodLink RX9 87 yJx4a65c_get_915e3 ∈ gtbl := gt (i := 273) (by decide +kernel) rfl
theorem lJx4a65c_118 : Cond.methodLink RJx4a65c 118 yJ15_checkIndex_7cf53 ∈ gtbl := gt (i := 277) (by decide +kernel) rfl
theorem lJ15_105 : Cond.methodLink RJ15 105 yJ3_checkIndex_8e157 ∈ gtbl := gt (i := 280) (by decide +kernel) rfl
theorem lJx4a65c_123 : Cond.methodLink RJx4a65c 123 yJx4a65c_elementData_915e3 ∈ gtbl := gt (i := 283) (by decide +kernel) rfl
theorem lX9_91 : Cond.methodLink RX9 91 yX7_init ∈ gtbl := gt (i := 287) (by decide +kernel) rfl
theorem lX7_1 : Cond.methodLink RX7 1 objectInit ∈ gtbl := gt (i := 290) (by decide +kernel) rfl
theorem lL_31 : Cond.methodLink RL 31 yX9_area ∈ gtbl := gt (i := 317) (by decide +kernel) rfl
theorem lX9_100 : Cond.methodLink RX9 100 yX0_init ∈ gtbl := gt (i := 324) (by decide +kernel) rfl
theorem lX0_3 : Cond.methodLink RX0 3 objectInit ∈ gtbl := gt (i := 327) (by decide +kernel) rfl
theorem lL_35 : Cond.methodLink RL 35 yX9_rain ∈ gtbl := gt (i := 338) (by decide +kernel) rfl
theorem lL_40 : Cond.methodLink RL 40 yX9_pump ∈ gtbl := gt (i := 342) (by decide +kernel) rfl
theorem lX9_105 : Cond.methodLink RX9 105 yX8_init ∈ gtbl := gt (i := 348) (by decide +kernel) rfl
theorem lX8_1 : Cond.methodLink RX8 1 objectInit ∈ gtbl := gt (i := 351) (by decide +kernel) rfl
theorem lL_45 : Cond.methodLink RL 45 yX9_gate ∈ gtbl := gt (i := 372) (by decide +kernel) rfl
theorem lX9_111 : Cond.methodLink RX9 111 yX2_init ∈ gtbl := gt (i := 379) (by decide +kernel) rfl
theorem lX2_1 : Cond.methodLink RX2 1 objectInit ∈ gtbl := gt (i := 382) (by decide +kernel) rfl
theorem lL_49 : Cond.methodLink RL 49 yX9_gully ∈ gtbl := gt (i := 393) (by decide +kernel) rfl
theorem lX9_112 : Cond.methodLink RX9 112 yX9_isCell ∈ gtbl := gt (i := 397) (by decide +kernel) rfl
theorem lX9_117 : Cond.methodLink RX9 117 yX3_init ∈ gtbl := gt (i := 402) (by decide +kernel) rfl
theorem lX3_1 : Cond.methodLink RX3 1 objectInit ∈ gtbl := gt (i := 405) (by decide +kernel) rfl
theorem lL_53 : Cond.methodLink RL 53 yX9_street ∈ gtbl := gt (i := 417) (by decide +kernel) rfl
theorem lL_57 : Cond.methodLink RL 57 yX9_run ∈ gtbl := gt (i := 421) (by decide +kernel) rfl
theorem lX9_127 : Cond.methodLink RX9 127 yX9_passSecond ∈ gtbl := gt (i := 426) (by decide +kernel) rfl
theorem lX9_203 : Cond.methodLink RX9 203 yX9_rainOnAreas ∈ gtbl := gt (i := 430) (by decide +kernel) rfl
theorem lX9_221 : Cond.methodLink RX9 221 yX0_takeRain ∈ gtbl := gt (i := 434) (by decide +kernel) rfl
theorem lX9_206 : Cond.methodLink RX9 206 yX9_carryByPipes ∈ gtbl := gt (i := 439) (by decide +kernel) rfl
theorem lX9_225 : Cond.methodLink RX9 225 yX5_markLevel ∈ gtbl := gt (i := 443) (by decide +kernel) rfl
theorem lX5_28 : Cond.methodLink RX5 28 yX5_levelNow ∈ gtbl := gt (i := 447) (by decide +kernel) rfl
theorem lX9_228 : Cond.methodLink RX9 228 yX7_carry ∈ gtbl := gt (i := 451) (by decide +kernel) rfl
theorem lX7_33 : Cond.methodLink RX7 33 yX5_giveTo ∈ gtbl := gt (i := 455) (by decide +kernel) rfl
theorem lX5_35 : Cond.methodLink RX5 35 yJ9_min_f86c9 ∈ gtbl := gt (i := 459) (by decide +kernel) rfl
theorem lX9_209 : Cond.methodLink RX9 209 yX8_lift ∈ gtbl := gt (i := 462) (by decide +kernel) rfl
theorem lX8_26 : Cond.methodLink RX8 26 yX5_levelNow ∈ gtbl := gt (i := 466) (by decide +kernel) rfl
theorem lX8_36 : Cond.methodLink RX8 36 yX5_giveTo ∈ gtbl := gt (i := 467) (by decide +kernel) rfl
theorem lX9_212 : Cond.methodLink RX9 212 yX2_letOut ∈ gtbl := gt (i := 468) (by decide +kernel) rfl
theorem lX2_29 : Cond.methodLink RX2 29 yJ9_min_f86c9 ∈ gtbl := gt (i := 472) (by decide +kernel) rfl
theorem lX2_35 : Cond.methodLink RX2 35 yJ9_max_f86c9 ∈ gtbl := gt (i := 473) (by decide +kernel) rfl
theorem lX9_215 : Cond.methodLink RX9 215 yX9_drainCells ∈ gtbl := gt (i := 476) (by decide +kernel) rfl
theorem lX9_234 : Cond.methodLink RX9 234 yX3_drain ∈ gtbl := gt (i := 480) (by decide +kernel) rfl
theorem lX3_29 : Cond.methodLink RX3 29 yJ9_max_f86c9 ∈ gtbl := gt (i := 484) (by decide +kernel) rfl
theorem lX3_35 : Cond.methodLink RX3 35 yJ9_min_f86c9 ∈ gtbl := gt (i := 485) (by decide +kernel) rfl
theorem lX9_218 : Cond.methodLink RX9 218 yX9_spillNodes ∈ gtbl := gt (i := 486) (by decide +kernel) rfl
theorem lX9_238 : Cond.methodLink RX9 238 yX5_spill ∈ gtbl := gt (i := 490) (by decide +kernel) rfl
theorem lX5_41 : Cond.methodLink RX5 41 yJ9_max_f86c9 ∈ gtbl := gt (i := 494) (by decide +kernel) rfl
theorem lL_62 : Cond.methodLink RL 62 yX9_told ∈ gtbl := gt (i := 495) (by decide +kernel) rfl
theorem lX9_136 : Cond.methodLink RX9 136 yX5_levelNow ∈ gtbl := gt (i := 500) (by decide +kernel) rfl
theorem lL_67 : Cond.methodLink RL 67 yX9_flow ∈ gtbl := gt (i := 501) (by decide +kernel) rfl
theorem lL_71 : Cond.methodLink RL 71 yX9_cell ∈ gtbl := gt (i := 506) (by decide +kernel) rfl
theorem lL_75 : Cond.methodLink RL 75 yX9_pumps ∈ gtbl := gt (i := 511) (by decide +kernel) rfl
theorem lL_79 : Cond.methodLink RL 79 yX9_litres ∈ gtbl := gt (i := 515) (by decide +kernel) rfl
theorem lX9_166 : Cond.methodLink RX9 166 yX9_litresInNodes ∈ gtbl := gt (i := 519) (by decide +kernel) rfl
theorem lX9_169 : Cond.methodLink RX9 169 yX9_litresInCells ∈ gtbl := gt (i := 523) (by decide +kernel) rfl
theorem lL_83 : Cond.methodLink RL 83 yX9_keeps ∈ gtbl := gt (i := 527) (by decide +kernel) rfl
theorem lL_88 : Cond.methodLink RL 88 yX9_list ∈ gtbl := gt (i := 531) (by decide +kernel) rfl
theorem lX9_178 : Cond.methodLink RX9 178 yX4_addEntry ∈ gtbl := gt (i := 535) (by decide +kernel) rfl
theorem lX4_25 : Cond.methodLink RX4 25 yJx4a65c_size_8abf5 ∈ gtbl := gt (i := 539) (by decide +kernel) rfl
theorem lX4_29 : Cond.methodLink RX4 29 yJx4a65c_get_915e3 ∈ gtbl := gt (i := 540) (by decide +kernel) rfl
theorem lX4_39 : Cond.methodLink RX4 39 yX1_init ∈ gtbl := gt (i := 543) (by decide +kernel) rfl
theorem lX1_1 : Cond.methodLink RX1 1 objectInit ∈ gtbl := gt (i := 546) (by decide +kernel) rfl
theorem lX4_42 : Cond.methodLink RX4 42 yJx4a65c_add_9ea2d ∈ gtbl := gt (i := 556) (by decide +kernel) rfl
theorem lL_92 : Cond.methodLink RL 92 yX9_begin ∈ gtbl := gt (i := 557) (by decide +kernel) rfl
theorem lX9_181 : Cond.methodLink RX9 181 yX4_beginAnew ∈ gtbl := gt (i := 561) (by decide +kernel) rfl
theorem lL_97 : Cond.methodLink RL 97 yX9_piece ∈ gtbl := gt (i := 565) (by decide +kernel) rfl
theorem lX9_185 : Cond.methodLink RX9 185 yX4_addPiece ∈ gtbl := gt (i := 569) (by decide +kernel) rfl
theorem lX4_64 : Cond.methodLink RX4 64 yX6_init ∈ gtbl := gt (i := 575) (by decide +kernel) rfl
theorem lX6_3 : Cond.methodLink RX6 3 objectInit ∈ gtbl := gt (i := 578) (by decide +kernel) rfl
theorem lL_101 : Cond.methodLink RL 101 yX9_lay ∈ gtbl := gt (i := 602) (by decide +kernel) rfl
theorem lX9_189 : Cond.methodLink RX9 189 yX4_layBest ∈ gtbl := gt (i := 606) (by decide +kernel) rfl
theorem lX4_82 : Cond.methodLink RX4 82 yJx4a65c_isEmpty_aae02 ∈ gtbl := gt (i := 611) (by decide +kernel) rfl
theorem lX4_88 : Cond.methodLink RX4 88 yX4_weighPiece ∈ gtbl := gt (i := 616) (by decide +kernel) rfl
theorem lX4_113 : Cond.methodLink RX4 113 yX4_leastFall ∈ gtbl := gt (i := 620) (by decide +kernel) rfl
theorem lX4_130 : Cond.methodLink RX4 130 yJ9_min_f86c9 ∈ gtbl := gt (i := 626) (by decide +kernel) rfl
theorem lX4_147 : Cond.methodLink RX4 147 yJ9_max_f86c9 ∈ gtbl := gt (i := 627) (by decide +kernel) rfl
theorem lX4_117 : Cond.methodLink RX4 117 yX4_weighEnds ∈ gtbl := gt (i := 628) (by decide +kernel) rfl
theorem lX4_136 : Cond.methodLink RX4 136 yX4_costFrom ∈ gtbl := gt (i := 632) (by decide +kernel) rfl
theorem lX4_123 : Cond.methodLink RX4 123 yX4_cheapestEnd ∈ gtbl := gt (i := 638) (by decide +kernel) rfl
theorem lX4_127 : Cond.methodLink RX4 127 yX4_isCoveredAtBegin ∈ gtbl := gt (i := 642) (by decide +kernel) rfl
theorem lX4_96 : Cond.methodLink RX4 96 yX4_followBest ∈ gtbl := gt (i := 646) (by decide +kernel) rfl
theorem lX4_150 : Cond.methodLink RX4 150 yX4_layPiece ∈ gtbl := gt (i := 650) (by decide +kernel) rfl
theorem lX4_154 : Cond.methodLink RX4 154 yX4_fallThatCosts ∈ gtbl := gt (i := 654) (by decide +kernel) rfl
theorem lL_105 : Cond.methodLink RL 105 yX9_laid ∈ gtbl := gt (i := 658) (by decide +kernel) rfl
theorem lX9_193 : Cond.methodLink RX9 193 yX4_tellLaid ∈ gtbl := gt (i := 662) (by decide +kernel) rfl
theorem lL_109 : Cond.methodLink RL 109 yX9_count ∈ gtbl := gt (i := 668) (by decide +kernel) rfl
theorem lL_9 : Cond.methodLink RL 9 yL_cell ∈ gtbl := gt (i := 672) (by decide +kernel) rfl
theorem lL_20 : Cond.methodLink RL 20 yX10_init ∈ gtbl := gt (i := 677) (by decide +kernel) rfl
theorem lX10_1 : Cond.methodLink RX10 1 objectInit ∈ gtbl := gt (i := 680) (by decide +kernel) rfl
theorem lL_25 : Cond.methodLink RL 25 yX10_node ∈ gtbl := gt (i := 860) (by decide +kernel) rfl
theorem lX10_145 : Cond.methodLink RX10 145 yX10_is ∈ gtbl := gt (i := 866) (by decide +kernel) rfl
theorem lL_30 : Cond.methodLink RL 30 yX10_pipe ∈ gtbl := gt (i := 869) (by decide +kernel) rfl
theorem lX10_154 : Cond.methodLink RX10 154 yX10_isNode ∈ gtbl := gt (i := 873) (by decide +kernel) rfl
theorem lL_34 : Cond.methodLink RL 34 yX10_area ∈ gtbl := gt (i := 877) (by decide +kernel) rfl
theorem lL_39 : Cond.methodLink RL 39 yX10_rain ∈ gtbl := gt (i := 882) (by decide +kernel) rfl
theorem lL_44 : Cond.methodLink RL 44 yX10_pump ∈ gtbl := gt (i := 886) (by decide +kernel) rfl
theorem lL_48 : Cond.methodLink RL 48 yX10_gate ∈ gtbl := gt (i := 890) (by decide +kernel) rfl
theorem lL_52 : Cond.methodLink RL 52 yX10_gully ∈ gtbl := gt (i := 895) (by decide +kernel) rfl
theorem lL_56 : Cond.methodLink RL 56 yX10_street ∈ gtbl := gt (i := 899) (by decide +kernel) rfl
theorem lL_61 : Cond.methodLink RL 61 yX10_run ∈ gtbl := gt (i := 903) (by decide +kernel) rfl
theorem lX10_201 : Cond.methodLink RX10 201 yX10_rainOf ∈ gtbl := gt (i := 908) (by decide +kernel) rfl
theorem lX10_184 : Cond.methodLink RX10 184 yX10_levelOf ∈ gtbl := gt (i := 913) (by decide +kernel) rfl
theorem lX10_205 : Cond.methodLink RX10 205 yX10_flowOf ∈ gtbl := gt (i := 917) (by decide +kernel) rfl
theorem lX10_180 : Cond.methodLink RX10 180 yX10_less ∈ gtbl := gt (i := 922) (by decide +kernel) rfl
theorem lX10_209 : Cond.methodLink RX10 209 yX10_pumpOf ∈ gtbl := gt (i := 925) (by decide +kernel) rfl
theorem lX10_212 : Cond.methodLink RX10 212 yX10_gateOf ∈ gtbl := gt (i := 929) (by decide +kernel) rfl
theorem lX10_215 : Cond.methodLink RX10 215 yX10_gullyOf ∈ gtbl := gt (i := 933) (by decide +kernel) rfl
theorem lX10_191 : Cond.methodLink RX10 191 yX10_fullOf ∈ gtbl := gt (i := 937) (by decide +kernel) rfl
theorem lX10_218 : Cond.methodLink RX10 218 yX10_nodeOf ∈ gtbl := gt (i := 941) (by decide +kernel) rfl
theorem lL_66 : Cond.methodLink RL 66 yX10_told ∈ gtbl := gt (i := 945) (by decide +kernel) rfl
theorem lL_70 : Cond.methodLink RL 70 yX10_flow ∈ gtbl := gt (i := 950) (by decide +kernel) rfl
theorem lL_74 : Cond.methodLink RL 74 yX10_cell ∈ gtbl := gt (i := 955) (by decide +kernel) rfl
theorem lL_78 : Cond.methodLink RL 78 yX10_pumps ∈ gtbl := gt (i := 960) (by decide +kernel) rfl
theorem lL_82 : Cond.methodLink RL 82 yX10_litres ∈ gtbl := gt (i := 964) (by decide +kernel) rfl
theorem lX10_227 : Cond.methodLink RX10 227 yX10_inNodes ∈ gtbl := gt (i := 968) (by decide +kernel) rfl
theorem lX10_231 : Cond.methodLink RX10 231 yX10_inCells ∈ gtbl := gt (i := 972) (by decide +kernel) rfl
theorem lL_87 : Cond.methodLink RL 87 yX10_keeps ∈ gtbl := gt (i := 976) (by decide +kernel) rfl
theorem lL_91 : Cond.methodLink RL 91 yX10_list ∈ gtbl := gt (i := 980) (by decide +kernel) rfl
theorem lL_96 : Cond.methodLink RL 96 yX10_begin ∈ gtbl := gt (i := 984) (by decide +kernel) rfl
theorem lL_100 : Cond.methodLink RL 100 yX10_piece ∈ gtbl := gt (i := 988) (by decide +kernel) rfl
theorem lL_104 : Cond.methodLink RL 104 yX10_lay ∈ gtbl := gt (i := 992) (by decide +kernel) rfl
theorem lX10_259 : Cond.methodLink RX10 259 yX10_with ∈ gtbl := gt (i := 997) (by decide +kernel) rfl
theorem lX10_255 : Cond.methodLink RX10 255 yX10_place ∈ gtbl := gt (i := 1001) (by decide +kernel) rfl
theorem lL_108 : Cond.methodLink RL 108 yX10_laid ∈ gtbl := gt (i := 1006) (by decide +kernel) rfl
theorem lL_112 : Cond.methodLink RL 112 yX10_count ∈ gtbl := gt (i := 1011) (by decide +kernel) rfl
theorem kL_7 : Cond.classLink RL 7 RX9 ∈ gtbl := gt (i := 21) (by decide +kernel) rfl
theorem kX9_7 : Cond.classLink RX9 7 RJx4a65c ∈ gtbl := gt (i := 29) (by decide +kernel) rfl
theorem kX9_39 : Cond.classLink RX9 39 RX4 ∈ gtbl := gt (i := 55) (by decide +kernel) rfl
theorem kX4_9 : Cond.classLink RX4 9 RJx4a65c ∈ gtbl := gt (i := 61) (by decide +kernel) rfl
theorem kX9_72 : Cond.classLink RX9 72 RX5 ∈ gtbl := gt (i := 163) (by decide +kernel) rfl
theorem kJ7_110 : Cond.classLink RJ7 110 "[Ljava/lang/Object;" ∈ gtbl := gt (i := 250) (by decide +kernel) rfl
theorem kJ7_2 : Cond.classLink RJ7 2 "java/lang/Object" ∈ gtbl := gt (i := 252) (by decide +kernel) rfl
theorem kJx4a65c_7 : Cond.classLink RJx4a65c 7 "java/lang/Object" ∈ gtbl := gt (i := 258) (by decide +kernel) rfl
theorem kX9_85 : Cond.classLink RX9 85 RX7 ∈ gtbl := gt (i := 271) (by decide +kernel) rfl
theorem kX9_98 : Cond.classLink RX9 98 RX0 ∈ gtbl := gt (i := 322) (by decide +kernel) rfl
theorem kX9_103 : Cond.classLink RX9 103 RX8 ∈ gtbl := gt (i := 346) (by decide +kernel) rfl
theorem kX9_109 : Cond.classLink RX9 109 RX2 ∈ gtbl := gt (i := 377) (by decide +kernel) rfl
theorem kX9_115 : Cond.classLink RX9 115 RX3 ∈ gtbl := gt (i := 400) (by decide +kernel) rfl
theorem kX4_33 : Cond.classLink RX4 33 RX1 ∈ gtbl := gt (i := 541) (by decide +kernel) rfl
theorem kX4_62 : Cond.classLink RX4 62 RX6 ∈ gtbl := gt (i := 573) (by decide +kernel) rfl
theorem kL_18 : Cond.classLink RL 18 RX10 ∈ gtbl := gt (i := 675) (by decide +kernel) rfl
theorem nX9_202 : Cond.constant RX9 202 (-100000) ∈ gtbl := gt (i := 158) (by decide +kernel) rfl
theorem nX9_67 : Cond.constant RX9 67 (100000) ∈ gtbl := gt (i := 159) (by decide +kernel) rfl
theorem nJ8_200 : Cond.constant RJ8 200 (2147483639) ∈ gtbl := gt (i := 224) (by decide +kernel) rfl
theorem nX7_20 : Cond.constantLong RX7 20 (1000) ∈ gtbl := gt (i := 291) (by decide +kernel) rfl
theorem nX9_97 : Cond.constant RX9 97 (1000000) ∈ gtbl := gt (i := 321) (by decide +kernel) rfl
theorem nX9_108 : Cond.constant RX9 108 (200000) ∈ gtbl := gt (i := 376) (by decide +kernel) rfl
theorem nX9_126 : Cond.constant RX9 126 (86400) ∈ gtbl := gt (i := 425) (by decide +kernel) rfl
theorem nX0_22 : Cond.constantLong RX0 22 (60000000) ∈ gtbl := gt (i := 438) (by decide +kernel) rfl
theorem nX9_130 : Cond.constantLong RX9 130 (-1099511627776) ∈ gtbl := gt (i := 499) (by decide +kernel) rfl
theorem nX9_146 : Cond.constantLong RX9 146 (-1152921504606846976) ∈ gtbl := gt (i := 505) (by decide +kernel) rfl
theorem nX9_157 : Cond.constantLong RX9 157 (-1) ∈ gtbl := gt (i := 510) (by decide +kernel) rfl
theorem nX4_74 : Cond.constantLong RX4 74 (-1) ∈ gtbl := gt (i := 610) (by decide +kernel) rfl
theorem nX4_86 : Cond.constantLong RX4 86 (-2) ∈ gtbl := gt (i := 615) (by decide +kernel) rfl
theorem nX4_143 : Cond.constantLong RX4 143 (1000) ∈ gtbl := gt (i := 624) (by decide +kernel) rfl
theorem nX4_145 : Cond.constantLong RX4 145 (41) ∈ gtbl := gt (i := 625) (by decide +kernel) rfl
theorem nX4_94 : Cond.constantLong RX4 94 (1152921504606846976) ∈ gtbl := gt (i := 636) (by decide +kernel) rfl
theorem nX4_122 : Cond.constant RX4 122 (2147483647) ∈ gtbl := gt (i := 637) (by decide +kernel) rfl
theorem nX4_103 : Cond.constant RX4 103 (-1073741824) ∈ gtbl := gt (i := 667) (by decide +kernel) rfl
theorem nX10_149 : Cond.constant RX10 149 (-100000) ∈ gtbl := gt (i := 864) (by decide +kernel) rfl
theorem nX10_150 : Cond.constant RX10 150 (100000) ∈ gtbl := gt (i := 865) (by decide +kernel) rfl
theorem nX10_161 : Cond.constant RX10 161 (1000000) ∈ gtbl := gt (i := 881) (by decide +kernel) rfl
theorem nX10_168 : Cond.constant RX10 168 (200000) ∈ gtbl := gt (i := 894) (by decide +kernel) rfl
theorem nX10_200 : Cond.constant RX10 200 (86400) ∈ gtbl := gt (i := 907) (by decide +kernel) rfl
theorem nX10_172 : Cond.constantLong RX10 172 (60000000) ∈ gtbl := gt (i := 912) (by decide +kernel) rfl
theorem nX10_178 : Cond.constantLong RX10 178 (1000) ∈ gtbl := gt (i := 921) (by decide +kernel) rfl
theorem nX10_221 : Cond.constantLong RX10 221 (-1099511627776) ∈ gtbl := gt (i := 949) (by decide +kernel) rfl
theorem nX10_223 : Cond.constantLong RX10 223 (-1152921504606846976) ∈ gtbl := gt (i := 954) (by decide +kernel) rfl
theorem nX10_225 : Cond.constantLong RX10 225 (-1) ∈ gtbl := gt (i := 959) (by decide +kernel) rfl
theorem nX10_253 : Cond.constantLong RX10 253 (1152921504606846976) ∈ gtbl := gt (i := 996) (by decide +kernel) rfl
theorem nX10_263 : Cond.constantLong RX10 263 (-2) ∈ gtbl := gt (i := 1005) (by decide +kernel) rfl
theorem nX10_265 : Cond.constant RX10 265 (-1073741824) ∈ gtbl := gt (i := 1010) (by decide +kernel) rfl
theorem inL : Cond.initialized RL ∈ gtbl := gt (i := 0) (by decide +kernel) rfl
theorem inX9 : Cond.initialized RX9 ∈ gtbl := gt (i := 1) (by decide +kernel) rfl
theorem inJxa1e45 : Cond.initialized RJxa1e45 ∈ gtbl := gt (i := 2) (by decide +kernel) rfl
theorem inJxc12de : Cond.initialized RJxc12de ∈ gtbl := gt (i := 3) (by decide +kernel) rfl
theorem inJx4a65c : Cond.initialized RJx4a65c ∈ gtbl := gt (i := 4) (by decide +kernel) rfl
theorem inX4 : Cond.initialized RX4 ∈ gtbl := gt (i := 5) (by decide +kernel) rfl
theorem inJ9 : Cond.initialized RJ9 ∈ gtbl := gt (i := 6) (by decide +kernel) rfl
theorem inX10 : Cond.initialized RX10 ∈ gtbl := gt (i := 7) (by decide +kernel) rfl
theorem inX5 : Cond.initialized RX5 ∈ gtbl := gt (i := 8) (by decide +kernel) rfl
theorem inJ8 : Cond.initialized RJ8 ∈ gtbl := gt (i := 9) (by decide +kernel) rfl
theorem inJ7 : Cond.initialized RJ7 ∈ gtbl := gt (i := 10) (by decide +kernel) rfl
theorem inJ10 : Cond.initialized RJ10 ∈ gtbl := gt (i := 11) (by decide +kernel) rfl
theorem inX7 : Cond.initialized RX7 ∈ gtbl := gt (i := 12) (by decide +kernel) rfl
theorem inJ15 : Cond.initialized RJ15 ∈ gtbl := gt (i := 13) (by decide +kernel) rfl
theorem inJ3 : Cond.initialized RJ3 ∈ gtbl := gt (i := 14) (by decide +kernel) rfl
theorem inX0 : Cond.initialized RX0 ∈ gtbl := gt (i := 15) (by decide +kernel) rfl
theorem inX8 : Cond.initialized RX8 ∈ gtbl := gt (i := 16) (by decide +kernel) rfl
theorem inX2 : Cond.initialized RX2 ∈ gtbl := gt (i := 17) (by decide +kernel) rfl
theorem inX3 : Cond.initialized RX3 ∈ gtbl := gt (i := 18) (by decide +kernel) rfl
theorem inX1 : Cond.initialized RX1 ∈ gtbl := gt (i := 19) (by decide +kernel) rfl
theorem inX6 : Cond.initialized RX6 ∈ gtbl := gt (i := 20) (by decide +kernel) rfl
theorem ibX9 : Cond.instantiable RX9 14 ∈ gtbl := gt (i := 22) (by decide +kernel) rfl
theorem ibJx4a65c : Cond.instantiable RJx4a65c 3 ∈ gtbl := gt (i := 30) (by decide +kernel) rfl
theorem ibX4 : Cond.instantiable RX4 10 ∈ gtbl := gt (i := 56) (by decide +kernel) rfl
theorem ibX5 : Cond.instantiable RX5 8 ∈ gtbl := gt (i := 164) (by decide +kernel) rfl
theorem ibX7 : Cond.instantiable RX7 7 ∈ gtbl := gt (i := 272) (by decide +kernel) rfl
theorem ibX0 : Cond.instantiable RX0 3 ∈ gtbl := gt (i := 323) (by decide +kernel) rfl
theorem ibX8 : Cond.instantiable RX8 6 ∈ gtbl := gt (i := 347) (by decide +kernel) rfl
theorem ibX2 : Cond.instantiable RX2 3 ∈ gtbl := gt (i := 378) (by decide +kernel) rfl
theorem ibX3 : Cond.instantiable RX3 3 ∈ gtbl := gt (i := 401) (by decide +kernel) rfl
theorem ibX1 : Cond.instantiable RX1 2 ∈ gtbl := gt (i := 542) (by decide +kernel) rfl
theorem ibX6 : Cond.instantiable RX6 7 ∈ gtbl := gt (i := 574) (by decide +kernel) rfl
theorem ibX10 : Cond.instantiable RX10 59 ∈ gtbl := gt (i := 676) (by decide +kernel) rfl
theorem i_yX9_init : Cond.instanceMethod yX9_init ∈ gtbl := gt (i := 24) (by decide +kernel) rfl
theorem i_objectInit : Cond.instanceMethod objectInit ∈ gtbl := gt (i := 27) (by decide +kernel) rfl
theorem i_yJx4a65c_init_da8c8 : Cond.instanceMethod yJx4a65c_init_da8c8 ∈ gtbl := gt (i := 32) (by decide +kernel) rfl
theorem i_yJxc12de_init_da8c8 : Cond.instanceMethod yJxc12de_init_da8c8 ∈ gtbl := gt (i := 35) (by decide +kernel) rfl
theorem i_yJxa1e45_init_da8c8 : Cond.instanceMethod yJxa1e45_init_da8c8 ∈ gtbl := gt (i := 38) (by decide +kernel) rfl
theorem i_yX4_init : Cond.instanceMethod yX4_init ∈ gtbl := gt (i := 58) (by decide +kernel) rfl
theorem i_yX9_node : Cond.instanceMethod yX9_node ∈ gtbl := gt (i := 148) (by decide +kernel) rfl
theorem i_yJx4a65c_size_8abf5 : Cond.instanceMethod yJx4a65c_size_8abf5 ∈ gtbl := gt (i := 152) (by decide +kernel) rfl
theorem i_yX5_init : Cond.instanceMethod yX5_init ∈ gtbl := gt (i := 166) (by decide +kernel) rfl
theorem i_yJx4a65c_add_9ea2d : Cond.instanceMethod yJx4a65c_add_9ea2d ∈ gtbl := gt (i := 205) (by decide +kernel) rfl
theorem i_yJx4a65c_add_72be8 : Cond.instanceMethod yJx4a65c_add_72be8 ∈ gtbl := gt (i := 210) (by decide +kernel) rfl
theorem i_yJx4a65c_grow_d5877 : Cond.instanceMethod yJx4a65c_grow_d5877 ∈ gtbl := gt (i := 214) (by decide +kernel) rfl
theorem i_yJx4a65c_grow_92f84 : Cond.instanceMethod yJx4a65c_grow_92f84 ∈ gtbl := gt (i := 218) (by decide +kernel) rfl
theorem i_yX9_pipe : Cond.instanceMethod yX9_pipe ∈ gtbl := gt (i := 260) (by decide +kernel) rfl
theorem i_yX9_areTwoNodes : Cond.instanceMethod yX9_areTwoNodes ∈ gtbl := gt (i := 265) (by decide +kernel) rfl
theorem i_yX9_isNode : Cond.instanceMethod yX9_isNode ∈ gtbl := gt (i := 269) (by decide +kernel) rfl
theorem i_yJx4a65c_get_915e3 : Cond.instanceMethod yJx4a65c_get_915e3 ∈ gtbl := gt (i := 274) (by decide +kernel) rfl
theorem i_yJx4a65c_elementData_915e3 : Cond.instanceMethod yJx4a65c_elementData_915e3 ∈ gtbl := gt (i := 284) (by decide +kernel) rfl
theorem i_yX7_init : Cond.instanceMethod yX7_init ∈ gtbl := gt (i := 288) (by decide +kernel) rfl
theorem i_yX9_area : Cond.instanceMethod yX9_area ∈ gtbl := gt (i := 318) (by decide +kernel) rfl
theorem i_yX0_init : Cond.instanceMethod yX0_init ∈ gtbl := gt (i := 325) (by decide +kernel) rfl
theorem i_yX9_rain : Cond.instanceMethod yX9_rain ∈ gtbl := gt (i := 339) (by decide +kernel) rfl
theorem i_yX9_pump : Cond.instanceMethod yX9_pump ∈ gtbl := gt (i := 343) (by decide +kernel) rfl
theorem i_yX8_init : Cond.instanceMethod yX8_init ∈ gtbl := gt (i := 349) (by decide +kernel) rfl
theorem i_yX9_gate : Cond.instanceMethod yX9_gate ∈ gtbl := gt (i := 373) (by decide +kernel) rfl
theorem i_yX2_init : Cond.instanceMethod yX2_init ∈ gtbl := gt (i := 380) (by decide +kernel) rfl
theorem i_yX9_gully : Cond.instanceMethod yX9_gully ∈ gtbl := gt (i := 394) (by decide +kernel) rfl
theorem i_yX3_init : Cond.instanceMethod yX3_init ∈ gtbl := gt (i := 403) (by decide +kernel) rfl
theorem i_yX9_street : Cond.instanceMethod yX9_street ∈ gtbl := gt (i := 418) (by decide +kernel) rfl
theorem i_yX9_run : Cond.instanceMethod yX9_run ∈ gtbl := gt (i := 422) (by decide +kernel) rfl
theorem i_yX9_passSecond : Cond.instanceMethod yX9_passSecond ∈ gtbl := gt (i := 428) (by decide +kernel) rfl
theorem i_yX9_rainOnAreas : Cond.instanceMethod yX9_rainOnAreas ∈ gtbl := gt (i := 432) (by decide +kernel) rfl
theorem i_yX0_takeRain : Cond.instanceMethod yX0_takeRain ∈ gtbl := gt (i := 435) (by decide +kernel) rfl
theorem i_yX9_carryByPipes : Cond.instanceMethod yX9_carryByPipes ∈ gtbl := gt (i := 441) (by decide +kernel) rfl
theorem i_yX5_markLevel : Cond.instanceMethod yX5_markLevel ∈ gtbl := gt (i := 444) (by decide +kernel) rfl
theorem i_yX5_levelNow : Cond.instanceMethod yX5_levelNow ∈ gtbl := gt (i := 448) (by decide +kernel) rfl
theorem i_yX7_carry : Cond.instanceMethod yX7_carry ∈ gtbl := gt (i := 452) (by decide +kernel) rfl
theorem i_yX5_giveTo : Cond.instanceMethod yX5_giveTo ∈ gtbl := gt (i := 456) (by decide +kernel) rfl
theorem i_yX8_lift : Cond.instanceMethod yX8_lift ∈ gtbl := gt (i := 463) (by decide +kernel) rfl
theorem i_yX2_letOut : Cond.instanceMethod yX2_letOut ∈ gtbl := gt (i := 469) (by decide +kernel) rfl
theorem i_yX9_drainCells : Cond.instanceMethod yX9_drainCells ∈ gtbl := gt (i := 478) (by decide +kernel) rfl
theorem i_yX3_drain : Cond.instanceMethod yX3_drain ∈ gtbl := gt (i := 481) (by decide +kernel) rfl
theorem i_yX9_spillNodes : Cond.instanceMethod yX9_spillNodes ∈ gtbl := gt (i := 488) (by decide +kernel) rfl
theorem i_yX5_spill : Cond.instanceMethod yX5_spill ∈ gtbl := gt (i := 491) (by decide +kernel) rfl
theorem i_yX9_told : Cond.instanceMethod yX9_told ∈ gtbl := gt (i := 496) (by decide +kernel) rfl
theorem i_yX9_flow : Cond.instanceMethod yX9_flow ∈ gtbl := gt (i := 502) (by decide +kernel) rfl
theorem i_yX9_cell : Cond.instanceMethod yX9_cell ∈ gtbl := gt (i := 507) (by decide +kernel) rfl
theorem i_yX9_pumps : Cond.instanceMethod yX9_pumps ∈ gtbl := gt (i := 512) (by decide +kernel) rfl
theorem i_yX9_litres : Cond.instanceMethod yX9_litres ∈ gtbl := gt (i := 516) (by decide +kernel) rfl
theorem i_yX9_litresInNodes : Cond.instanceMethod yX9_litresInNodes ∈ gtbl := gt (i := 521) (by decide +kernel) rfl
theorem i_yX9_litresInCells : Cond.instanceMethod yX9_litresInCells ∈ gtbl := gt (i := 525) (by decide +kernel) rfl
theorem i_yX9_keeps : Cond.instanceMethod yX9_keeps ∈ gtbl := gt (i := 528) (by decide +kernel) rfl
theorem i_yX9_list : Cond.instanceMethod yX9_list ∈ gtbl := gt (i := 532) (by decide +kernel) rfl
theorem i_yX4_addEntry : Cond.instanceMethod yX4_addEntry ∈ gtbl := gt (i := 536) (by decide +kernel) rfl
theorem i_yX1_init : Cond.instanceMethod yX1_init ∈ gtbl := gt (i := 544) (by decide +kernel) rfl
theorem i_yX9_begin : Cond.instanceMethod yX9_begin ∈ gtbl := gt (i := 558) (by decide +kernel) rfl
theorem i_yX4_beginAnew : Cond.instanceMethod yX4_beginAnew ∈ gtbl := gt (i := 562) (by decide +kernel) rfl
theorem i_yX9_piece : Cond.instanceMethod yX9_piece ∈ gtbl := gt (i := 566) (by decide +kernel) rfl
theorem i_yX4_addPiece : Cond.instanceMethod yX4_addPiece ∈ gtbl := gt (i := 570) (by decide +kernel) rfl
theorem i_yX6_init : Cond.instanceMethod yX6_init ∈ gtbl := gt (i := 576) (by decide +kernel) rfl
theorem i_yX9_lay : Cond.instanceMethod yX9_lay ∈ gtbl := gt (i := 603) (by decide +kernel) rfl
theorem i_yX4_layBest : Cond.instanceMethod yX4_layBest ∈ gtbl := gt (i := 607) (by decide +kernel) rfl
theorem i_yJx4a65c_isEmpty_aae02 : Cond.instanceMethod yJx4a65c_isEmpty_aae02 ∈ gtbl := gt (i := 612) (by decide +kernel) rfl
theorem i_yX4_weighPiece : Cond.instanceMethod yX4_weighPiece ∈ gtbl := gt (i := 618) (by decide +kernel) rfl
theorem i_yX4_leastFall : Cond.instanceMethod yX4_leastFall ∈ gtbl := gt (i := 622) (by decide +kernel) rfl
theorem i_yX4_weighEnds : Cond.instanceMethod yX4_weighEnds ∈ gtbl := gt (i := 630) (by decide +kernel) rfl
theorem i_yX4_costFrom : Cond.instanceMethod yX4_costFrom ∈ gtbl := gt (i := 634) (by decide +kernel) rfl
theorem i_yX4_cheapestEnd : Cond.instanceMethod yX4_cheapestEnd ∈ gtbl := gt (i := 640) (by decide +kernel) rfl
theorem i_yX4_isCoveredAtBegin : Cond.instanceMethod yX4_isCoveredAtBegin ∈ gtbl := gt (i := 644) (by decide +kernel) rfl
theorem i_yX4_followBest : Cond.instanceMethod yX4_followBest ∈ gtbl := gt (i := 648) (by decide +kernel) rfl
theorem i_yX4_layPiece : Cond.instanceMethod yX4_layPiece ∈ gtbl := gt (i := 652) (by decide +kernel) rfl
theorem i_yX4_fallThatCosts : Cond.instanceMethod yX4_fallThatCosts ∈ gtbl := gt (i := 656) (by decide +kernel) rfl
theorem i_yX9_laid : Cond.instanceMethod yX9_laid ∈ gtbl := gt (i := 659) (by decide +kernel) rfl
theorem i_yX4_tellLaid : Cond.instanceMethod yX4_tellLaid ∈ gtbl := gt (i := 663) (by decide +kernel) rfl
theorem i_yX9_count : Cond.instanceMethod yX9_count ∈ gtbl := gt (i := 669) (by decide +kernel) rfl
theorem i_yX10_init : Cond.instanceMethod yX10_init ∈ gtbl := gt (i := 678) (by decide +kernel) rfl
theorem i_yX10_node : Cond.instanceMethod yX10_node ∈ gtbl := gt (i := 861) (by decide +kernel) rfl
theorem i_yX10_pipe : Cond.instanceMethod yX10_pipe ∈ gtbl := gt (i := 870) (by decide +kernel) rfl
theorem i_yX10_isNode : Cond.instanceMethod yX10_isNode ∈ gtbl := gt (i := 875) (by decide +kernel) rfl
theorem i_yX10_area : Cond.instanceMethod yX10_area ∈ gtbl := gt (i := 878) (by decide +kernel) rfl
theorem i_yX10_rain : Cond.instanceMethod yX10_rain ∈ gtbl := gt (i := 883) (by decide +kernel) rfl
theorem i_yX10_pump : Cond.instanceMethod yX10_pump ∈ gtbl := gt (i := 887) (by decide +kernel) rfl
theorem i_yX10_gate : Cond.instanceMethod yX10_gate ∈ gtbl := gt (i := 891) (by decide +kernel) rfl
theorem i_yX10_gully : Cond.instanceMethod yX10_gully ∈ gtbl := gt (i := 896) (by decide +kernel) rfl
theorem i_yX10_street : Cond.instanceMethod yX10_street ∈ gtbl := gt (i := 900) (by decide +kernel) rfl
theorem i_yX10_run : Cond.instanceMethod yX10_run ∈ gtbl := gt (i := 904) (by decide +kernel) rfl
theorem i_yX10_rainOf : Cond.instanceMethod yX10_rainOf ∈ gtbl := gt (i := 910) (by decide +kernel) rfl
theorem i_yX10_levelOf : Cond.instanceMethod yX10_levelOf ∈ gtbl := gt (i := 915) (by decide +kernel) rfl
theorem i_yX10_flowOf : Cond.instanceMethod yX10_flowOf ∈ gtbl := gt (i := 919) (by decide +kernel) rfl
theorem i_yX10_pumpOf : Cond.instanceMethod yX10_pumpOf ∈ gtbl := gt (i := 927) (by decide +kernel) rfl
theorem i_yX10_gateOf : Cond.instanceMethod yX10_gateOf ∈ gtbl := gt (i := 931) (by decide +kernel) rfl
theorem i_yX10_gullyOf : Cond.instanceMethod yX10_gullyOf ∈ gtbl := gt (i := 935) (by decide +kernel) rfl
theorem i_yX10_fullOf : Cond.instanceMethod yX10_fullOf ∈ gtbl := gt (i := 939) (by decide +kernel) rfl
theorem i_yX10_nodeOf : Cond.instanceMethod yX10_nodeOf ∈ gtbl := gt (i := 943) (by decide +kernel) rfl
theorem i_yX10_told : Cond.instanceMethod yX10_told ∈ gtbl := gt (i := 946) (by decide +kernel) rfl
theorem i_yX10_flow : Cond.instanceMethod yX10_flow ∈ gtbl := gt (i := 951) (by decide +kernel) rfl
theorem i_yX10_cell : Cond.instanceMethod yX10_cell ∈ gtbl := gt (i := 956) (by decide +kernel) rfl
theorem i_yX10_pumps : Cond.instanceMethod yX10_pumps ∈ gtbl := gt (i := 961) (by decide +kernel) rfl
theorem i_yX10_litres : Cond.instanceMethod yX10_litres ∈ gtbl := gt (i := 965) (by decide +kernel) rfl
theorem i_yX10_inNodes : Cond.instanceMethod yX10_inNodes ∈ gtbl := gt (i := 970) (by decide +kernel) rfl
theorem i_yX10_inCells : Cond.instanceMethod yX10_inCells ∈ gtbl := gt (i := 974) (by decide +kernel) rfl
theorem i_yX10_keeps : Cond.instanceMethod yX10_keeps ∈ gtbl := gt (i := 977) (by decide +kernel) rfl
theorem i_yX10_list : Cond.instanceMethod yX10_list ∈ gtbl := gt (i := 981) (by decide +kernel) rfl
theorem i_yX10_begin : Cond.instanceMethod yX10_begin ∈ gtbl := gt (i := 985) (by decide +kernel) rfl
theorem i_yX10_piece : Cond.instanceMethod yX10_piece ∈ gtbl := gt (i := 989) (by decide +kernel) rfl
theorem i_yX10_lay : Cond.instanceMethod yX10_lay ∈ gtbl := gt (i := 993) (by decide +kernel) rfl
theorem i_yX10_with : Cond.instanceMethod yX10_with ∈ gtbl := gt (i := 999) (by decide +kernel) rfl
theorem i_yX10_place : Cond.instanceMethod yX10_place ∈ gtbl := gt (i := 1003) (by decide +kernel) rfl
theorem i_yX10_laid : Cond.instanceMethod yX10_laid ∈ gtbl := gt (i := 1007) (by decide +kernel) rfl
theorem i_yX10_count : Cond.instanceMethod yX10_count ∈ gtbl := gt (i := 1012) (by decide +kernel) rfl
theorem t_yJ9_min_7cf53 : Cond.static yJ9_min_7cf53 ∈ gtbl := gt (i := 99) (by decide +kernel) rfl
theorem t_yJ9_max_7cf53 : Cond.static yJ9_max_7cf53 ∈ gtbl := gt (i := 102) (by decide +kernel) rfl
theorem t_yX9_isHeight : Cond.static yX9_isHeight ∈ gtbl := gt (i := 156) (by decide +kernel) rfl
theorem t_yX9_isWithin : Cond.static yX9_isWithin ∈ gtbl := gt (i := 161) (by decide +kernel) rfl
theorem t_yJ8_newLength_cabcc : Cond.static yJ8_newLength_cabcc ∈ gtbl := gt (i := 221) (by decide +kernel) rfl
theorem t_yJ8_hugeLength_7cf53 : Cond.static yJ8_hugeLength_7cf53 ∈ gtbl := gt (i := 226) (by decide +kernel) rfl
theorem t_yJ7_copyOf_1904c : Cond.static yJ7_copyOf_1904c ∈ gtbl := gt (i := 229) (by decide +kernel) rfl
theorem t_yJ7_copyOf_6403c : Cond.static yJ7_copyOf_6403c ∈ gtbl := gt (i := 248) (by decide +kernel) rfl
theorem t_yJ15_checkIndex_7cf53 : Cond.static yJ15_checkIndex_7cf53 ∈ gtbl := gt (i := 278) (by decide +kernel) rfl
theorem t_yJ3_checkIndex_8e157 : Cond.static yJ3_checkIndex_8e157 ∈ gtbl := gt (i := 281) (by decide +kernel) rfl
theorem t_yX9_isCell : Cond.static yX9_isCell ∈ gtbl := gt (i := 398) (by decide +kernel) rfl
theorem t_yJ9_min_f86c9 : Cond.static yJ9_min_f86c9 ∈ gtbl := gt (i := 460) (by decide +kernel) rfl
theorem t_yJ9_max_f86c9 : Cond.static yJ9_max_f86c9 ∈ gtbl := gt (i := 474) (by decide +kernel) rfl
theorem t_yL_cell : Cond.static yL_cell ∈ gtbl := gt (i := 673) (by decide +kernel) rfl
theorem t_yX10_is : Cond.static yX10_is ∈ gtbl := gt (i := 867) (by decide +kernel) rfl
theorem t_yX10_less : Cond.static yX10_less ∈ gtbl := gt (i := 923) (by decide +kernel) rfl
theorem s_yX9_node : Cond.selects RX9 yX9_node yX9_node ∈ gtbl := gt (i := 149) (by decide +kernel) rfl
theorem s_yJx4a65c_size_8abf5 : Cond.selects RJx4a65c yJx4a65c_size_8abf5 yJx4a65c_size_8abf5 ∈ gtbl := gt (i := 153) (by decide +kernel) rfl
theorem s_yJx4a65c_add_9ea2d : Cond.selects RJx4a65c yJx4a65c_add_9ea2d yJx4a65c_add_9ea2d ∈ gtbl := gt (i := 206) (by decide +kernel) rfl
theorem s_yX9_pipe : Cond.selects RX9 yX9_pipe yX9_pipe ∈ gtbl := gt (i := 261) (by decide +kernel) rfl
theorem s_yJx4a65c_get_915e3 : Cond.selects RJx4a65c yJx4a65c_get_915e3 yJx4a65c_get_915e3 ∈ gtbl := gt (i := 275) (by decide +kernel) rfl
theorem s_yJx4a65c_elementData_915e3 : Cond.selects RJx4a65c yJx4a65c_elementData_915e3 yJx4a65c_elementData_915e3 ∈ gtbl := gt (i := 285) (by decide +kernel) rfl
theorem s_yX9_area : Cond.selects RX9 yX9_area yX9_area ∈ gtbl := gt (i := 319) (by decide +kernel) rfl
theorem s_yX9_rain : Cond.selects RX9 yX9_rain yX9_rain ∈ gtbl := gt (i := 340) (by decide +kernel) rfl
theorem s_yX9_pump : Cond.selects RX9 yX9_pump yX9_pump ∈ gtbl := gt (i := 344) (by decide +kernel) rfl
theorem s_yX9_gate : Cond.selects RX9 yX9_gate yX9_gate ∈ gtbl := gt (i := 374) (by decide +kernel) rfl
theorem s_yX9_gully : Cond.selects RX9 yX9_gully yX9_gully ∈ gtbl := gt (i := 395) (by decide +kernel) rfl
theorem s_yX9_street : Cond.selects RX9 yX9_street yX9_street ∈ gtbl := gt (i := 419) (by decide +kernel) rfl
theorem s_yX9_run : Cond.selects RX9 yX9_run yX9_run ∈ gtbl := gt (i := 423) (by decide +kernel) rfl
theorem s_yX0_takeRain : Cond.selects RX0 yX0_takeRain yX0_takeRain ∈ gtbl := gt (i := 436) (by decide +kernel) rfl
theorem s_yX5_markLevel : Cond.selects RX5 yX5_markLevel yX5_markLevel ∈ gtbl := gt (i := 445) (by decide +kernel) rfl
theorem s_yX5_levelNow : Cond.selects RX5 yX5_levelNow yX5_levelNow ∈ gtbl := gt (i := 449) (by decide +kernel) rfl
theorem s_yX7_carry : Cond.selects RX7 yX7_carry yX7_carry ∈ gtbl := gt (i := 453) (by decide +kernel) rfl
theorem s_yX5_giveTo : Cond.selects RX5 yX5_giveTo yX5_giveTo ∈ gtbl := gt (i := 457) (by decide +kernel) rfl
theorem s_yX8_lift : Cond.selects RX8 yX8_lift yX8_lift ∈ gtbl := gt (i := 464) (by decide +kernel) rfl
theorem s_yX2_letOut : Cond.selects RX2 yX2_letOut yX2_letOut ∈ gtbl := gt (i := 470) (by decide +kernel) rfl
theorem s_yX3_drain : Cond.selects RX3 yX3_drain yX3_drain ∈ gtbl := gt (i := 482) (by decide +kernel) rfl
theorem s_yX5_spill : Cond.selects RX5 yX5_spill yX5_spill ∈ gtbl := gt (i := 492) (by decide +kernel) rfl
theorem s_yX9_told : Cond.selects RX9 yX9_told yX9_told ∈ gtbl := gt (i := 497) (by decide +kernel) rfl
theorem s_yX9_flow : Cond.selects RX9 yX9_flow yX9_flow ∈ gtbl := gt (i := 503) (by decide +kernel) rfl
theorem s_yX9_cell : Cond.selects RX9 yX9_cell yX9_cell ∈ gtbl := gt (i := 508) (by decide +kernel) rfl
theorem s_yX9_pumps : Cond.selects RX9 yX9_pumps yX9_pumps ∈ gtbl := gt (i := 513) (by decide +kernel) rfl
theorem s_yX9_litres : Cond.selects RX9 yX9_litres yX9_litres ∈ gtbl := gt (i := 517) (by decide +kernel) rfl
theorem s_yX9_keeps : Cond.selects RX9 yX9_keeps yX9_keeps ∈ gtbl := gt (i := 529) (by decide +kernel) rfl
theorem s_yX9_list : Cond.selects RX9 yX9_list yX9_list ∈ gtbl := gt (i := 533) (by decide +kernel) rfl
theorem s_yX4_addEntry : Cond.selects RX4 yX4_addEntry yX4_addEntry ∈ gtbl := gt (i := 537) (by decide +kernel) rfl
theorem s_yX9_begin : Cond.selects RX9 yX9_begin yX9_begin ∈ gtbl := gt (i := 559) (by decide +kernel) rfl
theorem s_yX4_beginAnew : Cond.selects RX4 yX4_beginAnew yX4_beginAnew ∈ gtbl := gt (i := 563) (by decide +kernel) rfl
theorem s_yX9_piece : Cond.selects RX9 yX9_piece yX9_piece ∈ gtbl := gt (i := 567) (by decide +kernel) rfl
theorem s_yX4_addPiece : Cond.selects RX4 yX4_addPiece yX4_addPiece ∈ gtbl := gt (i := 571) (by decide +kernel) rfl
theorem s_yX9_lay : Cond.selects RX9 yX9_lay yX9_lay ∈ gtbl := gt (i := 604) (by decide +kernel) rfl
theorem s_yX4_layBest : Cond.selects RX4 yX4_layBest yX4_layBest ∈ gtbl := gt (i := 608) (by decide +kernel) rfl
theorem s_yJx4a65c_isEmpty_aae02 : Cond.selects RJx4a65c yJx4a65c_isEmpty_aae02 yJx4a65c_isEmpty_aae02 ∈ gtbl := gt (i := 613) (by decide +kernel) rfl
theorem s_yX9_laid : Cond.selects RX9 yX9_laid yX9_laid ∈ gtbl := gt (i := 660) (by decide +kernel) rfl
theorem s_yX4_tellLaid : Cond.selects RX4 yX4_tellLaid yX4_tellLaid ∈ gtbl := gt (i := 664) (by decide +kernel) rfl
theorem s_yX9_count : Cond.selects RX9 yX9_count yX9_count ∈ gtbl := gt (i := 670) (by decide +kernel) rfl
theorem s_yX10_node : Cond.selects RX10 yX10_node yX10_node ∈ gtbl := gt (i := 862) (by decide +kernel) rfl
theorem s_yX10_pipe : Cond.selects RX10 yX10_pipe yX10_pipe ∈ gtbl := gt (i := 871) (by decide +kernel) rfl
theorem s_yX10_area : Cond.selects RX10 yX10_area yX10_area ∈ gtbl := gt (i := 879) (by decide +kernel) rfl
theorem s_yX10_rain : Cond.selects RX10 yX10_rain yX10_rain ∈ gtbl := gt (i := 884) (by decide +kernel) rfl
theorem s_yX10_pump : Cond.selects RX10 yX10_pump yX10_pump ∈ gtbl := gt (i := 888) (by decide +kernel) rfl
theorem s_yX10_gate : Cond.selects RX10 yX10_gate yX10_gate ∈ gtbl := gt (i := 892) (by decide +kernel) rfl
theorem s_yX10_gully : Cond.selects RX10 yX10_gully yX10_gully ∈ gtbl := gt (i := 897) (by decide +kernel) rfl
theorem s_yX10_street : Cond.selects RX10 yX10_street yX10_street ∈ gtbl := gt (i := 901) (by decide +kernel) rfl
theorem s_yX10_run : Cond.selects RX10 yX10_run yX10_run ∈ gtbl := gt (i := 905) (by decide +kernel) rfl
theorem s_yX10_told : Cond.selects RX10 yX10_told yX10_told ∈ gtbl := gt (i := 947) (by decide +kernel) rfl
theorem s_yX10_flow : Cond.selects RX10 yX10_flow yX10_flow ∈ gtbl := gt (i := 952) (by decide +kernel) rfl
theorem s_yX10_cell : Cond.selects RX10 yX10_cell yX10_cell ∈ gtbl := gt (i := 957) (by decide +kernel) rfl
theorem s_yX10_pumps : Cond.selects RX10 yX10_pumps yX10_pumps ∈ gtbl := gt (i := 962) (by decide +kernel) rfl
theorem s_yX10_litres : Cond.selects RX10 yX10_litres yX10_litres ∈ gtbl := gt (i := 966) (by decide +kernel) rfl
theorem s_yX10_keeps : Cond.selects RX10 yX10_keeps yX10_keeps ∈ gtbl := gt (i := 978) (by decide +kernel) rfl
theorem s_yX10_list : Cond.selects RX10 yX10_list yX10_list ∈ gtbl := gt (i := 982) (by decide +kernel) rfl
theorem s_yX10_begin : Cond.selects RX10 yX10_begin yX10_begin ∈ gtbl := gt (i := 986) (by decide +kernel) rfl
theorem s_yX10_piece : Cond.selects RX10 yX10_piece yX10_piece ∈ gtbl := gt (i := 990) (by decide +kernel) rfl
theorem s_yX10_lay : Cond.selects RX10 yX10_lay yX10_lay ∈ gtbl := gt (i := 994) (by decide +kernel) rfl
theorem s_yX10_laid : Cond.selects RX10 yX10_laid yX10_laid ∈ gtbl := gt (i := 1008) (by decide +kernel) rfl
theorem s_yX10_count : Cond.selects RX10 yX10_count yX10_count ∈ gtbl := gt (i := 1013) (by decide +kernel) rfl
theorem s_yJx4a65c_add_72be8 : Cond.selects RJx4a65c yJx4a65c_add_72be8 yJx4a65c_add_72be8 ∈ gtbl := gtp (i := 0) (by decide +kernel) rfl
theorem s_yJx4a65c_grow_d5877 : Cond.selects RJx4a65c yJx4a65c_grow_d5877 yJx4a65c_grow_d5877 ∈ gtbl := gtp (i := 1) (by decide +kernel) rfl
theorem s_yJx4a65c_grow_92f84 : Cond.selects RJx4a65c yJx4a65c_grow_92f84 yJx4a65c_grow_92f84 ∈ gtbl := gtp (i := 2) (by decide +kernel) rfl
theorem s_yX9_areTwoNodes : Cond.selects RX9 yX9_areTwoNodes yX9_areTwoNodes ∈ gtbl := gtp (i := 3) (by decide +kernel) rfl
theorem s_yX9_isNode : Cond.selects RX9 yX9_isNode yX9_isNode ∈ gtbl := gtp (i := 4) (by decide +kernel) rfl
theorem s_yX9_passSecond : Cond.selects RX9 yX9_passSecond yX9_passSecond ∈ gtbl := gtp (i := 5) (by decide +kernel) rfl
theorem s_yX9_rainOnAreas : Cond.selects RX9 yX9_rainOnAreas yX9_rainOnAreas ∈ gtbl := gtp (i := 6) (by decide +kernel) rfl
theorem s_yX9_carryByPipes : Cond.selects RX9 yX9_carryByPipes yX9_carryByPipes ∈ gtbl := gtp (i := 7) (by decide +kernel) rfl
theorem s_yX9_drainCells : Cond.selects RX9 yX9_drainCells yX9_drainCells ∈ gtbl := gtp (i := 8) (by decide +kernel) rfl
theorem s_yX9_spillNodes : Cond.selects RX9 yX9_spillNodes yX9_spillNodes ∈ gtbl := gtp (i := 9) (by decide +kernel) rfl
theorem s_yX9_litresInNodes : Cond.selects RX9 yX9_litresInNodes yX9_litresInNodes ∈ gtbl := gtp (i := 10) (by decide +kernel) rfl
theorem s_yX9_litresInCells : Cond.selects RX9 yX9_litresInCells yX9_litresInCells ∈ gtbl := gtp (i := 11) (by decide +kernel) rfl
theorem s_yX4_weighPiece : Cond.selects RX4 yX4_weighPiece yX4_weighPiece ∈ gtbl := gtp (i := 12) (by decide +kernel) rfl
theorem s_yX4_leastFall : Cond.selects RX4 yX4_leastFall yX4_leastFall ∈ gtbl := gtp (i := 13) (by decide +kernel) rfl
theorem s_yX4_weighEnds : Cond.selects RX4 yX4_weighEnds yX4_weighEnds ∈ gtbl := gtp (i := 14) (by decide +kernel) rfl
theorem s_yX4_costFrom : Cond.selects RX4 yX4_costFrom yX4_costFrom ∈ gtbl := gtp (i := 15) (by decide +kernel) rfl
theorem s_yX4_cheapestEnd : Cond.selects RX4 yX4_cheapestEnd yX4_cheapestEnd ∈ gtbl := gtp (i := 16) (by decide +kernel) rfl
theorem s_yX4_isCoveredAtBegin : Cond.selects RX4 yX4_isCoveredAtBegin yX4_isCoveredAtBegin ∈ gtbl := gtp (i := 17) (by decide +kernel) rfl
theorem s_yX4_followBest : Cond.selects RX4 yX4_followBest yX4_followBest ∈ gtbl := gtp (i := 18) (by decide +kernel) rfl
theorem s_yX4_layPiece : Cond.selects RX4 yX4_layPiece yX4_layPiece ∈ gtbl := gtp (i := 19) (by decide +kernel) rfl
theorem s_yX4_fallThatCosts : Cond.selects RX4 yX4_fallThatCosts yX4_fallThatCosts ∈ gtbl := gtp (i := 20) (by decide +kernel) rfl
theorem s_yX10_isNode : Cond.selects RX10 yX10_isNode yX10_isNode ∈ gtbl := gtp (i := 21) (by decide +kernel) rfl
theorem s_yX10_rainOf : Cond.selects RX10 yX10_rainOf yX10_rainOf ∈ gtbl := gtp (i := 22) (by decide +kernel) rfl
theorem s_yX10_levelOf : Cond.selects RX10 yX10_levelOf yX10_levelOf ∈ gtbl := gtp (i := 23) (by decide +kernel) rfl
theorem s_yX10_flowOf : Cond.selects RX10 yX10_flowOf yX10_flowOf ∈ gtbl := gtp (i := 24) (by decide +kernel) rfl
theorem s_yX10_pumpOf : Cond.selects RX10 yX10_pumpOf yX10_pumpOf ∈ gtbl := gtp (i := 25) (by decide +kernel) rfl
theorem s_yX10_gateOf : Cond.selects RX10 yX10_gateOf yX10_gateOf ∈ gtbl := gtp (i := 26) (by decide +kernel) rfl
theorem s_yX10_gullyOf : Cond.selects RX10 yX10_gullyOf yX10_gullyOf ∈ gtbl := gtp (i := 27) (by decide +kernel) rfl
theorem s_yX10_fullOf : Cond.selects RX10 yX10_fullOf yX10_fullOf ∈ gtbl := gtp (i := 28) (by decide +kernel) rfl
theorem s_yX10_nodeOf : Cond.selects RX10 yX10_nodeOf yX10_nodeOf ∈ gtbl := gtp (i := 29) (by decide +kernel) rfl
theorem s_yX10_inNodes : Cond.selects RX10 yX10_inNodes yX10_inNodes ∈ gtbl := gtp (i := 30) (by decide +kernel) rfl
theorem s_yX10_inCells : Cond.selects RX10 yX10_inCells yX10_inCells ∈ gtbl := gtp (i := 31) (by decide +kernel) rfl
theorem s_yX10_with : Cond.selects RX10 yX10_with yX10_with ∈ gtbl := gtp (i := 32) (by decide +kernel) rfl
theorem s_yX10_place : Cond.selects RX10 yX10_place yX10_place ∈ gtbl := gtp (i := 33) (by decide +kernel) rfl
abbrev mX9_init : Mx := (yX9_init, cX9_init, 2, none)
theorem wX9_init : CWd mX9_init 1 := ⟨gt (i := 25) (by decide +kernel) rfl, inX9, by decide +kernel, by decide⟩
theorem c_objectInit : Cond.code objectInit ⟨#[0xb1]⟩ 1 none ∈ gtbl := gt (i := 28) (by decide +kernel) rfl
abbrev mJx4a65c_init_da8c8 : Mx := (yJx4a65c_init_da8c8, cJx4a65c_init_da8c8, 1, none)
theorem wJx4a65c_init_da8c8 : CWd mJx4a65c_init_da8c8 0 := ⟨gt (i := 33) (by decide +kernel) rfl, inJx4a65c, by decide +kernel, by decide⟩
abbrev mJxc12de_init_da8c8 : Mx := (yJxc12de_init_da8c8, cJxc12de_init_da8c8, 1, none)
theorem wJxc12de_init_da8c8 : CWd mJxc12de_init_da8c8 0 := ⟨gt (i := 36) (by decide +kernel) rfl, inJxc12de, by decide +kernel, by decide⟩
abbrev mJxa1e45_init_da8c8 : Mx := (yJxa1e45_init_da8c8, cJxa1e45_init_da8c8, 1, none)
theorem wJxa1e45_init_da8c8 : CWd mJxa1e45_init_da8c8 0 := ⟨gt (i := 39) (by decide +kernel) rfl, inJxa1e45, by decide +kernel, by decide⟩
abbrev mX4_init : Mx := (yX4_init, cX4_init, 1, none)
theorem wX4_init : CWd mX4_init 0 := ⟨gt (i := 59) (by decide +kernel) rfl, inX4, by decide +kernel, by decide⟩
abbrev mJ9_min_7cf53 : Mx := (yJ9_min_7cf53, cJ9_min_7cf53, 2, (some FieldType.int))
theorem wJ9_min_7cf53 : CWd mJ9_min_7cf53 2 := ⟨gt (i := 100) (by decide +kernel) rfl, inJ9, by decide +kernel, by decide⟩
abbrev mJ9_max_7cf53 : Mx := (yJ9_max_7cf53, cJ9_max_7cf53, 2, (some FieldType.int))
theorem wJ9_max_7cf53 : CWd mJ9_max_7cf53 2 := ⟨gt (i := 103) (by decide +kernel) rfl, inJ9, by decide +kernel, by decide⟩
abbrev mX9_node : Mx := (yX9_node, cX9_node, 4, (some FieldType.int))
theorem wX9_node : CWd mX9_node 3 := ⟨gt (i := 150) (by decide +kernel) rfl, inX9, by decide +kernel, by decide⟩
abbrev mJx4a65c_size_8abf5 : Mx := (yJx4a65c_size_8abf5, cJx4a65c_size_8abf5, 1, (some FieldType.int))
theorem wJx4a65c_size_8abf5 : CWd mJx4a65c_size_8abf5 0 := ⟨gt (i := 154) (by decide +kernel) rfl, inJx4a65c, by decide +kernel, by decide⟩
abbrev mX9_isHeight : Mx := (yX9_isHeight, cX9_isHeight, 1, (some FieldType.boolean))
theorem wX9_isHeight : CWd mX9_isHeight 1 := ⟨gt (i := 157) (by decide +kernel) rfl, inX9, by decide +kernel, by decide⟩
abbrev mX9_isWithin : Mx := (yX9_isWithin, cX9_isWithin, 3, (some FieldType.boolean))
theorem wX9_isWithin : CWd mX9_isWithin 3 := ⟨gt (i := 162) (by decide +kernel) rfl, inX9, by decide +kernel, by decide⟩
abbrev mX5_init : Mx := (yX5_init, cX5_init, 4, none)
theorem wX5_init : CWd mX5_init 3 := ⟨gt (i := 167) (by decide +kernel) rfl, inX5, by decide +kernel, by decide⟩
abbrev mJx4a65c_add_9ea2d : Mx := (yJx4a65c_add_9ea2d, cJx4a65c_add_9ea2d, 2, (some FieldType.boolean))
theorem wJx4a65c_add_9ea2d : CWd mJx4a65c_add_9ea2d 1 := ⟨gt (i := 207) (by decide +kernel) rfl, inJx4a65c, by decide +kernel, by decide⟩
abbrev mJx4a65c_add_72be8 : Mx := (yJx4a65c_add_72be8, cJx4a65c_add_72be8, 4, none)
theorem wJx4a65c_add_72be8 : CWd mJx4a65c_add_72be8 3 := ⟨gt (i := 211) (by decide +kernel) rfl, inJx4a65c, by decide +kernel, by decide⟩
abbrev mJx4a65c_grow_d5877 : Mx := (yJx4a65c_grow_d5877, cJx4a65c_grow_d5877, 1, (some (FieldType.array (FieldType.object "java/lang/Object"))))
theorem wJx4a65c_grow_d5877 : CWd mJx4a65c_grow_d5877 0 := ⟨gt (i := 215) (by decide +kernel) rfl, inJx4a65c, by decide +kernel, by decide⟩
abbrev mJx4a65c_grow_92f84 : Mx := (yJx4a65c_grow_92f84, cJx4a65c_grow_92f84, 4, (some (FieldType.array (FieldType.object "java/lang/Object"))))
theorem wJx4a65c_grow_92f84 : CWd mJx4a65c_grow_92f84 1 := ⟨gt (i := 219) (by decide +kernel) rfl, inJx4a65c, by decide +kernel, by decide⟩
abbrev mJ8_newLength_cabcc : Mx := (yJ8_newLength_cabcc, cJ8_newLength_cabcc, 4, (some FieldType.int))
theorem wJ8_newLength_cabcc : CWd mJ8_newLength_cabcc 3 := ⟨gt (i := 222) (by decide +kernel) rfl, inJ8, by decide +kernel, by decide⟩
abbrev mJ8_hugeLength_7cf53 : Mx := (yJ8_hugeLength_7cf53, cJ8_hugeLength_7cf53, 3, (some FieldType.int))
theorem wJ8_hugeLength_7cf53 : CWd mJ8_hugeLength_7cf53 2 := ⟨gt (i := 227) (by decide +kernel) rfl, inJ8, by decide +kernel, by decide⟩
abbrev mJ7_copyOf_1904c : Mx := (yJ7_copyOf_1904c, cJ7_copyOf_1904c, 2, (some (FieldType.array (FieldType.object "java/lang/Object"))))
theorem wJ7_copyOf_1904c : CWd mJ7_copyOf_1904c 2 := ⟨gt (i := 230) (by decide +kernel) rfl, inJ7, by decide +kernel, by decide⟩
abbrev mJ7_copyOf_6403c : Mx := (yJ7_copyOf_6403c, cJ7_copyOf_6403c, 4, (some (FieldType.array (FieldType.object "java/lang/Object"))))
theorem wJ7_copyOf_6403c : CWd mJ7_copyOf_6403c 3 := ⟨gt (i := 249) (by decide +kernel) rfl, inJ7, by decide +kernel, by decide⟩
abbrev mX9_pipe : Mx := (yX9_pipe, cX9_pipe, 5, (some FieldType.int))
theorem wX9_pipe : CWd mX9_pipe 4 := ⟨gt (i := 262) (by decide +kernel) rfl, inX9, by decide +kernel, by decide⟩
abbrev mX9_areTwoNodes : Mx := (yX9_areTwoNodes, cX9_areTwoNodes, 3, (some FieldType.boolean))
theorem wX9_areTwoNodes : CWd mX9_areTwoNodes 2 := ⟨gt (i := 266) (by decide +kernel) rfl, inX9, by decide +kernel, by decide⟩
abbrev mX9_isNode : Mx := (yX9_isNode, cX9_isNode, 2, (some FieldType.boolean))
theorem wX9_isNode : CWd mX9_isNode 1 := ⟨gt (i := 270) (by decide +kernel) rfl, inX9, by decide +kernel, by decide⟩
abbrev mJx4a65c_get_915e3 : Mx := (yJx4a65c_get_915e3, cJx4a65c_get_915e3, 2, (some (FieldType.object "java/lang/Object")))
theorem wJx4a65c_get_915e3 : CWd mJx4a65c_get_915e3 1 := ⟨gt (i := 276) (by decide +kernel) rfl, inJx4a65c, by decide +kernel, by decide⟩
abbrev mJ15_checkIndex_7cf53 : Mx := (yJ15_checkIndex_7cf53, cJ15_checkIndex_7cf53, 2, (some FieldType.int))
theorem wJ15_checkIndex_7cf53 : CWd mJ15_checkIndex_7cf53 2 := ⟨gt (i := 279) (by decide +kernel) rfl, inJ15, by decide +kernel, by decide⟩
abbrev mJ3_checkIndex_8e157 : Mx := (yJ3_checkIndex_8e157, cJ3_checkIndex_8e157, 3, (some FieldType.int))
theorem wJ3_checkIndex_8e157 : CWd mJ3_checkIndex_8e157 3 := ⟨gt (i := 282) (by decide +kernel) rfl, inJ3, by decide +kernel, by decide⟩
abbrev mJx4a65c_elementData_915e3 : Mx := (yJx4a65c_elementData_915e3, cJx4a65c_elementData_915e3, 2, (some (FieldType.object "java/lang/Object")))
theorem wJx4a65c_elementData_915e3 : CWd mJx4a65c_elementData_915e3 1 := ⟨gt (i := 286) (by decide +kernel) rfl, inJx4a65c, by decide +kernel, by decide⟩
abbrev mX7_init : Mx := (yX7_init, cX7_init, 5, none)
theorem wX7_init : CWd mX7_init 4 := ⟨gt (i := 289) (by decide +kernel) rfl, inX7, by decide +kernel, by decide⟩
abbrev mX9_area : Mx := (yX9_area, cX9_area, 4, (some FieldType.int))
theorem wX9_area : CWd mX9_area 3 := ⟨gt (i := 320) (by decide +kernel) rfl, inX9, by decide +kernel, by decide⟩
abbrev mX0_init : Mx := (yX0_init, cX0_init, 4, none)
theorem wX0_init : CWd mX0_init 3 := ⟨gt (i := 326) (by decide +kernel) rfl, inX0, by decide +kernel, by decide⟩
abbrev mX9_rain : Mx := (yX9_rain, cX9_rain, 4, (some FieldType.int))
theorem wX9_rain : CWd mX9_rain 2 := ⟨gt (i := 341) (by decide +kernel) rfl, inX9, by decide +kernel, by decide⟩
abbrev mX9_pump : Mx := (yX9_pump, cX9_pump, 6, (some FieldType.int))
theorem wX9_pump : CWd mX9_pump 5 := ⟨gt (i := 345) (by decide +kernel) rfl, inX9, by decide +kernel, by decide⟩
abbrev mX8_init : Mx := (yX8_init, cX8_init, 6, none)
theorem wX8_init : CWd mX8_init 5 := ⟨gt (i := 350) (by decide +kernel) rfl, inX8, by decide +kernel, by decide⟩
abbrev mX9_gate : Mx := (yX9_gate, cX9_gate, 4, (some FieldType.int))
theorem wX9_gate : CWd mX9_gate 3 := ⟨gt (i := 375) (by decide +kernel) rfl, inX9, by decide +kernel, by decide⟩
abbrev mX2_init : Mx := (yX2_init, cX2_init, 4, none)
theorem wX2_init : CWd mX2_init 3 := ⟨gt (i := 381) (by decide +kernel) rfl, inX2, by decide +kernel, by decide⟩
abbrev mX9_gully : Mx := (yX9_gully, cX9_gully, 4, (some FieldType.int))
theorem wX9_gully : CWd mX9_gully 3 := ⟨gt (i := 396) (by decide +kernel) rfl, inX9, by decide +kernel, by decide⟩
abbrev mX9_isCell : Mx := (yX9_isCell, cX9_isCell, 1, (some FieldType.boolean))
theorem wX9_isCell : CWd mX9_isCell 1 := ⟨gt (i := 399) (by decide +kernel) rfl, inX9, by decide +kernel, by decide⟩
abbrev mX3_init : Mx := (yX3_init, cX3_init, 4, none)
theorem wX3_init : CWd mX3_init 3 := ⟨gt (i := 404) (by decide +kernel) rfl, inX3, by decide +kernel, by decide⟩
abbrev mX9_street : Mx := (yX9_street, cX9_street, 5, (some FieldType.int))
theorem wX9_street : CWd mX9_street 2 := ⟨gt (i := 420) (by decide +kernel) rfl, inX9, by decide +kernel, by decide⟩
abbrev mX9_run : Mx := (yX9_run, cX9_run, 3, (some FieldType.int))
theorem wX9_run : CWd mX9_run 1 := ⟨gt (i := 424) (by decide +kernel) rfl, inX9, by decide +kernel, by decide⟩
abbrev mX9_passSecond : Mx := (yX9_passSecond, cX9_passSecond, 2, none)
theorem wX9_passSecond : CWd mX9_passSecond 0 := ⟨gt (i := 429) (by decide +kernel) rfl, inX9, by decide +kernel, by decide⟩
abbrev mX9_rainOnAreas : Mx := (yX9_rainOnAreas, cX9_rainOnAreas, 3, none)
theorem wX9_rainOnAreas : CWd mX9_rainOnAreas 0 := ⟨gt (i := 433) (by decide +kernel) rfl, inX9, by decide +kernel, by decide⟩
abbrev mX0_takeRain : Mx := (yX0_takeRain, cX0_takeRain, 4, (some FieldType.long))
theorem wX0_takeRain : CWd mX0_takeRain 1 := ⟨gt (i := 437) (by decide +kernel) rfl, inX0, by decide +kernel, by decide⟩
abbrev mX9_carryByPipes : Mx := (yX9_carryByPipes, cX9_carryByPipes, 2, none)
theorem wX9_carryByPipes : CWd mX9_carryByPipes 0 := ⟨gt (i := 442) (by decide +kernel) rfl, inX9, by decide +kernel, by decide⟩
abbrev mX5_markLevel : Mx := (yX5_markLevel, cX5_markLevel, 1, none)
theorem wX5_markLevel : CWd mX5_markLevel 0 := ⟨gt (i := 446) (by decide +kernel) rfl, inX5, by decide +kernel, by decide⟩
abbrev mX5_levelNow : Mx := (yX5_levelNow, cX5_levelNow, 1, (some FieldType.long))
theorem wX5_levelNow : CWd mX5_levelNow 0 := ⟨gt (i := 450) (by decide +kernel) rfl, inX5, by decide +kernel, by decide⟩
abbrev mX7_carry : Mx := (yX7_carry, cX7_carry, 3, none)
theorem wX7_carry : CWd mX7_carry 0 := ⟨gt (i := 454) (by decide +kernel) rfl, inX7, by decide +kernel, by decide⟩
abbrev mX5_giveTo : Mx := (yX5_giveTo, cX5_giveTo, 6, (some FieldType.long))
theorem wX5_giveTo : CWd mX5_giveTo 2 := ⟨gt (i := 458) (by decide +kernel) rfl, inX5, by decide +kernel, by decide⟩
abbrev mJ9_min_f86c9 : Mx := (yJ9_min_f86c9, cJ9_min_f86c9, 4, (some FieldType.long))
theorem wJ9_min_f86c9 : CWd mJ9_min_f86c9 2 := ⟨gt (i := 461) (by decide +kernel) rfl, inJ9, by decide +kernel, by decide⟩
abbrev mX8_lift : Mx := (yX8_lift, cX8_lift, 3, none)
theorem wX8_lift : CWd mX8_lift 0 := ⟨gt (i := 465) (by decide +kernel) rfl, inX8, by decide +kernel, by decide⟩
abbrev mX2_letOut : Mx := (yX2_letOut, cX2_letOut, 3, (some FieldType.long))
theorem wX2_letOut : CWd mX2_letOut 0 := ⟨gt (i := 471) (by decide +kernel) rfl, inX2, by decide +kernel, by decide⟩
abbrev mJ9_max_f86c9 : Mx := (yJ9_max_f86c9, cJ9_max_f86c9, 4, (some FieldType.long))
theorem wJ9_max_f86c9 : CWd mJ9_max_f86c9 2 := ⟨gt (i := 475) (by decide +kernel) rfl, inJ9, by decide +kernel, by decide⟩
abbrev mX9_drainCells : Mx := (yX9_drainCells, cX9_drainCells, 3, none)
theorem wX9_drainCells : CWd mX9_drainCells 0 := ⟨gt (i := 479) (by decide +kernel) rfl, inX9, by decide +kernel, by decide⟩
abbrev mX3_drain : Mx := (yX3_drain, cX3_drain, 7, (some FieldType.long))
theorem wX3_drain : CWd mX3_drain 1 := ⟨gt (i := 483) (by decide +kernel) rfl, inX3, by decide +kernel, by decide⟩
abbrev mX9_spillNodes : Mx := (yX9_spillNodes, cX9_spillNodes, 5, none)
theorem wX9_spillNodes : CWd mX9_spillNodes 0 := ⟨gt (i := 489) (by decide +kernel) rfl, inX9, by decide +kernel, by decide⟩
abbrev mX5_spill : Mx := (yX5_spill, cX5_spill, 3, (some FieldType.long))
theorem wX5_spill : CWd mX5_spill 0 := ⟨gt (i := 493) (by decide +kernel) rfl, inX5, by decide +kernel, by decide⟩
abbrev mX9_told : Mx := (yX9_told, cX9_told, 4, (some FieldType.long))
theorem wX9_told : CWd mX9_told 2 := ⟨gt (i := 498) (by decide +kernel) rfl, inX9, by decide +kernel, by decide⟩
abbrev mX9_flow : Mx := (yX9_flow, cX9_flow, 4, (some FieldType.long))
theorem wX9_flow : CWd mX9_flow 2 := ⟨gt (i := 504) (by decide +kernel) rfl, inX9, by decide +kernel, by decide⟩
abbrev mX9_cell : Mx := (yX9_cell, cX9_cell, 2, (some FieldType.long))
theorem wX9_cell : CWd mX9_cell 1 := ⟨gt (i := 509) (by decide +kernel) rfl, inX9, by decide +kernel, by decide⟩
abbrev mX9_pumps : Mx := (yX9_pumps, cX9_pumps, 2, (some FieldType.int))
theorem wX9_pumps : CWd mX9_pumps 1 := ⟨gt (i := 514) (by decide +kernel) rfl, inX9, by decide +kernel, by decide⟩
abbrev mX9_litres : Mx := (yX9_litres, cX9_litres, 2, (some FieldType.long))
theorem wX9_litres : CWd mX9_litres 1 := ⟨gt (i := 518) (by decide +kernel) rfl, inX9, by decide +kernel, by decide⟩
abbrev mX9_litresInNodes : Mx := (yX9_litresInNodes, cX9_litresInNodes, 4, (some FieldType.long))
theorem wX9_litresInNodes : CWd mX9_litresInNodes 0 := ⟨gt (i := 522) (by decide +kernel) rfl, inX9, by decide +kernel, by decide⟩
abbrev mX9_litresInCells : Mx := (yX9_litresInCells, cX9_litresInCells, 4, (some FieldType.long))
theorem wX9_litresInCells : CWd mX9_litresInCells 0 := ⟨gt (i := 526) (by decide +kernel) rfl, inX9, by decide +kernel, by decide⟩
abbrev mX9_keeps : Mx := (yX9_keeps, cX9_keeps, 1, (some FieldType.boolean))
theorem wX9_keeps : CWd mX9_keeps 0 := ⟨gt (i := 530) (by decide +kernel) rfl, inX9, by decide +kernel, by decide⟩
abbrev mX9_list : Mx := (yX9_list, cX9_list, 3, (some FieldType.int))
theorem wX9_list : CWd mX9_list 2 := ⟨gt (i := 534) (by decide +kernel) rfl, inX9, by decide +kernel, by decide⟩
abbrev mX4_addEntry : Mx := (yX4_addEntry, cX4_addEntry, 4, (some FieldType.int))
theorem wX4_addEntry : CWd mX4_addEntry 2 := ⟨gt (i := 538) (by decide +kernel) rfl, inX4, by decide +kernel, by decide⟩
abbrev mX1_init : Mx := (yX1_init, cX1_init, 3, none)
theorem wX1_init : CWd mX1_init 2 := ⟨gt (i := 545) (by decide +kernel) rfl, inX1, by decide +kernel, by decide⟩
abbrev mX9_begin : Mx := (yX9_begin, cX9_begin, 3, (some FieldType.boolean))
theorem wX9_begin : CWd mX9_begin 2 := ⟨gt (i := 560) (by decide +kernel) rfl, inX9, by decide +kernel, by decide⟩
abbrev mX4_beginAnew : Mx := (yX4_beginAnew, cX4_beginAnew, 3, none)
theorem wX4_beginAnew : CWd mX4_beginAnew 2 := ⟨gt (i := 564) (by decide +kernel) rfl, inX4, by decide +kernel, by decide⟩
abbrev mX9_piece : Mx := (yX9_piece, cX9_piece, 4, (some FieldType.int))
theorem wX9_piece : CWd mX9_piece 3 := ⟨gt (i := 568) (by decide +kernel) rfl, inX9, by decide +kernel, by decide⟩
abbrev mX4_addPiece : Mx := (yX4_addPiece, cX4_addPiece, 5, (some FieldType.int))
theorem wX4_addPiece : CWd mX4_addPiece 3 := ⟨gt (i := 572) (by decide +kernel) rfl, inX4, by decide +kernel, by decide⟩
abbrev mX6_init : Mx := (yX6_init, cX6_init, 2, none)
theorem wX6_init : CWd mX6_init 1 := ⟨gt (i := 577) (by decide +kernel) rfl, inX6, by decide +kernel, by decide⟩
abbrev mX9_lay : Mx := (yX9_lay, cX9_lay, 3, (some FieldType.long))
theorem wX9_lay : CWd mX9_lay 2 := ⟨gt (i := 605) (by decide +kernel) rfl, inX9, by decide +kernel, by decide⟩
abbrev mX4_layBest : Mx := (yX4_layBest, cX4_layBest, 5, (some FieldType.long))
theorem wX4_layBest : CWd mX4_layBest 2 := ⟨gt (i := 609) (by decide +kernel) rfl, inX4, by decide +kernel, by decide⟩
abbrev mJx4a65c_isEmpty_aae02 : Mx := (yJx4a65c_isEmpty_aae02, cJx4a65c_isEmpty_aae02, 1, (some FieldType.boolean))
theorem wJx4a65c_isEmpty_aae02 : CWd mJx4a65c_isEmpty_aae02 0 := ⟨gt (i := 614) (by decide +kernel) rfl, inJx4a65c, by decide +kernel, by decide⟩
abbrev mX4_weighPiece : Mx := (yX4_weighPiece, cX4_weighPiece, 11, none)
theorem wX4_weighPiece : CWd mX4_weighPiece 1 := ⟨gt (i := 619) (by decide +kernel) rfl, inX4, by decide +kernel, by decide⟩
abbrev mX4_leastFall : Mx := (yX4_leastFall, cX4_leastFall, 12, (some FieldType.int))
theorem wX4_leastFall : CWd mX4_leastFall 2 := ⟨gt (i := 623) (by decide +kernel) rfl, inX4, by decide +kernel, by decide⟩
abbrev mX4_weighEnds : Mx := (yX4_weighEnds, cX4_weighEnds, 5, none)
theorem wX4_weighEnds : CWd mX4_weighEnds 2 := ⟨gt (i := 631) (by decide +kernel) rfl, inX4, by decide +kernel, by decide⟩
abbrev mX4_costFrom : Mx := (yX4_costFrom, cX4_costFrom, 10, (some FieldType.long))
theorem wX4_costFrom : CWd mX4_costFrom 3 := ⟨gt (i := 635) (by decide +kernel) rfl, inX4, by decide +kernel, by decide⟩
abbrev mX4_cheapestEnd : Mx := (yX4_cheapestEnd, cX4_cheapestEnd, 6, (some FieldType.int))
theorem wX4_cheapestEnd : CWd mX4_cheapestEnd 3 := ⟨gt (i := 641) (by decide +kernel) rfl, inX4, by decide +kernel, by decide⟩
abbrev mX4_isCoveredAtBegin : Mx := (yX4_isCoveredAtBegin, cX4_isCoveredAtBegin, 5, (some FieldType.boolean))
theorem wX4_isCoveredAtBegin : CWd mX4_isCoveredAtBegin 3 := ⟨gt (i := 645) (by decide +kernel) rfl, inX4, by decide +kernel, by decide⟩
abbrev mX4_followBest : Mx := (yX4_followBest, cX4_followBest, 4, none)
theorem wX4_followBest : CWd mX4_followBest 0 := ⟨gt (i := 649) (by decide +kernel) rfl, inX4, by decide +kernel, by decide⟩
abbrev mX4_layPiece : Mx := (yX4_layPiece, cX4_layPiece, 9, none)
theorem wX4_layPiece : CWd mX4_layPiece 3 := ⟨gt (i := 653) (by decide +kernel) rfl, inX4, by decide +kernel, by decide⟩
abbrev mX4_fallThatCosts : Mx := (yX4_fallThatCosts, cX4_fallThatCosts, 7, (some FieldType.int))
theorem wX4_fallThatCosts : CWd mX4_fallThatCosts 4 := ⟨gt (i := 657) (by decide +kernel) rfl, inX4, by decide +kernel, by decide⟩
abbrev mX9_laid : Mx := (yX9_laid, cX9_laid, 3, (some FieldType.int))
theorem wX9_laid : CWd mX9_laid 2 := ⟨gt (i := 661) (by decide +kernel) rfl, inX9, by decide +kernel, by decide⟩
abbrev mX4_tellLaid : Mx := (yX4_tellLaid, cX4_tellLaid, 4, (some FieldType.int))
theorem wX4_tellLaid : CWd mX4_tellLaid 2 := ⟨gt (i := 665) (by decide +kernel) rfl, inX4, by decide +kernel, by decide⟩
abbrev mX9_count : Mx := (yX9_count, cX9_count, 2, (some FieldType.int))
theorem wX9_count : CWd mX9_count 1 := ⟨gt (i := 671) (by decide +kernel) rfl, inX9, by decide +kernel, by decide⟩
abbrev mL_cell : Mx := (yL_cell, cL_cell, 2, (some FieldType.int))
theorem wL_cell : CWd mL_cell 2 := ⟨gt (i := 674) (by decide +kernel) rfl, inL, by decide +kernel, by decide⟩
abbrev mX10_init : Mx := (yX10_init, cX10_init, 2, none)
theorem wX10_init : CWd mX10_init 1 := ⟨gt (i := 679) (by decide +kernel) rfl, inX10, by decide +kernel, by decide⟩
abbrev mX10_node : Mx := (yX10_node, cX10_node, 4, (some FieldType.int))
theorem wX10_node : CWd mX10_node 3 := ⟨gt (i := 863) (by decide +kernel) rfl, inX10, by decide +kernel, by decide⟩
abbrev mX10_is : Mx := (yX10_is, cX10_is, 3, (some FieldType.boolean))
theorem wX10_is : CWd mX10_is 3 := ⟨gt (i := 868) (by decide +kernel) rfl, inX10, by decide +kernel, by decide⟩
abbrev mX10_pipe : Mx := (yX10_pipe, cX10_pipe, 5, (some FieldType.int))
theorem wX10_pipe : CWd mX10_pipe 4 := ⟨gt (i := 872) (by decide +kernel) rfl, inX10, by decide +kernel, by decide⟩
abbrev mX10_isNode : Mx := (yX10_isNode, cX10_isNode, 2, (some FieldType.boolean))
theorem wX10_isNode : CWd mX10_isNode 1 := ⟨gt (i := 876) (by decide +kernel) rfl, inX10, by decide +kernel, by decide⟩
abbrev mX10_area : Mx := (yX10_area, cX10_area, 4, (some FieldType.int))
theorem wX10_area : CWd mX10_area 3 := ⟨gt (i := 880) (by decide +kernel) rfl, inX10, by decide +kernel, by decide⟩
abbrev mX10_rain : Mx := (yX10_rain, cX10_rain, 4, (some FieldType.int))
theorem wX10_rain : CWd mX10_rain 2 := ⟨gt (i := 885) (by decide +kernel) rfl, inX10, by decide +kernel, by decide⟩
abbrev mX10_pump : Mx := (yX10_pump, cX10_pump, 6, (some FieldType.int))
theorem wX10_pump : CWd mX10_pump 5 := ⟨gt (i := 889) (by decide +kernel) rfl, inX10, by decide +kernel, by decide⟩
abbrev mX10_gate : Mx := (yX10_gate, cX10_gate, 4, (some FieldType.int))
theorem wX10_gate : CWd mX10_gate 3 := ⟨gt (i := 893) (by decide +kernel) rfl, inX10, by decide +kernel, by decide⟩
abbrev mX10_gully : Mx := (yX10_gully, cX10_gully, 4, (some FieldType.int))
theorem wX10_gully : CWd mX10_gully 3 := ⟨gt (i := 898) (by decide +kernel) rfl, inX10, by decide +kernel, by decide⟩
abbrev mX10_street : Mx := (yX10_street, cX10_street, 4, (some FieldType.int))
theorem wX10_street : CWd mX10_street 2 := ⟨gt (i := 902) (by decide +kernel) rfl, inX10, by decide +kernel, by decide⟩
abbrev mX10_run : Mx := (yX10_run, cX10_run, 4, (some FieldType.int))
theorem wX10_run : CWd mX10_run 1 := ⟨gt (i := 906) (by decide +kernel) rfl, inX10, by decide +kernel, by decide⟩
abbrev mX10_rainOf : Mx := (yX10_rainOf, cX10_rainOf, 5, none)
theorem wX10_rainOf : CWd mX10_rainOf 2 := ⟨gt (i := 911) (by decide +kernel) rfl, inX10, by decide +kernel, by decide⟩
abbrev mX10_levelOf : Mx := (yX10_levelOf, cX10_levelOf, 2, (some FieldType.long))
theorem wX10_levelOf : CWd mX10_levelOf 1 := ⟨gt (i := 916) (by decide +kernel) rfl, inX10, by decide +kernel, by decide⟩
abbrev mX10_flowOf : Mx := (yX10_flowOf, cX10_flowOf, 10, none)
theorem wX10_flowOf : CWd mX10_flowOf 1 := ⟨gt (i := 920) (by decide +kernel) rfl, inX10, by decide +kernel, by decide⟩
abbrev mX10_less : Mx := (yX10_less, cX10_less, 4, (some FieldType.long))
theorem wX10_less : CWd mX10_less 2 := ⟨gt (i := 924) (by decide +kernel) rfl, inX10, by decide +kernel, by decide⟩
abbrev mX10_pumpOf : Mx := (yX10_pumpOf, cX10_pumpOf, 6, none)
theorem wX10_pumpOf : CWd mX10_pumpOf 1 := ⟨gt (i := 928) (by decide +kernel) rfl, inX10, by decide +kernel, by decide⟩
abbrev mX10_gateOf : Mx := (yX10_gateOf, cX10_gateOf, 7, none)
theorem wX10_gateOf : CWd mX10_gateOf 1 := ⟨gt (i := 932) (by decide +kernel) rfl, inX10, by decide +kernel, by decide⟩
abbrev mX10_gullyOf : Mx := (yX10_gullyOf, cX10_gullyOf, 7, none)
theorem wX10_gullyOf : CWd mX10_gullyOf 1 := ⟨gt (i := 936) (by decide +kernel) rfl, inX10, by decide +kernel, by decide⟩
abbrev mX10_fullOf : Mx := (yX10_fullOf, cX10_fullOf, 2, (some FieldType.long))
theorem wX10_fullOf : CWd mX10_fullOf 1 := ⟨gt (i := 940) (by decide +kernel) rfl, inX10, by decide +kernel, by decide⟩
abbrev mX10_nodeOf : Mx := (yX10_nodeOf, cX10_nodeOf, 4, none)
theorem wX10_nodeOf : CWd mX10_nodeOf 1 := ⟨gt (i := 944) (by decide +kernel) rfl, inX10, by decide +kernel, by decide⟩
abbrev mX10_told : Mx := (yX10_told, cX10_told, 3, (some FieldType.long))
theorem wX10_told : CWd mX10_told 2 := ⟨gt (i := 948) (by decide +kernel) rfl, inX10, by decide +kernel, by decide⟩
abbrev mX10_flow : Mx := (yX10_flow, cX10_flow, 3, (some FieldType.long))
theorem wX10_flow : CWd mX10_flow 2 := ⟨gt (i := 953) (by decide +kernel) rfl, inX10, by decide +kernel, by decide⟩
abbrev mX10_cell : Mx := (yX10_cell, cX10_cell, 2, (some FieldType.long))
theorem wX10_cell : CWd mX10_cell 1 := ⟨gt (i := 958) (by decide +kernel) rfl, inX10, by decide +kernel, by decide⟩
abbrev mX10_pumps : Mx := (yX10_pumps, cX10_pumps, 2, (some FieldType.int))
theorem wX10_pumps : CWd mX10_pumps 1 := ⟨gt (i := 963) (by decide +kernel) rfl, inX10, by decide +kernel, by decide⟩
abbrev mX10_litres : Mx := (yX10_litres, cX10_litres, 2, (some FieldType.long))
theorem wX10_litres : CWd mX10_litres 1 := ⟨gt (i := 967) (by decide +kernel) rfl, inX10, by decide +kernel, by decide⟩
abbrev mX10_inNodes : Mx := (yX10_inNodes, cX10_inNodes, 4, (some FieldType.long))
theorem wX10_inNodes : CWd mX10_inNodes 0 := ⟨gt (i := 971) (by decide +kernel) rfl, inX10, by decide +kernel, by decide⟩
abbrev mX10_inCells : Mx := (yX10_inCells, cX10_inCells, 4, (some FieldType.long))
theorem wX10_inCells : CWd mX10_inCells 0 := ⟨gt (i := 975) (by decide +kernel) rfl, inX10, by decide +kernel, by decide⟩
abbrev mX10_keeps : Mx := (yX10_keeps, cX10_keeps, 1, (some FieldType.boolean))
theorem wX10_keeps : CWd mX10_keeps 0 := ⟨gt (i := 979) (by decide +kernel) rfl, inX10, by decide +kernel, by decide⟩
abbrev mX10_list : Mx := (yX10_list, cX10_list, 3, (some FieldType.int))
theorem wX10_list : CWd mX10_list 2 := ⟨gt (i := 983) (by decide +kernel) rfl, inX10, by decide +kernel, by decide⟩
abbrev mX10_begin : Mx := (yX10_begin, cX10_begin, 3, (some FieldType.boolean))
theorem wX10_begin : CWd mX10_begin 2 := ⟨gt (i := 987) (by decide +kernel) rfl, inX10, by decide +kernel, by decide⟩
abbrev mX10_piece : Mx := (yX10_piece, cX10_piece, 4, (some FieldType.int))
theorem wX10_piece : CWd mX10_piece 3 := ⟨gt (i := 991) (by decide +kernel) rfl, inX10, by decide +kernel, by decide⟩
abbrev mX10_lay : Mx := (yX10_lay, cX10_lay, 13, (some FieldType.long))
theorem wX10_lay : CWd mX10_lay 2 := ⟨gt (i := 995) (by decide +kernel) rfl, inX10, by decide +kernel, by decide⟩
abbrev mX10_with : Mx := (yX10_with, cX10_with, 13, (some FieldType.long))
theorem wX10_with : CWd mX10_with 6 := ⟨gt (i := 1000) (by decide +kernel) rfl, inX10, by decide +kernel, by decide⟩
abbrev mX10_place : Mx := (yX10_place, cX10_place, 4, (some FieldType.int))
theorem wX10_place : CWd mX10_place 3 := ⟨gt (i := 1004) (by decide +kernel) rfl, inX10, by decide +kernel, by decide⟩
abbrev mX10_laid : Mx := (yX10_laid, cX10_laid, 3, (some FieldType.int))
theorem wX10_laid : CWd mX10_laid 2 := ⟨gt (i := 1009) (by decide +kernel) rfl, inX10, by decide +kernel, by decide⟩
abbrev mX10_count : Mx := (yX10_count, cX10_count, 2, (some FieldType.int))
theorem wX10_count : CWd mX10_count 1 := ⟨gt (i := 1014) (by decide +kernel) rfl, inX10, by decide +kernel, by decide⟩
theorem ac_I : Cond.arrayClass .int ∈ gtbl := gt (i := 96) (by decide +kernel) rfl
theorem ac_J : Cond.arrayClass .long ∈ gtbl := gt (i := 97) (by decide +kernel) rfl
theorem ac_Z : Cond.arrayClass .boolean ∈ gtbl := gt (i := 859) (by decide +kernel) rfl
theorem sf_mod : Cond.sameField "java/util/ArrayList" (TJx4a65c 0).1 (TJx4a65c 0).2.1 (TJx4a65c 0).2.2.1 ∈ gtbl := gt (i := 47) (by decide +kernel) rfl
end
section

theorem nle {a b : Nat} (h : Nat.ble a b = true) : a ≤ b := Nat.le_of_ble_eq_true h
theorem nlt {a b : Nat} (h : Nat.ble (a + 1) b = true) : a < b := Nat.le_of_ble_eq_true h
def PI (P : Int32 → Wd → Prop) : Option Value → Wd → Prop := fun v w' => ∃ r : Int32, v = some (.int r) ∧ P r w'
def PL (P : Int64 → Wd → Prop) : Option Value → Wd → Prop := fun v w' => ∃ r : Int64, v = some (.long r) ∧ P r w'
def PA (P : Nat → Wd → Prop) : Option Value → Wd → Prop := fun v w' => ∃ r : Nat, v = some (.ref r) ∧ P r w'
def PV (P : Wd → Prop) : Option Value → Wd → Prop := fun v w' => v = none ∧ P w'
section KK
variable {K : Kx} {cc : ByteArray} {E : Ex} {kc ks : Nat} {pc : Nat} {lv : List (Option Value)} {rest : List Value}
theorem kI {P : Int32 → Wd → Prop} (kk : ∀ (r : Int32) (w' : Wd), P r w' → J K cc E kc ks w' pc lv (.int r :: rest)) : ∀ (v : Option Value) (w' : Wd), PI P v w' → J K cc E kc ks w' pc lv (v.toList ++ rest) := by
  rintro v w' ⟨r, rfl, hp⟩
  exact kk r w' hp
theorem kL {P : Int64 → Wd → Prop} (kk : ∀ (r : Int64) (w' : Wd), P r w' → J K cc E kc ks w' pc lv (.long r :: rest)) : ∀ (v : Option Value) (w' : Wd), PL P v w' → J K cc E kc ks w' pc lv (v.toList ++ rest) := by
  rintro v w' ⟨r, rfl, hp⟩
  exact kk r w' hp
theorem kA {P : Nat → Wd → Prop} (kk : ∀ (r : Nat) (w' : Wd), P r w' → J K cc E kc ks w' pc lv (.ref r :: rest)) : ∀ (v : Option Value) (w' : Wd), PA P v w' → J K cc E kc ks w' pc lv (v.toList ++ rest) := by
  rintro v w' ⟨r, rfl, hp⟩
  exact kk r w' hp
theorem kV {P : Wd → Prop} (kk : ∀ (w' : Wd), P w' → J K cc E kc ks w' pc lv rest) : ∀ (v : Option Value) (w' : Wd), PV P v w' → J K cc E kc ks w' pc lv (v.toList ++ rest) := by
  rintro v w' ⟨rfl, hp⟩
  exact kk w' hp
end KK
theorem ne_of {w : Wd} {x q : Nat} {e : va_E} (h : w x = some e) (hq : w q = none) : x ≠ q := by
  intro z
  rw [z, hq] at h
  cases h
theorem wst_wst (w : Wd) (a : Nat) (e e' : va_E) : wst (wst w a e) a e' = wst w a e' := by
  funext q
  by_cases h : q = a
  · subst h; rw [wst_s, wst_s]
  · rw [wst_n h, wst_n h, wst_n h]
abbrev oNode (bo ro : Int32) (fu li ma ov ga : Int64) (sr : Int32) : va_E := .inr (6, [.int bo, .int ro, .long fu, .long li, .long ma, .long ov, .long ga, .int sr])


set_option maxRecDepth 100000 in
set_option maxHeartbeats 4000000 in
/-- Node.levelNow() -/
theorem c_levelNow (K : Kx) {w : Wd} {a : Nat} {bo ro : Int32} {fu li ma ov ga : Int64} {sr : Int32} (ha : w a = some (oNode bo ro fu li ma ov ga sr)) (hro : ¬ ro.toInt64 = 0) : MT K mX5_levelNow 0 0 0 [.ref a] w (PL fun r w' => r = bo.toInt64 + li / ro.toInt64 ∧ w' = w) := by
  refine MT.of [some (.ref a)] (by decide) rfl (nle rfl) rfl ?_
  intro E hC hR
  refine j_aload_n hC dX5_levelNow_0 rfl ?_
  refine j_get hC cfX5 dX5_levelNow_1 fX5_15 (by decide) ha rfl ?_
  refine j_i2l hC dX5_levelNow_4 ?_
  refine j_aload_n hC dX5_levelNow_5 rfl ?_
  refine j_get hC cfX5 dX5_levelNow_6 fX5_25 (by decide) ha rfl ?_
  refine j_aload_n hC dX5_levelNow_9 rfl ?_
  refine j_get hC cfX5 dX5_levelNow_10 fX5_18 (by decide) ha rfl ?_
  refine j_i2l hC dX5_levelNow_13 ?_
  refine j_ldiv hC dX5_levelNow_14 (hro) ?_
  refine j_ladd hC dX5_levelNow_15 ?_
  exact j_lret hC hR dX5_levelNow_16 rfl ⟨_, rfl, rfl, rfl⟩

set_option maxRecDepth 100000 in
set_option maxHeartbeats 4000000 in
/-- Node.markLevel() -/
theorem c_markLevel (K : Kx) {w : Wd} {a : Nat} {bo ro : Int32} {fu li ma ov ga : Int64} {sr : Int32} (ha : w a = some (oNode bo ro fu li ma ov ga sr)) (hro : ¬ ro.toInt64 = 0) : MT K mX5_markLevel 1 0 0 [.ref a] w (PV fun w' => w' = wst w a (oNode bo ro fu li (bo.toInt64 + li / ro.toInt64) ov ga sr)) := by
  refine MT.of [some (.ref a)] (by decide) rfl (nle rfl) rfl ?_
  intro E hC hR
  refine j_aload_n hC dX5_markLevel_0 rfl ?_
  refine j_aload_n hC dX5_markLevel_1 rfl ?_
  refine j_callv (kc' := 0) (ks' := 0) (r := (RX5, TX5, 8)) hC (c_levelNow K ha hro) dX5_markLevel_2 wX5_levelNow lX5_28 i_yX5_levelNow s_yX5_levelNow ha rfl rfl rfl (nle rfl) rfl (by decide) (by decide) (by decide) (kL fun r w' hp => ?_)
  obtain ⟨rfl, rfl⟩ := hp
  refine j_put (fs' := [_, _, _, _, _, _, _, _]) hC cfX5 dX5_markLevel_5 fX5_32 rfl (by decide) ha rfl rfl (nlt rfl) rfl ?_
  exact j_vret hC hR dX5_markLevel_8 rfl ⟨rfl, rfl⟩

set_option maxRecDepth 100000 in
set_option maxHeartbeats 4000000 in
/-- Node.giveTo(other, wanted) -/
theorem c_giveTo (K : Kx) {w : Wd} {a b : Nat} {bo ro : Int32} {fu li ma ov ga : Int64} {sr : Int32} {bo2 ro2 : Int32} {fu2 li2 ma2 ov2 ga2 : Int64} {sr2 : Int32} (x : Int64) (ha : w a = some (oNode bo ro fu li ma ov ga sr)) (hb : w b = some (oNode bo2 ro2 fu2 li2 ma2 ov2 ga2 sr2)) (hab : a ≠ b) : MT K mX5_giveTo 1 0 0 [.ref a, .ref b, .long x] w (PL fun r w' => r = (if li < x then li else x) ∧ w' = wst (wst w a (oNode bo ro fu (li - (if li < x then li else x)) ma ov ga sr)) b (oNode bo2 ro2 fu2 (li2 + (if li < x then li else x)) ma2 ov2 ga2 sr2)) := by
  refine MT.of [some (.ref a), some (.ref b), some (.long x), none, none, none] (by decide) rfl (nle rfl) rfl ?_
  intro E hC hR
  refine j_lload_n hC dX5_giveTo_0 rfl ?_
  refine j_aload_n hC dX5_giveTo_1 rfl ?_
  refine j_get hC cfX5 dX5_giveTo_2 fX5_25 (by decide) ha rfl ?_
  refine j_mminL hC dX5_giveTo_5 lX5_35 t_yJ9_min_f86c9 inJ9 wJ9_min_f86c9.1 rfl (nle rfl) (by decide) ?_
  refine j_lstore (lv' := [some _, some _, some _, none, some _, none]) hC dX5_giveTo_8 (nlt rfl) rfl ?_
  refine j_aload_n hC dX5_giveTo_10 rfl ?_
  refine j_dup hC dX5_giveTo_11 rfl ?_
  refine j_get hC cfX5 dX5_giveTo_12 fX5_25 (by decide) ha rfl ?_
  refine j_lload hC dX5_giveTo_15 rfl ?_
  refine j_lsub hC dX5_giveTo_17 ?_
  refine j_put (fs' := [_, _, _, _, _, _, _, _]) hC cfX5 dX5_giveTo_18 fX5_25 rfl (by decide) ha rfl rfl (nlt rfl) rfl ?_
  refine j_aload_n hC dX5_giveTo_21 rfl ?_
  refine j_dup hC dX5_giveTo_22 rfl ?_
  refine j_get hC cfX5 dX5_giveTo_23 fX5_25 (by decide) ((wst_n (Ne.symm hab)).trans hb) rfl ?_
  refine j_lload hC dX5_giveTo_26 rfl ?_
  refine j_ladd hC dX5_giveTo_28 ?_
  refine j_put (fs' := [_, _, _, _, _, _, _, _]) hC cfX5 dX5_giveTo_29 fX5_25 rfl (by decide) ((wst_n (Ne.symm hab)).trans hb) rfl rfl (nlt rfl) rfl ?_
  refine j_lload hC dX5_giveTo_32 rfl ?_
  exact j_lret hC hR dX5_giveTo_34 rfl ⟨_, rfl, rfl, rfl⟩

set_option maxRecDepth 100000 in
set_option maxHeartbeats 4000000 in
/-- Node.spill() -/
theorem c_spill (K : Kx) {w : Wd} {a : Nat} {bo ro : Int32} {fu li ma ov ga : Int64} {sr : Int32} (ha : w a = some (oNode bo ro fu li ma ov ga sr)) : MT K mX5_spill 1 0 0 [.ref a] w (PL fun r w' => r = (if li - fu < 0 then 0 else li - fu) ∧ w' = wst w a (oNode bo ro fu (li - (if li - fu < 0 then 0 else li - fu)) ma (ov + (if li - fu < 0 then 0 else li - fu)) ga sr)) := by
  refine MT.of [some (.ref a), none, none] (by decide) rfl (nle rfl) rfl ?_
  intro E hC hR
  refine j_lconst hC (0) dX5_spill_0 (by decide) ?_
  refine j_aload_n hC dX5_spill_1 rfl ?_
  refine j_get hC cfX5 dX5_spill_2 fX5_25 (by decide) ha rfl ?_
  refine j_aload_n hC dX5_spill_5 rfl ?_
  refine j_get hC cfX5 dX5_spill_6 fX5_21 (by decide) ha rfl ?_
  refine j_lsub hC dX5_spill_9 ?_
  refine j_mmaxL hC dX5_spill_10 lX5_41 t_yJ9_max_f86c9 inJ9 wJ9_max_f86c9.1 rfl (nle rfl) (by decide) ?_
  refine j_lstore_n (lv' := [some _, some _, none]) hC dX5_spill_13 (nlt rfl) rfl ?_
  refine j_aload_n hC dX5_spill_14 rfl ?_
  refine j_dup hC dX5_spill_15 rfl ?_
  refine j_get hC cfX5 dX5_spill_16 fX5_25 (by decide) ha rfl ?_
  refine j_lload_n hC dX5_spill_19 rfl ?_
  refine j_lsub hC dX5_spill_20 ?_
  refine j_put (fs' := [_, _, _, _, _, _, _, _]) hC cfX5 dX5_spill_21 fX5_25 rfl (by decide) ha rfl rfl (nlt rfl) rfl ?_
  refine j_aload_n hC dX5_spill_24 rfl ?_
  refine j_dup hC dX5_spill_25 rfl ?_
  refine j_get hC cfX5 dX5_spill_26 fX5_44 (by decide) (wst_s _ _ _) rfl ?_
  refine j_lload_n hC dX5_spill_29 rfl ?_
  refine j_ladd hC dX5_spill_30 ?_
  refine j_put (fs' := [_, _, _, _, _, _, _, _]) hC cfX5 dX5_spill_31 fX5_44 rfl (by decide) (wst_s _ _ _) rfl rfl (nlt rfl) rfl ?_
  refine j_lload_n hC dX5_spill_34 rfl ?_
  exact j_lret hC hR dX5_spill_35 rfl ⟨_, rfl, rfl, by rw [wst_wst]⟩

set_option maxRecDepth 100000 in
set_option maxHeartbeats 4000000 in
/-- Node(ground, bottom, room) -/
theorem c_Node (K : Kx) {w : Wd} {a : Nat} (gr bo ro : Int32) (ha : w a = some (oNode 0 0 0 0 0 0 0 0)) : MT K mX5_init 1 0 0 [.ref a, .int gr, .int bo, .int ro] w (PV fun w' => w' = wst w a (oNode bo ro (ro.toInt64 * (gr - bo).toInt64) 0 0 0 0 (-1))) := by
  refine MT.of [some (.ref a), some (.int gr), some (.int bo), some (.int ro)] (by decide) rfl (nle rfl) rfl ?_
  intro E hC hR
  refine j_aload_n hC dX5_init_0 rfl ?_
  refine j_obj hC dX5_init_1 lX5_3 i_objectInit c_objectInit rfl (nle rfl) (by decide) ?_
  refine j_aload_n hC dX5_init_4 rfl ?_
  refine j_iconst hC (-1) dX5_init_5 (by decide) ?_
  refine j_put (fs' := [_, _, _, _, _, _, _, _]) hC cfX5 dX5_init_6 fX5_9 rfl (by decide) ha rfl rfl (nlt rfl) rfl ?_
  refine j_aload_n hC dX5_init_9 rfl ?_
  refine j_iload_n hC dX5_init_10 rfl ?_
  refine j_putF (fs' := [_, _, _, _, _, _, _, _]) hC cfX5 dX5_init_11 hR.nm fX5_15 rfl rfl (by decide) (wst_s _ _ _) rfl rfl (nlt rfl) rfl ?_
  refine j_aload_n hC dX5_init_14 rfl ?_
  refine j_iload_n hC dX5_init_15 rfl ?_
  refine j_putF (fs' := [_, _, _, _, _, _, _, _]) hC cfX5 dX5_init_16 hR.nm fX5_18 rfl rfl (by decide) (wst_s _ _ _) rfl rfl (nlt rfl) rfl ?_
  refine j_aload_n hC dX5_init_19 rfl ?_
  refine j_iload_n hC dX5_init_20 rfl ?_
  refine j_i2l hC dX5_init_21 ?_
  refine j_iload_n hC dX5_init_22 rfl ?_
  refine j_iload_n hC dX5_init_23 rfl ?_
  refine j_isub hC dX5_init_24 ?_
  refine j_i2l hC dX5_init_25 ?_
  refine j_lmul hC dX5_init_26 ?_
  refine j_putF (fs' := [_, _, _, _, _, _, _, _]) hC cfX5 dX5_init_27 hR.nm fX5_21 rfl rfl (by decide) (wst_s _ _ _) rfl rfl (nlt rfl) rfl ?_
  exact j_vret hC hR dX5_init_30 rfl ⟨rfl, by simp only [wst_wst]⟩
end
section

/-- all cells of a world below n, as a list -/
def wl (w : Wd) (n : Nat) : va_W := (List.range n).filterMap (fun q => (w q).map (fun e => (q, e)))
theorem wl_mem {w : Wd} {n q : Nat} {e : va_E} : (q, e) ∈ wl w n ↔ q < n ∧ w q = some e := by
  unfold wl
  rw [List.mem_filterMap]
  constructor
  · rintro ⟨x, hx, hy⟩
    rw [List.mem_range] at hx
    cases hw : w x with
    | none => rw [hw] at hy; cases hy
    | some e' =>
      rw [hw] at hy
      simp only [Option.map_some, Option.some.injEq, Prod.mk.injEq] at hy
      obtain ⟨rfl, rfl⟩ := hy
      exact ⟨hx, hw⟩
  · rintro ⟨h1, h2⟩
    exact ⟨q, List.mem_range.mpr h1, by rw [h2]; rfl⟩
theorem wl_P {g : Gx} {w : Wd} {H : Heap} (h : wh g w H) : va_P g.1 vwCl (wl w H.size) H := by
  intro k q hk
  obtain ⟨a, e⟩ := q
  exact h a e (wl_mem.mp (List.mem_of_getElem? hk)).2
theorem wl_nodup (w : Wd) (n : Nat) : ((wl w n).map Prod.fst).Nodup := by
  have hs : ((wl w n).map Prod.fst).Sublist (List.range n) := by
    unfold wl
    induction (List.range n) with
    | nil => exact List.Sublist.slnil
    | cons x t ih =>
      rw [List.filterMap_cons]
      cases hw : w x with
      | none => exact List.Sublist.cons _ ih
      | some e => exact List.Sublist.cons_cons _ ih
  exact hs.nodup List.nodup_range
theorem wl_D {B : Nat} {w : Wd} {n : Nat} (h : wb B w) : va_D (fun q : Nat => B ≤ q) (wl w n) := by
  refine ⟨fun i j p q hi hj hpq => ?_, fun k q hk => ?_⟩
  · have hnd := wl_nodup w n
    have e1 : ((wl w n).map Prod.fst)[i]? = some p.1 := by rw [List.getElem?_map, hi]; rfl
    have e2 : ((wl w n).map Prod.fst)[j]? = some p.1 := by rw [List.getElem?_map, hj, hpq]; rfl
    obtain ⟨li, vi⟩ := List.getElem?_eq_some_iff.mp e1
    obtain ⟨lj, vj⟩ := List.getElem?_eq_some_iff.mp e2
    rcases Nat.lt_trichotomy i j with h1 | h1 | h1
    · exact absurd (vi.trans vj.symm) ((List.pairwise_iff_getElem.mp hnd) i j li lj h1)
    · exact h1
    · exact absurd (vj.trans vi.symm) ((List.pairwise_iff_getElem.mp hnd) j i lj li h1)
  · obtain ⟨a, e⟩ := q
    exact h a e (wl_mem.mp (List.mem_of_getElem? hk)).2
theorem wl_at {g : Gx} {w : Wd} {H : Heap} (h : wh g w H) {a : Nat} {e : va_E} (ha : w a = some e) : ∃ k : Nat, (wl w H.size)[k]? = some (a, e) := List.getElem?_of_mem (wl_mem.mpr ⟨h.lt ha, ha⟩)
theorem wl_back {g : Gx} {w : Wd} {H H1 : Heap} {a k : Nat} {e0 e' : va_E} (h : wh g w H) (hk : (wl w H.size)[k]? = some (a, e0)) (hP : va_P g.1 vwCl ((wl w H.size).set k (a, e')) H1) : wh g (wst w a e') H1 := by
  have hl := (List.getElem?_eq_some_iff.mp hk).1
  intro q e hq
  by_cases hqa : q = a
  · subst hqa
    rw [wst_s] at hq
    cases hq
    exact hP k _ (List.getElem?_set_self hl)
  · rw [wst_n hqa] at hq
    obtain ⟨i, hi⟩ := wl_at h hq
    have hik : k ≠ i := by
      intro z
      subst z
      rw [hk] at hi
      cases hi
      exact hqa rfl
    exact hP i _ (by rw [List.getElem?_set_ne hik]; exact hi)

theorem gc_l : Cond.methodLink "java/util/Arrays" 86 ⟨"java/lang/Object", "getClass", "()Ljava/lang/Class;"⟩ ∈ gtbl := gt (i := 231) (by decide +kernel) rfl
theorem gc_i : Cond.instanceMethod ⟨"java/lang/Object", "getClass", "()Ljava/lang/Class;"⟩ ∈ gtbl := gt (i := 232) (by decide +kernel) rfl
theorem gc_s : Cond.selects "[Ljava/lang/Object;" ⟨"java/lang/Object", "getClass", "()Ljava/lang/Class;"⟩ ⟨"java/lang/Object", "getClass", "()Ljava/lang/Class;"⟩ ∈ gtbl := gt (i := 1024) (by decide +kernel) rfl
theorem gc_n : Cond.native ⟨"java/lang/Object", "getClass", "()Ljava/lang/Class;"⟩ ∈ gtbl := gt (i := 246) (by decide +kernel) rfl
theorem ay_l : Cond.methodLink "java/util/Arrays" 150 arraycopyName ∈ gtbl := gt (i := 254) (by decide +kernel) rfl
theorem ay_t : Cond.static arraycopyName ∈ gtbl := gt (i := 255) (by decide +kernel) rfl
theorem ay_n : Cond.native arraycopyName ∈ gtbl := gt (i := 256) (by decide +kernel) rfl
theorem st_l : Cond.fieldLink "java/util/ArrayList" 39 "java/util/ArrayList" "DEFAULTCAPACITY_EMPTY_ELEMENTDATA" "[Ljava/lang/Object;" ∈ gtbl := gt (i := 41) (by decide +kernel) rfl

section JJ
variable {K : Kx} {own : String} {cc : ByteArray} {nL d : Nat} {E : Ex} {kc ks : Nat} {w : Wd} {pc : Nat} {lv : List (Option Value)} {st : List Value} {a : Nat}
theorem j_gets (hC : BX K "java/util/ArrayList" cc nL d E) (hd : decode cc pc = .ok (.getstatic 39, 3)) (k : J K cc E kc ks w (pc + 3) lv (.ref K.2.1.2.2.2.2.2.1 :: st)) : J K cc E kc ks w pc lv st := by
  obtain ⟨p, e, R, s, m, args, below, meth, c, Q⟩ := E
  obtain ⟨hx, hb, hml, hown, hts, hK, hSt, hlk, hfr, hlo, hBs⟩ := hC
  intro H locs cells slots ls h1 h2 h3 h4 h5 h6
  exact va_gets hx hb hSt.2.1 h5 hown (hts _ st_l) (fun _ h => h) hd (k H locs cells slots ls h1 h2 h3 h4 h5 h6)
theorem j_alenE (hC : BX K own cc nL d E) (hd : decode cc pc = .ok (.arraylength, 1)) (k : J K cc E kc ks w (pc + 1) lv (.int 0 :: st)) : J K cc E kc ks w pc lv (.ref K.2.1.2.2.2.2.2.1 :: st) := by
  obtain ⟨p, e, R, s, m, args, below, meth, c, Q⟩ := E
  obtain ⟨hx, hb, hml, hown, hts, hK, hSt, hlk, hfr, hlo, hBs⟩ := hC
  intro H locs cells slots ls h1 h2 h3 h4 h5 h6
  exact va_tlen hx hb hSt.2.2.1 h5 (by decide) hd (k H locs cells slots ls h1 h2 h3 h4 h5 h6)
theorem j_acmp_eq (hC : BX K own cc nL d E) {a b : Nat} {off : Int} (tgt : Nat) (hd : decode cc pc = .ok (.if_acmp .eq off, 3)) (ht : (pc : Int) + off = (tgt : Int)) (kt : a = b → J K cc E kc ks w tgt lv st) (kf : ¬ a = b → J K cc E kc ks w (pc + 3) lv st) : J K cc E kc ks w pc lv (.ref b :: .ref a :: st) := by
  obtain ⟨p, e, R, s, m, args, below, meth, c, Q⟩ := E
  obtain ⟨hx, hb, hml, hown, hts, hK, hSt, hlk, hfr, hlo, hBs⟩ := hC
  intro H locs cells slots ls h1 h2 h3 h4 h5 h6
  exact lv_acmp_eq (rx := some a) (ry := some b) hx hb hd ht (fun z => kt (Option.some.inj z) H locs cells slots ls h1 h2 h3 h4 h5 h6) (fun z => kf (fun q => z (by rw [q])) H locs cells slots ls h1 h2 h3 h4 h5 h6)
theorem j_acmp_ne (hC : BX K own cc nL d E) {a b : Nat} {off : Int} (tgt : Nat) (hd : decode cc pc = .ok (.if_acmp .ne off, 3)) (ht : (pc : Int) + off = (tgt : Int)) (kt : ¬ a = b → J K cc E kc ks w tgt lv st) (kf : a = b → J K cc E kc ks w (pc + 3) lv st) : J K cc E kc ks w pc lv (.ref b :: .ref a :: st) := by
  obtain ⟨p, e, R, s, m, args, below, meth, c, Q⟩ := E
  obtain ⟨hx, hb, hml, hown, hts, hK, hSt, hlk, hfr, hlo, hBs⟩ := hC
  intro H locs cells slots ls h1 h2 h3 h4 h5 h6
  exact lv_acmp_ne (rx := some a) (ry := some b) hx hb hd ht (fun z => kt (fun q => z (by rw [q])) H locs cells slots ls h1 h2 h3 h4 h5 h6) (fun z => kf (Option.some.inj z) H locs cells slots ls h1 h2 h3 h4 h5 h6)
theorem j_getC (hC : BX K "java/util/Arrays" cc nL d E) {n : Nat} {f : Nat → Option Nat} (hd : decode cc pc = .ok (.invokevirtual 86, 3)) (hw : w a = some (aO K.2.1 n f)) (hlen : lv.length = nL) (hrm : (st.map fun v => v.category).sum ≤ 8) (hd1 : 1 ≤ d) (k : J K cc E kc ks w (pc + 3) lv (.ref K.2.1.2.2.2.2.2.2 :: st)) : J K cc E kc ks w pc lv (.ref a :: st) := by
  obtain ⟨p, e, R, s, m, args, below, meth, c, Q⟩ := E
  obtain ⟨hx, hb, hml, hown, hts, hK, hSt, hlk, hfr, hlo, hBs⟩ := hC
  intro H locs cells slots ls h1 h2 h3 h4 h5 h6
  have hcl : s.vm.findClass "[Ljava/lang/Object;" = some K.2.1.2.2.2.2.1 := va_nmO (hK.2 3 _ rfl).2 (by decide +kernel)
  exact va_getC hx hb (by rw [hml, ← hlen]; exact h6.1.symm) hown (hts _ gc_l) (va_Dc.use hSt.1.2.2.2.1) (hts _ gc_s) (hts _ gc_i) (hts _ gc_n) hSt.2.2.2 ⟨_, h3 a _ hw, rfl, hcl⟩ (by omega) (by omega) hd (k H locs cells slots ls h1 h2 h3 h4 h5 h6)
theorem j_ldcC (hC : BX K "java/util/Arrays" cc nL d E) (hd : decode cc pc = .ok (.ldc 110, 2)) (hcl : Cond.classLink "java/util/Arrays" 110 "[Ljava/lang/Object;" ∈ gtbl) (k : J K cc E kc ks w (pc + 2) lv (.ref K.2.1.2.2.2.2.2.2 :: st)) : J K cc E kc ks w pc lv st := by
  obtain ⟨p, e, R, s, m, args, below, meth, c, Q⟩ := E
  obtain ⟨hx, hb, hml, hown, hts, hK, hSt, hlk, hfr, hlo, hBs⟩ := hC
  intro H locs cells slots ls h1 h2 h3 h4 h5 h6
  exact va_ldcM hx hb hown (hts _ hcl) hSt.2.2.2 hd (k H locs cells slots ls h1 h2 h3 h4 h5 h6)
theorem j_copy (hC : BX K "java/util/Arrays" cc nL d E) {a0 n0 n1 N : Nat} {f g : Nat → Option Nat} (hd : decode cc pc = .ok (.invokestatic 150, 3)) (hw0 : w a0 = some (aO K.2.1 n0 f)) (hw : w a = some (aO K.2.1 n1 g)) (hlen : lv.length = nL) (hrm : (st.map fun v => v.category).sum ≤ 8) (hd1 : 1 ≤ d) (hN : N < 2 ^ 31) (hN0 : N ≤ n0) (hN1 : N ≤ n1) (hel : ∀ i : Nat, i < N → ∀ y : Nat, f i = some y → ∃ (ci : Nat) (fs : List Value) (r : vw_C), w y = some (.inr (ci, fs)) ∧ vwCl[ci]? = some r ∧ r.1 ∈ ([RX0, RX1, RX2, RX3, RX5, RX6, RX7, RX8] : List String)) (k : J K cc E kc ks (wst w a (aO K.2.1 n1 (va_cpy f g 0 0 N))) (pc + 3) lv st) : J K cc E kc ks w pc lv (.int (nI N) :: .int 0 :: .ref a :: .int 0 :: .ref a0 :: st) := by
  obtain ⟨p, e, R, s, m, args, below, meth, c, Q⟩ := E
  obtain ⟨hx, hb, hml, hown, hts, hK, hSt, hlk, hfr, hlo, hBs⟩ := hC
  intro H locs cells slots ls h1 h2 h3 h4 h5 h6
  obtain ⟨k0, hk0⟩ := wl_at h3 hw0
  obtain ⟨k1, hk1⟩ := wl_at h3 hw
  have ec : (nI N).toNatClampNeg = N := nI_clamp hN
  have e0 : (0 : Int32).toNatClampNeg = 0 := by decide
  refine va_copyM (D := K.2.1.1) (E0 := "java/lang/Object") (E1 := "java/lang/Object") hx hb (by rw [hml, ← hlen]; exact h6.1.symm) hown (hts _ ay_l) (hts _ ay_n) (hts _ ay_t) (hts _ inJ10) hK (wl_P h3) (wl_D h4) h5 k0 k1 3 3 hk0 hk1 rfl rfl (by decide) (by decide) (nI_pos hN) (by rw [ec, e0]; omega) (by rw [ec, e0]; omega) ?_ (by omega) (by have hz : nativeFrameWords "java/lang/System" "arraycopy" 5 ≤ 20 := (by decide); omega) hd (fun H1 locs1 hP1 hD1 hS1 => ?_)
  · rw [ec, e0]
    intro i hi y hy
    rw [Nat.zero_add] at hy
    obtain ⟨ci, fs, r, q1, q2, q3⟩ := hel i hi y hy
    exact h3.any hK hSt.1 q1 q2 q3
  · rw [ec, e0] at hP1
    exact k H1 locs1 cells slots ls h1 h2 (wl_back h3 hk1 hP1) (h4.set (h4 a _ hw)) hS1 h6
end JJ
abbrev oList (mc : Int32) (e : Nat) (sz : Int32) : va_E := .inr (0, [.int mc, .ref e, .int sz])

set_option maxRecDepth 100000 in
set_option maxHeartbeats 4000000 in
theorem c_chk0 (K : Kx) {w : Wd} (i n : Int32) (h0 : ¬ i < 0) (h1 : i < n) : MT K mJ3_checkIndex_8e157 0 0 0 [.int i, .int n, .null] w (PI fun r w' => r = i ∧ w' = w) := by
  refine MT.of [some (.int i), some (.int n), some (.null)] (by decide) rfl (nle rfl) rfl ?_
  intro E hC hR
  refine j_iload_n hC dJ3_checkIndex_8e157_0 rfl ?_
  refine j_if_lt hC 9 dJ3_checkIndex_8e157_1 (by decide) (fun c_1 => ?_) (fun c_1 => ?_)
  · exact absurd c_1 h0
  · refine j_iload_n hC dJ3_checkIndex_8e157_4 rfl ?_
    refine j_iload_n hC dJ3_checkIndex_8e157_5 rfl ?_
    refine j_icmp_lt hC 16 dJ3_checkIndex_8e157_6 (by decide) (fun c_6 => ?_) (fun c_6 => ?_)
    · refine j_iload_n hC dJ3_checkIndex_8e157_16 rfl ?_
      exact j_iret hC hR dJ3_checkIndex_8e157_17 rfl ⟨_, rfl, rfl, rfl⟩
    · exact absurd h1 c_6

set_option maxRecDepth 100000 in
set_option maxHeartbeats 4000000 in
theorem c_chk (K : Kx) {w : Wd} (i n : Int32) (h0 : ¬ i < 0) (h1 : i < n) : MT K mJ15_checkIndex_7cf53 1 0 0 [.int i, .int n] w (PI fun r w' => r = i ∧ w' = w) := by
  refine MT.of [some (.int i), some (.int n)] (by decide) rfl (nle rfl) rfl ?_
  intro E hC hR
  refine j_iload_n hC dJ15_checkIndex_7cf53_0 rfl ?_
  refine j_iload_n hC dJ15_checkIndex_7cf53_1 rfl ?_
  refine j_null hC dJ15_checkIndex_7cf53_2 ?_
  refine j_calls (kc' := 0) (ks' := 0) hC (c_chk0 K i n h0 h1) dJ15_checkIndex_7cf53_3 wJ3_checkIndex_8e157 lJ15_105 t_yJ3_checkIndex_8e157 rfl rfl (nle rfl) rfl (by decide) (by decide) (by decide) (kI fun r w' hp => ?_)
  obtain ⟨rfl, rfl⟩ := hp
  exact j_iret hC hR dJ15_checkIndex_7cf53_6 rfl ⟨_, rfl, rfl, rfl⟩

set_option maxRecDepth 100000 in
set_option maxHeartbeats 4000000 in
theorem c_size (K : Kx) {w : Wd} {l : Nat} {mc sz : Int32} {e : Nat} (hl : w l = some (oList mc e sz)) : MT K mJx4a65c_size_8abf5 0 0 0 [.ref l] w (PI fun r w' => r = sz ∧ w' = w) := by
  refine MT.of [some (.ref l)] (by decide) rfl (nle rfl) rfl ?_
  intro E hC hR
  refine j_aload_n hC dJx4a65c_size_8abf5_0 rfl ?_
  refine j_get hC cfJx4a65c dJx4a65c_size_8abf5_1 fJx4a65c_48 (by decide) hl rfl ?_
  exact j_iret hC hR dJx4a65c_size_8abf5_4 rfl ⟨_, rfl, rfl, rfl⟩

set_option maxRecDepth 100000 in
set_option maxHeartbeats 4000000 in
theorem c_isEmpty (K : Kx) {w : Wd} {l : Nat} {mc sz : Int32} {e : Nat} (hl : w l = some (oList mc e sz)) : MT K mJx4a65c_isEmpty_aae02 0 0 0 [.ref l] w (PI fun r w' => r = (if sz = 0 then 1 else 0) ∧ w' = w) := by
  refine MT.of [some (.ref l)] (by decide) rfl (nle rfl) rfl ?_
  intro E hC hR
  refine j_aload_n hC dJx4a65c_isEmpty_aae02_0 rfl ?_
  refine j_get hC cfJx4a65c dJx4a65c_isEmpty_aae02_1 fJx4a65c_48 (by decide) hl rfl ?_
  refine j_if_ne hC 11 dJx4a65c_isEmpty_aae02_4 (by decide) (fun c_4 => ?_) (fun c_4 => ?_)
  · refine j_iconst hC (0) dJx4a65c_isEmpty_aae02_11 (by decide) ?_
    exact j_zret hC hR dJx4a65c_isEmpty_aae02_12 rfl (by decide) ⟨_, rfl, by simp [c_4], rfl⟩
  · refine j_iconst hC (1) dJx4a65c_isEmpty_aae02_7 (by decide) ?_
    refine j_goto hC 12 dJx4a65c_isEmpty_aae02_8 (by decide) ?_
    exact j_zret hC hR dJx4a65c_isEmpty_aae02_12 rfl (by decide) ⟨_, rfl, by simp [c_4], rfl⟩

set_option maxRecDepth 100000 in
set_option maxHeartbeats 4000000 in
theorem c_elem (K : Kx) {w : Wd} {l n k b : Nat} {f : Nat → Option Nat} {mc sz : Int32} {e : Nat} (hl : w l = some (oList mc e sz)) (he : w e = some (aO K.2.1 n f)) (hk : k < n) (hN : n < 2 ^ 31) (hf : f k = some b) : MT K mJx4a65c_elementData_915e3 0 0 0 [.ref l, .int (nI k)] w (PA fun r w' => r = b ∧ w' = w) := by
  refine MT.of [some (.ref l), some (.int (nI k))] (by decide) rfl (nle rfl) rfl ?_
  intro E hC hR
  refine j_aload_n hC dJx4a65c_elementData_915e3_0 rfl ?_
  refine j_get hC cfJx4a65c dJx4a65c_elementData_915e3_1 fJx4a65c_9 (by decide) hl rfl ?_
  refine j_iload_n hC dJx4a65c_elementData_915e3_4 rfl ?_
  refine j_aldO hC dJx4a65c_elementData_915e3_5 he (ix_nI hk hN) hf ?_
  exact j_aret hC hR dJx4a65c_elementData_915e3_6 rfl (Or.inl ⟨_, rfl⟩) ⟨_, rfl, rfl, rfl⟩

set_option maxRecDepth 100000 in
set_option maxHeartbeats 4000000 in
theorem c_lget (K : Kx) {w : Wd} {l n k b sz : Nat} {f : Nat → Option Nat} {mc : Int32} {e : Nat} (hl : w l = some (oList mc e (nI sz))) (he : w e = some (aO K.2.1 n f)) (hks : k < sz) (hsn : sz ≤ n) (hN : n < 2 ^ 31) (hf : f k = some b) : MT K mJx4a65c_get_915e3 2 0 0 [.ref l, .int (nI k)] w (PA fun r w' => r = b ∧ w' = w) := by
  refine MT.of [some (.ref l), some (.int (nI k))] (by decide) rfl (nle rfl) rfl ?_
  intro E hC hR
  refine j_iload_n hC dJx4a65c_get_915e3_0 rfl ?_
  refine j_aload_n hC dJx4a65c_get_915e3_1 rfl ?_
  refine j_get hC cfJx4a65c dJx4a65c_get_915e3_2 fJx4a65c_48 (by decide) hl rfl ?_
  refine j_calls (kc' := 0) (ks' := 0) hC (c_chk K (nI k) (nI sz) (nI_pos (by omega)) ((nI_ltI (by omega) (by omega)).mpr hks)) dJx4a65c_get_915e3_5 wJ15_checkIndex_7cf53 lJx4a65c_118 t_yJ15_checkIndex_7cf53 rfl rfl (nle rfl) rfl (by decide) (by decide) (by decide) (kI fun r w' hp => ?_)
  obtain ⟨rfl, rfl⟩ := hp
  refine j_pop hC dJx4a65c_get_915e3_8 rfl ?_
  refine j_aload_n hC dJx4a65c_get_915e3_9 rfl ?_
  refine j_iload_n hC dJx4a65c_get_915e3_10 rfl ?_
  refine j_callv (kc' := 0) (ks' := 0) (r := (RJx4a65c, TJx4a65c, 3)) hC (c_elem K hl he (Nat.lt_of_lt_of_le hks hsn) hN hf) dJx4a65c_get_915e3_11 wJx4a65c_elementData_915e3 lJx4a65c_123 i_yJx4a65c_elementData_915e3 s_yJx4a65c_elementData_915e3 hl rfl rfl rfl (nle rfl) rfl (by decide) (by decide) (by decide) (kA fun r w' hp => ?_)
  obtain ⟨rfl, rfl⟩ := hp
  exact j_aret hC hR dJx4a65c_get_915e3_14 rfl (Or.inl ⟨_, rfl⟩) ⟨_, rfl, rfl, rfl⟩
end
section

theorem kA_7 : Cond.classLink "java/util/ArrayList" 7 "java/lang/Object" ∈ gtbl := gt (i := 258) (by decide +kernel) rfl


theorem wst_comm {w : Wd} {a b : Nat} {e1 e2 : va_E} (h : a ≠ b) : wst (wst w a e1) b e2 = wst (wst w b e2) a e1 := by
  funext q
  by_cases h1 : q = a
  · subst h1; rw [wst_n h, wst_s, wst_s]
  · by_cases h2 : q = b
    · subst h2; rw [wst_s, wst_n h1, wst_s]
    · rw [wst_n h2, wst_n h1, wst_n h1, wst_n h2]
theorem wst_add {w : Wd} {l r : Nat} {a b c d : va_E} (h : l ≠ r) : wst (wst (wst (wst w r a) l b) r c) l d = wst (wst w r c) l d := by
  rw [wst_comm (a := l) (b := r) h, wst_wst, wst_wst]


theorem ne_of_st {w : Wd} {l r : Nat} {e : va_E} (h : wst w l e r = none) : l ≠ r := by
  intro z
  subst z
  rw [wst_s] at h
  cases h
theorem el_st {w : Wd} {l y ci' : Nat} {mc mc' sz sz' : Int32} {e e' : Nat} {fs' : List Value} {r' : vw_C} (hl : w l = some (oList mc e sz)) (z1 : w y = some (.inr (ci', fs'))) (z2 : vwCl[ci']? = some r') (z3 : r'.1 ∈ ([RX0, RX1, RX2, RX3, RX5, RX6, RX7, RX8] : List String)) :
    ∃ (ci : Nat) (fs : List Value) (r : vw_C), wst w l (oList mc' e' sz') y = some (.inr (ci, fs)) ∧ vwCl[ci]? = some r ∧ r.1 ∈ ([RX0, RX1, RX2, RX3, RX5, RX6, RX7, RX8] : List String) := by
  refine ⟨ci', fs', r', ?_, z2, z3⟩
  rw [wst_n]
  · exact z1
  · intro z
    rw [z, hl] at z1
    cases z1
    cases z2
    revert z3
    decide

set_option maxRecDepth 100000 in
set_option maxHeartbeats 4000000 in
theorem c_AC (K : Kx) {w : Wd} {l : Nat}  : MT K mJxa1e45_init_da8c8 1 0 0 [.ref l] w (PV fun w' => w' = w) := by
  refine MT.of [some (.ref l)] (by decide) rfl (nle rfl) rfl ?_
  intro E hC hR
  refine j_aload_n hC dJxa1e45_init_da8c8_0 rfl ?_
  refine j_obj hC dJxa1e45_init_da8c8_1 lJxa1e45_1 i_objectInit c_objectInit rfl (nle rfl) (by decide) ?_
  exact j_vret hC hR dJxa1e45_init_da8c8_4 rfl ⟨rfl, rfl⟩

set_option maxRecDepth 100000 in
set_option maxHeartbeats 4000000 in
theorem c_AL (K : Kx) {w : Wd} {l : Nat} {mc : Int32} {ev : Value} {sz : Int32} (hl : w l = some (.inr (0, [.int mc, ev, .int sz]))) : MT K mJxc12de_init_da8c8 2 0 0 [.ref l] w (PV fun w' => w' = wst w l (.inr (0, [.int 0, ev, .int sz]))) := by
  refine MT.of [some (.ref l)] (by decide) rfl (nle rfl) rfl ?_
  intro E hC hR
  refine j_aload_n hC dJxc12de_init_da8c8_0 rfl ?_
  refine j_calli (kc' := 0) (ks' := 0) hC (c_AC K) dJxc12de_init_da8c8_1 wJxa1e45_init_da8c8 lJxc12de_1 i_yJxa1e45_init_da8c8 rfl rfl rfl (nle rfl) rfl (by decide) (by decide) (by decide) (kV fun w' hp => ?_)
  subst hp
  refine j_aload_n hC dJxc12de_init_da8c8_4 rfl ?_
  refine j_iconst hC (0) dJxc12de_init_da8c8_5 (by decide) ?_
  refine j_put (fs' := [_, _, _]) hC cfJx4a65c dJxc12de_init_da8c8_6 fJxc12de_7 rfl (by decide) hl rfl rfl (nlt rfl) rfl ?_
  exact j_vret hC hR dJxc12de_init_da8c8_9 rfl ⟨rfl, rfl⟩

set_option maxRecDepth 100000 in
set_option maxHeartbeats 4000000 in
theorem c_List (K : Kx) {w : Wd} {l : Nat} (hl : w l = some (.inr (0, [.int 0, .null, .int 0]))) : MT K mJx4a65c_init_da8c8 3 0 0 [.ref l] w (PV fun w' => w' = wst w l (oList 0 K.2.1.2.2.2.2.2.1 0)) := by
  refine MT.of [some (.ref l)] (by decide) rfl (nle rfl) rfl ?_
  intro E hC hR
  refine j_aload_n hC dJx4a65c_init_da8c8_0 rfl ?_
  refine j_calli (kc' := 0) (ks' := 0) hC (c_AL K hl) dJx4a65c_init_da8c8_1 wJxc12de_init_da8c8 lJx4a65c_1 i_yJxc12de_init_da8c8 rfl rfl rfl (nle rfl) rfl (by decide) (by decide) (by decide) (kV fun w' hp => ?_)
  subst hp
  refine j_aload_n hC dJx4a65c_init_da8c8_4 rfl ?_
  refine j_gets hC dJx4a65c_init_da8c8_5 ?_
  refine j_put (fs' := [_, _, _]) hC cfJx4a65c dJx4a65c_init_da8c8_8 fJx4a65c_9 rfl (by decide) (wst_s _ _ _) rfl rfl (nlt rfl) rfl ?_
  exact j_vret hC hR dJx4a65c_init_da8c8_11 rfl ⟨rfl, by rw [wst_wst]⟩

set_option maxRecDepth 100000 in
set_option maxHeartbeats 4000000 in
theorem c_copy3 (K : Kx) {w : Wd} {a0 n N : Nat} {f : Nat → Option Nat} (h0 : w a0 = some (aO K.2.1 n f)) (hnN : n ≤ N) (hN : N ≤ 60) (hel : ∀ i : Nat, i < n → ∀ y : Nat, f i = some y → ∃ (ci : Nat) (fs : List Value) (r : vw_C), w y = some (.inr (ci, fs)) ∧ vwCl[ci]? = some r ∧ r.1 ∈ ([RX0, RX1, RX2, RX3, RX5, RX6, RX7, RX8] : List String)) : MT K mJ7_copyOf_6403c 1 1 60 [.ref a0, .int (nI N), .ref K.2.1.2.2.2.2.2.2] w (PA fun r w' => w r = none ∧ w' = wst w r (aO K.2.1 N (va_cpy f (fun _ => none) 0 0 n))) := by
  refine MT.of [some (.ref a0), some (.int (nI N)), some (.ref K.2.1.2.2.2.2.2.2), none] (by decide) rfl (nle rfl) rfl ?_
  intro E hC hR
  refine j_aload_n hC dJ7_copyOf_6403c_0 rfl ?_
  refine j_ldcC hC dJ7_copyOf_6403c_1 kJ7_110 ?_
  refine j_acmp_ne hC 13 dJ7_copyOf_6403c_3 (by decide) (fun c => absurd rfl c) (fun _ => ?_)
  refine j_iload_n hC dJ7_copyOf_6403c_6 rfl ?_
  refine j_newO (n' := N) (kc' := 0) (ks' := 0) hC dJ7_copyOf_6403c_7 kJ7_2 (nI_pos (by omega)) (nI_clamp (by omega)) (by omega) (by decide) (by omega) (fun q7 hq7 => ?_)
  refine j_goto hC 24 dJ7_copyOf_6403c_10 (by decide) ?_
  refine j_astore_n (lv' := [some _, some _, some _, some _]) hC dJ7_copyOf_6403c_24 (nlt rfl) rfl ?_
  refine j_aload_n hC dJ7_copyOf_6403c_25 rfl ?_
  refine j_iconst hC (0) dJ7_copyOf_6403c_26 (by decide) ?_
  refine j_aload_n hC dJ7_copyOf_6403c_27 rfl ?_
  refine j_iconst hC (0) dJ7_copyOf_6403c_28 (by decide) ?_
  refine j_aload_n hC dJ7_copyOf_6403c_29 rfl ?_
  refine j_alenO hC dJ7_copyOf_6403c_30 ((wst_n (ne_of h0 hq7)).trans h0) ?_
  refine j_iload_n hC dJ7_copyOf_6403c_31 rfl ?_
  refine j_mmin hC dJ7_copyOf_6403c_32 lJ7_304 t_yJ9_min_7cf53 inJ9 wJ9_min_7cf53.1 rfl (nle rfl) (by decide) ?_
  refine J.toI (y := nI n) (if_neg (by rw [nI_ltI (by omega) (by omega)]; omega)) ?_
  refine j_copy hC dJ7_copyOf_6403c_35 ((wst_n (ne_of h0 hq7)).trans h0) (wst_s _ _ _) rfl (nle rfl) (by decide) (by omega) (Nat.le_refl _) hnN ?_ ?_
  · intro i hi y hy
    obtain ⟨ci, fs, r, z1, z2, z3⟩ := hel i hi y hy
    exact ⟨ci, fs, r, (wst_n (ne_of z1 hq7)).trans z1, z2, z3⟩
  refine j_aload_n hC dJ7_copyOf_6403c_38 rfl ?_
  exact j_aret hC hR dJ7_copyOf_6403c_39 rfl (Or.inr ⟨_, rfl⟩) ⟨_, rfl, hq7, by rw [wst_wst]⟩

set_option maxRecDepth 100000 in
set_option maxHeartbeats 4000000 in
theorem c_copy2 (K : Kx) {w : Wd} {a0 n N : Nat} {f : Nat → Option Nat} (h0 : w a0 = some (aO K.2.1 n f)) (hnN : n ≤ N) (hN : N ≤ 60) (hel : ∀ i : Nat, i < n → ∀ y : Nat, f i = some y → ∃ (ci : Nat) (fs : List Value) (r : vw_C), w y = some (.inr (ci, fs)) ∧ vwCl[ci]? = some r ∧ r.1 ∈ ([RX0, RX1, RX2, RX3, RX5, RX6, RX7, RX8] : List String)) : MT K mJ7_copyOf_1904c 2 1 60 [.ref a0, .int (nI N)] w (PA fun r w' => w r = none ∧ w' = wst w r (aO K.2.1 N (va_cpy f (fun _ => none) 0 0 n))) := by
  refine MT.of [some (.ref a0), some (.int (nI N))] (by decide) rfl (nle rfl) rfl ?_
  intro E hC hR
  refine j_aload_n hC dJ7_copyOf_1904c_0 rfl ?_
  refine j_iload_n hC dJ7_copyOf_1904c_1 rfl ?_
  refine j_aload_n hC dJ7_copyOf_1904c_2 rfl ?_
  refine j_getC hC dJ7_copyOf_1904c_3 h0 rfl (nle rfl) (by decide) ?_
  refine j_calls (kc' := 0) (ks' := 0) hC (c_copy3 K h0 hnN hN hel) dJ7_copyOf_1904c_6 wJ7_copyOf_6403c lJ7_300 t_yJ7_copyOf_6403c rfl rfl (nle rfl) rfl (by decide) (by decide) (by decide) (kA fun r w' hp => ?_)
  obtain ⟨hr0, rfl⟩ := hp
  exact j_aret hC hR dJ7_copyOf_1904c_9 rfl (Or.inr ⟨_, rfl⟩) ⟨_, rfl, hr0, rfl⟩

set_option maxRecDepth 100000 in
set_option maxHeartbeats 4000000 in
theorem c_newLen (K : Kx) {w : Wd} {N : Nat} (h2 : 2 ≤ N) (hN : N ≤ 1000) : MT K mJ8_newLength_cabcc 1 0 0 [.int (nI N), .int 1, .int (nI (N / 2))] w (PI fun r w' => r = nI (N + N / 2) ∧ w' = w) := by
  refine MT.of [some (.int (nI N)), some (.int 1), some (.int (nI (N / 2))), none] (by decide) rfl (nle rfl) rfl ?_
  intro E hC hR
  refine j_iload_n hC dJ8_newLength_cabcc_0 rfl ?_
  refine j_iload_n hC dJ8_newLength_cabcc_1 rfl ?_
  refine j_iload_n hC dJ8_newLength_cabcc_2 rfl ?_
  refine j_mmax hC dJ8_newLength_cabcc_3 lJ8_194 t_yJ9_max_7cf53 inJ9 wJ9_max_7cf53.1 rfl (nle rfl) (by decide) ?_
  refine J.toI (y := nI (N / 2)) (by
      by_cases h : N / 2 = 1
      · rw [h]; decide
      · rw [if_pos]; exact (nI_ltI (a := 1) (by omega) (by omega)).mpr (by omega)) ?_
  refine j_iadd hC dJ8_newLength_cabcc_6 ?_
  refine j_istore_n (lv' := [some _, some _, some _, some _]) hC dJ8_newLength_cabcc_7 (nlt rfl) rfl ?_
  refine j_iconst hC (0) dJ8_newLength_cabcc_8 (by decide) ?_
  refine j_iload_n hC dJ8_newLength_cabcc_9 rfl ?_
  refine j_icmp_ge hC 21 dJ8_newLength_cabcc_10 (by decide) (fun c_10 => ?_) (fun c_10 => ?_)
  · exact absurd c_10 (by rw [nI_add]; exact (fun q => absurd ((nI_leI (b := 0) (by omega) (by omega)).mp q) (by omega)))
  · refine j_iload_n hC dJ8_newLength_cabcc_13 rfl ?_
    refine j_ldc hC dJ8_newLength_cabcc_14 nJ8_200 ?_
    refine j_icmp_gt hC 21 dJ8_newLength_cabcc_16 (by decide) (fun c_16 => ?_) (fun c_16 => ?_)
    · exact absurd c_16 (by rw [nI_add]; exact (fun q => absurd ((nI_ltI (a := 2147483639) (by omega) (by omega)).mp q) (by omega)))
    · refine j_iload_n hC dJ8_newLength_cabcc_19 rfl ?_
      exact j_iret hC hR dJ8_newLength_cabcc_20 rfl ⟨_, rfl, nI_add _ _, rfl⟩

set_option maxRecDepth 100000 in
set_option maxHeartbeats 4000000 in
theorem c_growA (K : Kx) {w : Wd} {l : Nat} {mc sz : Int32} (hl : w l = some (oList mc K.2.1.2.2.2.2.2.1 sz)) : MT K mJx4a65c_grow_92f84 3 1 60 [.ref l, .int 1] w (PA fun r w' => w r = none ∧ w' = wst (wst w r (aO K.2.1 10 (fun _ => none))) l (oList mc r sz)) := by
  refine MT.of [some (.ref l), some (.int 1), none, none] (by decide) rfl (nle rfl) rfl ?_
  intro E hC hR
  refine j_aload_n hC dJx4a65c_grow_92f84_0 rfl ?_
  refine j_get hC cfJx4a65c dJx4a65c_grow_92f84_1 fJx4a65c_9 (by decide) hl rfl ?_
  refine j_alenE hC dJx4a65c_grow_92f84_4 ?_
  refine j_istore_n (lv' := [some _, some _, some _, none]) hC dJx4a65c_grow_92f84_5 (nlt rfl) rfl ?_
  refine j_iload_n hC dJx4a65c_grow_92f84_6 rfl ?_
  refine j_if_gt hC 20 dJx4a65c_grow_92f84_7 (by decide) (fun c_7 => ?_) (fun c_7 => ?_)
  · exact absurd c_7 (by decide)
  · refine j_aload_n hC dJx4a65c_grow_92f84_10 rfl ?_
    refine j_get hC cfJx4a65c dJx4a65c_grow_92f84_11 fJx4a65c_9 (by decide) hl rfl ?_
    refine j_gets hC dJx4a65c_grow_92f84_14 ?_
    refine j_acmp_eq hC 45 dJx4a65c_grow_92f84_17 (by decide) (fun _ => ?_) (fun c => absurd rfl c)
    refine j_aload_n hC dJx4a65c_grow_92f84_45 rfl ?_
    refine j_bipush hC (10) dJx4a65c_grow_92f84_46 (by decide) ?_
    refine j_iload_n hC dJx4a65c_grow_92f84_48 rfl ?_
    refine j_mmax hC dJx4a65c_grow_92f84_49 lJx4a65c_79 t_yJ9_max_7cf53 inJ9 wJ9_max_7cf53.1 rfl (nle rfl) (by decide) ?_
    refine j_newO (n' := 10) (kc' := 0) (ks' := 0) hC dJx4a65c_grow_92f84_52 kA_7 (by decide) (by decide) (by omega) (by decide) (by omega) (fun q52 hq52 => ?_)
    refine j_dup_x1 hC dJx4a65c_grow_92f84_55 rfl rfl ?_
    refine j_put (fs' := [_, _, _]) hC cfJx4a65c dJx4a65c_grow_92f84_56 fJx4a65c_9 rfl (by decide) ((wst_n (ne_of hl hq52)).trans hl) rfl rfl (nlt rfl) rfl ?_
    exact j_aret hC hR dJx4a65c_grow_92f84_59 rfl (Or.inr ⟨_, rfl⟩) ⟨_, rfl, hq52, rfl⟩

set_option maxRecDepth 100000 in
set_option maxHeartbeats 4000000 in
theorem c_growB (K : Kx) {w : Wd} {l e n : Nat} {mc sz : Int32} {f : Nat → Option Nat} (hl : w l = some (oList mc e sz)) (he : w e = some (aO K.2.1 n f)) (hn : 10 ≤ n) (hn4 : n ≤ 40) (hel : ∀ i : Nat, i < n → ∀ y : Nat, f i = some y → ∃ (ci : Nat) (fs : List Value) (r : vw_C), w y = some (.inr (ci, fs)) ∧ vwCl[ci]? = some r ∧ r.1 ∈ ([RX0, RX1, RX2, RX3, RX5, RX6, RX7, RX8] : List String)) : MT K mJx4a65c_grow_92f84 3 1 60 [.ref l, .int (nI (n + 1))] w (PA fun r w' => w r = none ∧ w' = wst (wst w r (aO K.2.1 (n + n / 2) (va_cpy f (fun _ => none) 0 0 n))) l (oList mc r sz)) := by
  refine MT.of [some (.ref l), some (.int (nI (n + 1))), none, none] (by decide) rfl (nle rfl) rfl ?_
  intro E hC hR
  refine j_aload_n hC dJx4a65c_grow_92f84_0 rfl ?_
  refine j_get hC cfJx4a65c dJx4a65c_grow_92f84_1 fJx4a65c_9 (by decide) hl rfl ?_
  refine j_alenO hC dJx4a65c_grow_92f84_4 he ?_
  refine j_istore_n (lv' := [some _, some _, some _, none]) hC dJx4a65c_grow_92f84_5 (nlt rfl) rfl ?_
  refine j_iload_n hC dJx4a65c_grow_92f84_6 rfl ?_
  refine j_if_gt hC 20 dJx4a65c_grow_92f84_7 (by decide) (fun c_7 => ?_) (fun c_7 => ?_)
  · refine j_iload_n hC dJx4a65c_grow_92f84_20 rfl ?_
    refine j_iload_n hC dJx4a65c_grow_92f84_21 rfl ?_
    refine j_iload_n hC dJx4a65c_grow_92f84_22 rfl ?_
    refine j_isub hC dJx4a65c_grow_92f84_23 ?_
    refine J.toI (y := 1) (by rw [pk_sub (by omega)]; rw [show n + 1 - n = 1 by omega]; decide) ?_
    refine j_iload_n hC dJx4a65c_grow_92f84_24 rfl ?_
    refine j_iconst hC (1) dJx4a65c_grow_92f84_25 (by decide) ?_
    refine j_ishr hC dJx4a65c_grow_92f84_26 ?_
    refine J.toI (y := nI (n / 2)) ?_ ?_
    · exact (pk_shrN (by omega) _ 1 (by decide)).trans rfl
    refine j_calls (kc' := 1) (ks' := 60) hC (c_newLen K (N := n) (by omega) (by omega)) dJx4a65c_grow_92f84_27 wJ8_newLength_cabcc lJx4a65c_73 t_yJ8_newLength_cabcc rfl rfl (nle rfl) rfl (by decide) (by decide) (by decide) (kI fun r w' hp => ?_)
    obtain ⟨rfl, rfl⟩ := hp
    refine j_istore_n (lv' := [some _, some _, some _, some _]) hC dJx4a65c_grow_92f84_30 (nlt rfl) rfl ?_
    refine j_aload_n hC dJx4a65c_grow_92f84_31 rfl ?_
    refine j_aload_n hC dJx4a65c_grow_92f84_32 rfl ?_
    refine j_get hC cfJx4a65c dJx4a65c_grow_92f84_33 fJx4a65c_9 (by decide) hl rfl ?_
    refine j_iload_n hC dJx4a65c_grow_92f84_36 rfl ?_
    refine j_calls (kc' := 0) (ks' := 0) hC (c_copy2 K he (N := n + n / 2) (by omega) (by omega) hel) dJx4a65c_grow_92f84_37 wJ7_copyOf_1904c lJx4a65c_66 t_yJ7_copyOf_1904c rfl rfl (nle rfl) rfl (by decide) (by decide) (by decide) (kA fun r w' hp => ?_)
    obtain ⟨hr0, rfl⟩ := hp
    refine j_dup_x1 hC dJx4a65c_grow_92f84_40 rfl rfl ?_
    refine j_put (fs' := [_, _, _]) hC cfJx4a65c dJx4a65c_grow_92f84_41 fJx4a65c_9 rfl (by decide) ((wst_n (ne_of hl hr0)).trans hl) rfl rfl (nlt rfl) rfl ?_
    exact j_aret hC hR dJx4a65c_grow_92f84_44 rfl (Or.inr ⟨_, rfl⟩) ⟨_, rfl, hr0, rfl⟩
  · exact absurd ((nI_ltI (a := 0) (by omega) (by omega)).mpr (by omega)) c_7

set_option maxRecDepth 100000 in
set_option maxHeartbeats 4000000 in
theorem c_grow0A (K : Kx) {w : Wd} {l : Nat} {mc : Int32} (hl : w l = some (oList mc K.2.1.2.2.2.2.2.1 0)) : MT K mJx4a65c_grow_d5877 4 1 60 [.ref l] w (PA fun r w' => w r = none ∧ w' = wst (wst w r (aO K.2.1 10 (fun _ => none))) l (oList mc r 0)) := by
  refine MT.of [some (.ref l)] (by decide) rfl (nle rfl) rfl ?_
  intro E hC hR
  refine j_aload_n hC dJx4a65c_grow_d5877_0 rfl ?_
  refine j_aload_n hC dJx4a65c_grow_d5877_1 rfl ?_
  refine j_get hC cfJx4a65c dJx4a65c_grow_d5877_2 fJx4a65c_48 (by decide) hl rfl ?_
  refine j_iconst hC (1) dJx4a65c_grow_d5877_5 (by decide) ?_
  refine j_iadd hC dJx4a65c_grow_d5877_6 ?_
  refine J.toI (y := 1) (by decide) ?_
  refine j_callv (kc' := 0) (ks' := 0) (r := (RJx4a65c, TJx4a65c, 3)) hC (c_growA K hl) dJx4a65c_grow_d5877_7 wJx4a65c_grow_92f84 lJx4a65c_69 i_yJx4a65c_grow_92f84 s_yJx4a65c_grow_92f84 hl rfl rfl rfl (nle rfl) rfl (by decide) (by decide) (by decide) (kA fun r w' hp => ?_)
  obtain ⟨hr0, rfl⟩ := hp
  exact j_aret hC hR dJx4a65c_grow_d5877_10 rfl (Or.inr ⟨_, rfl⟩) ⟨_, rfl, hr0, rfl⟩

set_option maxRecDepth 100000 in
set_option maxHeartbeats 4000000 in
theorem c_grow0B (K : Kx) {w : Wd} {l e n : Nat} {mc : Int32} {f : Nat → Option Nat} (hl : w l = some (oList mc e (nI n))) (he : w e = some (aO K.2.1 n f)) (hn : 10 ≤ n) (hn4 : n ≤ 40) (hel : ∀ i : Nat, i < n → ∀ y : Nat, f i = some y → ∃ (ci : Nat) (fs : List Value) (r : vw_C), w y = some (.inr (ci, fs)) ∧ vwCl[ci]? = some r ∧ r.1 ∈ ([RX0, RX1, RX2, RX3, RX5, RX6, RX7, RX8] : List String)) : MT K mJx4a65c_grow_d5877 4 1 60 [.ref l] w (PA fun r w' => w r = none ∧ w' = wst (wst w r (aO K.2.1 (n + n / 2) (va_cpy f (fun _ => none) 0 0 n))) l (oList mc r (nI n))) := by
  refine MT.of [some (.ref l)] (by decide) rfl (nle rfl) rfl ?_
  intro E hC hR
  refine j_aload_n hC dJx4a65c_grow_d5877_0 rfl ?_
  refine j_aload_n hC dJx4a65c_grow_d5877_1 rfl ?_
  refine j_get hC cfJx4a65c dJx4a65c_grow_d5877_2 fJx4a65c_48 (by decide) hl rfl ?_
  refine j_iconst hC (1) dJx4a65c_grow_d5877_5 (by decide) ?_
  refine j_iadd hC dJx4a65c_grow_d5877_6 ?_
  refine J.toI (nI_1 n) ?_
  refine j_callv (kc' := 0) (ks' := 0) (r := (RJx4a65c, TJx4a65c, 3)) hC (c_growB K hl he hn hn4 hel) dJx4a65c_grow_d5877_7 wJx4a65c_grow_92f84 lJx4a65c_69 i_yJx4a65c_grow_92f84 s_yJx4a65c_grow_92f84 hl rfl rfl rfl (nle rfl) rfl (by decide) (by decide) (by decide) (kA fun r w' hp => ?_)
  obtain ⟨hr0, rfl⟩ := hp
  exact j_aret hC hR dJx4a65c_grow_d5877_10 rfl (Or.inr ⟨_, rfl⟩) ⟨_, rfl, hr0, rfl⟩

set_option maxRecDepth 100000 in
set_option maxHeartbeats 4000000 in
theorem c_add3C (K : Kx) {w : Wd} {l e n N : Nat} {mc : Int32} {f : Nat → Option Nat} {b ci : Nat} {fs : List Value} {r0 : vw_C} (hl : w l = some (oList mc e (nI n))) (he : w e = some (aO K.2.1 N f)) (hn : n < N) (hN : N ≤ 60) (hlb : l ≠ b) (hb : w b = some (.inr (ci, fs))) (hci : vwCl[ci]? = some r0) (hca : r0.1 ∈ ([RX0, RX1, RX2, RX3, RX5, RX6, RX7, RX8] : List String)) : MT K mJx4a65c_add_72be8 5 1 60 [.ref l, .ref b, .ref e, .int (nI n)] w (PV fun w' => w' = wst (wst w e (aO K.2.1 N (va_up f n (some b)))) l (oList mc e (nI (n + 1)))) := by
  refine MT.of [some (.ref l), some (.ref b), some (.ref e), some (.int (nI n))] (by decide) rfl (nle rfl) rfl ?_
  intro E hC hR
  refine j_iload_n hC dJx4a65c_add_72be8_0 rfl ?_
  refine j_aload_n hC dJx4a65c_add_72be8_1 rfl ?_
  refine j_alenO hC dJx4a65c_add_72be8_2 he ?_
  refine j_icmp_ne hC 11 dJx4a65c_add_72be8_3 (by decide) (fun c_3 => ?_) (fun c_3 => ?_)
  · refine j_aload_n hC dJx4a65c_add_72be8_11 rfl ?_
    refine j_iload_n hC dJx4a65c_add_72be8_12 rfl ?_
    refine j_aload_n hC dJx4a65c_add_72be8_13 rfl ?_
    refine j_astO hC dJx4a65c_add_72be8_14 he (ix_nI hn (by omega)) hb hci hca ?_
    refine j_aload_n hC dJx4a65c_add_72be8_15 rfl ?_
    refine j_iload_n hC dJx4a65c_add_72be8_16 rfl ?_
    refine j_iconst hC (1) dJx4a65c_add_72be8_17 (by decide) ?_
    refine j_iadd hC dJx4a65c_add_72be8_18 ?_
    refine J.toI (nI_1 n) ?_
    refine j_put (fs' := [_, _, _]) hC cfJx4a65c dJx4a65c_add_72be8_19 fJx4a65c_48 rfl (by decide) ((wst_n (fun z => by rw [z, he] at hl; cases hl)).trans hl) rfl rfl (nlt rfl) rfl ?_
    exact j_vret hC hR dJx4a65c_add_72be8_22 rfl ⟨rfl, rfl⟩
  · exact absurd c_3 (by rw [nI_eq (by omega) (by omega)]; omega)

set_option maxRecDepth 100000 in
set_option maxHeartbeats 4000000 in
theorem c_add3A (K : Kx) {w : Wd} {l : Nat} {mc : Int32} {b ci : Nat} {fs : List Value} {r0 : vw_C} (hl : w l = some (oList mc K.2.1.2.2.2.2.2.1 0)) (hlb : l ≠ b) (hb : w b = some (.inr (ci, fs))) (hci : vwCl[ci]? = some r0) (hca : r0.1 ∈ ([RX0, RX1, RX2, RX3, RX5, RX6, RX7, RX8] : List String)) : MT K mJx4a65c_add_72be8 5 1 60 [.ref l, .ref b, .ref K.2.1.2.2.2.2.2.1, .int 0] w (PV fun w' => ∃ r : Nat, w r = none ∧ w' = wst (wst w r (aO K.2.1 10 (va_up (fun _ => none) 0 (some b)))) l (oList mc r 1)) := by
  refine MT.of [some (.ref l), some (.ref b), some (.ref K.2.1.2.2.2.2.2.1), some (.int 0)] (by decide) rfl (nle rfl) rfl ?_
  intro E hC hR
  refine j_iload_n hC dJx4a65c_add_72be8_0 rfl ?_
  refine j_aload_n hC dJx4a65c_add_72be8_1 rfl ?_
  refine j_alenE hC dJx4a65c_add_72be8_2 ?_
  refine j_icmp_ne hC 11 dJx4a65c_add_72be8_3 (by decide) (fun c_3 => ?_) (fun c_3 => ?_)
  · exact absurd rfl c_3
  · refine j_aload_n hC dJx4a65c_add_72be8_6 rfl ?_
    refine j_callv (kc' := 0) (ks' := 0) (r := (RJx4a65c, TJx4a65c, 3)) hC (c_grow0A K hl) dJx4a65c_add_72be8_7 wJx4a65c_grow_d5877 lJx4a65c_129 i_yJx4a65c_grow_d5877 s_yJx4a65c_grow_d5877 hl rfl rfl rfl (nle rfl) rfl (by decide) (by decide) (by decide) (kA fun r w' hp => ?_)
    obtain ⟨hr0, rfl⟩ := hp
    refine j_astore_n (lv' := [some _, some _, some _, some _]) hC dJx4a65c_add_72be8_10 (nlt rfl) rfl ?_
    refine j_aload_n hC dJx4a65c_add_72be8_11 rfl ?_
    refine j_iload_n hC dJx4a65c_add_72be8_12 rfl ?_
    refine j_aload_n hC dJx4a65c_add_72be8_13 rfl ?_
    refine j_astO hC dJx4a65c_add_72be8_14 ((wst_n (Ne.symm (ne_of hl hr0))).trans (wst_s _ _ _)) ((⟨by unfold vp_in; decide, by decide⟩ : ix 0 10 0)) ((wst_n (Ne.symm hlb)).trans ((wst_n (ne_of hb hr0)).trans hb)) hci hca ?_
    refine j_aload_n hC dJx4a65c_add_72be8_15 rfl ?_
    refine j_iload_n hC dJx4a65c_add_72be8_16 rfl ?_
    refine j_iconst hC (1) dJx4a65c_add_72be8_17 (by decide) ?_
    refine j_iadd hC dJx4a65c_add_72be8_18 ?_
    refine j_put (fs' := [_, _, _]) hC cfJx4a65c dJx4a65c_add_72be8_19 fJx4a65c_48 rfl (by decide) ((wst_n (ne_of hl hr0)).trans (wst_s _ _ _)) rfl rfl (nlt rfl) rfl ?_
    exact j_vret hC hR dJx4a65c_add_72be8_22 rfl ⟨rfl, r, hr0, wst_add (ne_of hl hr0)⟩

set_option maxRecDepth 100000 in
set_option maxHeartbeats 4000000 in
theorem c_add3B (K : Kx) {w : Wd} {l e n : Nat} {mc : Int32} {f : Nat → Option Nat} {b ci : Nat} {fs : List Value} {r0 : vw_C} (hl : w l = some (oList mc e (nI n))) (he : w e = some (aO K.2.1 n f)) (hn : 10 ≤ n) (hn4 : n ≤ 40) (hlb : l ≠ b) (hel : ∀ i : Nat, i < n → ∀ y : Nat, f i = some y → ∃ (ci : Nat) (fs : List Value) (r : vw_C), w y = some (.inr (ci, fs)) ∧ vwCl[ci]? = some r ∧ r.1 ∈ ([RX0, RX1, RX2, RX3, RX5, RX6, RX7, RX8] : List String)) (hb : w b = some (.inr (ci, fs))) (hci : vwCl[ci]? = some r0) (hca : r0.1 ∈ ([RX0, RX1, RX2, RX3, RX5, RX6, RX7, RX8] : List String)) : MT K mJx4a65c_add_72be8 5 1 60 [.ref l, .ref b, .ref e, .int (nI n)] w (PV fun w' => ∃ r : Nat, w r = none ∧ w' = wst (wst w r (aO K.2.1 (n + n / 2) (va_up (va_cpy f (fun _ => none) 0 0 n) n (some b)))) l (oList mc r (nI (n + 1)))) := by
  refine MT.of [some (.ref l), some (.ref b), some (.ref e), some (.int (nI n))] (by decide) rfl (nle rfl) rfl ?_
  intro E hC hR
  refine j_iload_n hC dJx4a65c_add_72be8_0 rfl ?_
  refine j_aload_n hC dJx4a65c_add_72be8_1 rfl ?_
  refine j_alenO hC dJx4a65c_add_72be8_2 he ?_
  refine j_icmp_ne hC 11 dJx4a65c_add_72be8_3 (by decide) (fun c_3 => ?_) (fun c_3 => ?_)
  · exact absurd rfl c_3
  · refine j_aload_n hC dJx4a65c_add_72be8_6 rfl ?_
    refine j_callv (kc' := 0) (ks' := 0) (r := (RJx4a65c, TJx4a65c, 3)) hC (c_grow0B K hl he hn hn4 hel) dJx4a65c_add_72be8_7 wJx4a65c_grow_d5877 lJx4a65c_129 i_yJx4a65c_grow_d5877 s_yJx4a65c_grow_d5877 hl rfl rfl rfl (nle rfl) rfl (by decide) (by decide) (by decide) (kA fun r w' hp => ?_)
    obtain ⟨hr0, rfl⟩ := hp
    refine j_astore_n (lv' := [some _, some _, some _, some _]) hC dJx4a65c_add_72be8_10 (nlt rfl) rfl ?_
    refine j_aload_n hC dJx4a65c_add_72be8_11 rfl ?_
    refine j_iload_n hC dJx4a65c_add_72be8_12 rfl ?_
    refine j_aload_n hC dJx4a65c_add_72be8_13 rfl ?_
    refine j_astO hC dJx4a65c_add_72be8_14 ((wst_n (Ne.symm (ne_of hl hr0))).trans (wst_s _ _ _)) (ix_nI (by omega) (by omega)) ((wst_n (Ne.symm hlb)).trans ((wst_n (ne_of hb hr0)).trans hb)) hci hca ?_
    refine j_aload_n hC dJx4a65c_add_72be8_15 rfl ?_
    refine j_iload_n hC dJx4a65c_add_72be8_16 rfl ?_
    refine j_iconst hC (1) dJx4a65c_add_72be8_17 (by decide) ?_
    refine j_iadd hC dJx4a65c_add_72be8_18 ?_
    refine J.toI (nI_1 n) ?_
    refine j_put (fs' := [_, _, _]) hC cfJx4a65c dJx4a65c_add_72be8_19 fJx4a65c_48 rfl (by decide) ((wst_n (ne_of hl hr0)).trans (wst_s _ _ _)) rfl rfl (nlt rfl) rfl ?_
    exact j_vret hC hR dJx4a65c_add_72be8_22 rfl ⟨rfl, r, hr0, wst_add (ne_of hl hr0)⟩

set_option maxRecDepth 100000 in
set_option maxHeartbeats 4000000 in
theorem c_addC (K : Kx) {w : Wd} {l e n N : Nat} {mc : Int32} {f : Nat → Option Nat} {b ci : Nat} {fs : List Value} {r0 : vw_C} (hl : w l = some (oList mc e (nI n))) (he : w e = some (aO K.2.1 N f)) (hn : n < N) (hN : N ≤ 60) (hlb : l ≠ b) (hb : w b = some (.inr (ci, fs))) (hci : vwCl[ci]? = some r0) (hca : r0.1 ∈ ([RX0, RX1, RX2, RX3, RX5, RX6, RX7, RX8] : List String)) : MT K mJx4a65c_add_9ea2d 6 1 60 [.ref l, .ref b] w (PI fun r w' => r = 1 ∧ w' = wst (wst w e (aO K.2.1 N (va_up f n (some b)))) l (oList (mc + 1) e (nI (n + 1)))) := by
  refine MT.of [some (.ref l), some (.ref b)] (by decide) rfl (nle rfl) rfl ?_
  intro E hC hR
  refine j_aload_n hC dJx4a65c_add_9ea2d_0 rfl ?_
  refine j_dup hC dJx4a65c_add_9ea2d_1 rfl ?_
  refine j_getR hC cfJx4a65c dJx4a65c_add_9ea2d_2 fJx4a65c_63 sf_mod (by decide) hl rfl ?_
  refine j_iconst hC (1) dJx4a65c_add_9ea2d_5 (by decide) ?_
  refine j_iadd hC dJx4a65c_add_9ea2d_6 ?_
  refine j_putR (fs' := [_, _, _]) hC cfJx4a65c dJx4a65c_add_9ea2d_7 fJx4a65c_63 sf_mod rfl (by decide) hl rfl rfl (nlt rfl) rfl ?_
  refine j_aload_n hC dJx4a65c_add_9ea2d_10 rfl ?_
  refine j_aload_n hC dJx4a65c_add_9ea2d_11 rfl ?_
  refine j_aload_n hC dJx4a65c_add_9ea2d_12 rfl ?_
  refine j_get hC cfJx4a65c dJx4a65c_add_9ea2d_13 fJx4a65c_9 (by decide) (wst_s _ _ _) rfl ?_
  refine j_aload_n hC dJx4a65c_add_9ea2d_16 rfl ?_
  refine j_get hC cfJx4a65c dJx4a65c_add_9ea2d_17 fJx4a65c_48 (by decide) (wst_s _ _ _) rfl ?_
  refine j_callv (kc' := 0) (ks' := 0) (r := (RJx4a65c, TJx4a65c, 3)) hC (c_add3C K (wst_s _ _ _) ((wst_n (fun z => by rw [← z, he] at hl; cases hl)).trans he) hn hN hlb ((wst_n (Ne.symm hlb)).trans hb) hci hca) dJx4a65c_add_9ea2d_20 wJx4a65c_add_72be8 lJx4a65c_131 i_yJx4a65c_add_72be8 s_yJx4a65c_add_72be8 (wst_s _ _ _) rfl rfl rfl (nle rfl) rfl (by decide) (by decide) (by decide) (kV fun w' hp => ?_)
  subst hp
  refine j_iconst hC (1) dJx4a65c_add_9ea2d_23 (by decide) ?_
  exact j_zret hC hR dJx4a65c_add_9ea2d_24 rfl (by decide) ⟨_, rfl, rfl, by rw [wst_comm (a := l) (b := e) (fun z => by rw [z, he] at hl; cases hl), wst_wst]⟩

set_option maxRecDepth 100000 in
set_option maxHeartbeats 4000000 in
theorem c_addA (K : Kx) {w : Wd} {l : Nat} {mc : Int32} {b ci : Nat} {fs : List Value} {r0 : vw_C} (hl : w l = some (oList mc K.2.1.2.2.2.2.2.1 0)) (hlb : l ≠ b) (hb : w b = some (.inr (ci, fs))) (hci : vwCl[ci]? = some r0) (hca : r0.1 ∈ ([RX0, RX1, RX2, RX3, RX5, RX6, RX7, RX8] : List String)) : MT K mJx4a65c_add_9ea2d 6 1 60 [.ref l, .ref b] w (PI fun r w' => r = 1 ∧ ∃ r : Nat, w r = none ∧ w' = wst (wst w r (aO K.2.1 10 (va_up (fun _ => none) 0 (some b)))) l (oList (mc + 1) r 1)) := by
  refine MT.of [some (.ref l), some (.ref b)] (by decide) rfl (nle rfl) rfl ?_
  intro E hC hR
  refine j_aload_n hC dJx4a65c_add_9ea2d_0 rfl ?_
  refine j_dup hC dJx4a65c_add_9ea2d_1 rfl ?_
  refine j_getR hC cfJx4a65c dJx4a65c_add_9ea2d_2 fJx4a65c_63 sf_mod (by decide) hl rfl ?_
  refine j_iconst hC (1) dJx4a65c_add_9ea2d_5 (by decide) ?_
  refine j_iadd hC dJx4a65c_add_9ea2d_6 ?_
  refine j_putR (fs' := [_, _, _]) hC cfJx4a65c dJx4a65c_add_9ea2d_7 fJx4a65c_63 sf_mod rfl (by decide) hl rfl rfl (nlt rfl) rfl ?_
  refine j_aload_n hC dJx4a65c_add_9ea2d_10 rfl ?_
  refine j_aload_n hC dJx4a65c_add_9ea2d_11 rfl ?_
  refine j_aload_n hC dJx4a65c_add_9ea2d_12 rfl ?_
  refine j_get hC cfJx4a65c dJx4a65c_add_9ea2d_13 fJx4a65c_9 (by decide) (wst_s _ _ _) rfl ?_
  refine j_aload_n hC dJx4a65c_add_9ea2d_16 rfl ?_
  refine j_get hC cfJx4a65c dJx4a65c_add_9ea2d_17 fJx4a65c_48 (by decide) (wst_s _ _ _) rfl ?_
  refine j_callv (kc' := 0) (ks' := 0) (r := (RJx4a65c, TJx4a65c, 3)) hC (c_add3A K (wst_s _ _ _) hlb ((wst_n (Ne.symm hlb)).trans hb) hci hca) dJx4a65c_add_9ea2d_20 wJx4a65c_add_72be8 lJx4a65c_131 i_yJx4a65c_add_72be8 s_yJx4a65c_add_72be8 (wst_s _ _ _) rfl rfl rfl (nle rfl) rfl (by decide) (by decide) (by decide) (kV fun w' hp => ?_)
  obtain ⟨r, hr0, rfl⟩ := hp
  refine j_iconst hC (1) dJx4a65c_add_9ea2d_23 (by decide) ?_
  exact j_zret hC hR dJx4a65c_add_9ea2d_24 rfl (by decide) ⟨_, rfl, rfl, r, by rw [wst_n (Ne.symm (ne_of_st hr0))] at hr0; exact hr0, by rw [wst_comm (a := l) (b := r) (ne_of_st hr0), wst_wst]⟩

set_option maxRecDepth 100000 in
set_option maxHeartbeats 4000000 in
theorem c_addB (K : Kx) {w : Wd} {l e n : Nat} {mc : Int32} {f : Nat → Option Nat} {b ci : Nat} {fs : List Value} {r0 : vw_C} (hl : w l = some (oList mc e (nI n))) (he : w e = some (aO K.2.1 n f)) (hn : 10 ≤ n) (hn4 : n ≤ 40) (hlb : l ≠ b) (hel : ∀ i : Nat, i < n → ∀ y : Nat, f i = some y → ∃ (ci : Nat) (fs : List Value) (r : vw_C), w y = some (.inr (ci, fs)) ∧ vwCl[ci]? = some r ∧ r.1 ∈ ([RX0, RX1, RX2, RX3, RX5, RX6, RX7, RX8] : List String)) (hb : w b = some (.inr (ci, fs))) (hci : vwCl[ci]? = some r0) (hca : r0.1 ∈ ([RX0, RX1, RX2, RX3, RX5, RX6, RX7, RX8] : List String)) : MT K mJx4a65c_add_9ea2d 6 1 60 [.ref l, .ref b] w (PI fun r w' => r = 1 ∧ ∃ r : Nat, w r = none ∧ w' = wst (wst w r (aO K.2.1 (n + n / 2) (va_up (va_cpy f (fun _ => none) 0 0 n) n (some b)))) l (oList (mc + 1) r (nI (n + 1)))) := by
  refine MT.of [some (.ref l), some (.ref b)] (by decide) rfl (nle rfl) rfl ?_
  intro E hC hR
  refine j_aload_n hC dJx4a65c_add_9ea2d_0 rfl ?_
  refine j_dup hC dJx4a65c_add_9ea2d_1 rfl ?_
  refine j_getR hC cfJx4a65c dJx4a65c_add_9ea2d_2 fJx4a65c_63 sf_mod (by decide) hl rfl ?_
  refine j_iconst hC (1) dJx4a65c_add_9ea2d_5 (by decide) ?_
  refine j_iadd hC dJx4a65c_add_9ea2d_6 ?_
  refine j_putR (fs' := [_, _, _]) hC cfJx4a65c dJx4a65c_add_9ea2d_7 fJx4a65c_63 sf_mod rfl (by decide) hl rfl rfl (nlt rfl) rfl ?_
  refine j_aload_n hC dJx4a65c_add_9ea2d_10 rfl ?_
  refine j_aload_n hC dJx4a65c_add_9ea2d_11 rfl ?_
  refine j_aload_n hC dJx4a65c_add_9ea2d_12 rfl ?_
  refine j_get hC cfJx4a65c dJx4a65c_add_9ea2d_13 fJx4a65c_9 (by decide) (wst_s _ _ _) rfl ?_
  refine j_aload_n hC dJx4a65c_add_9ea2d_16 rfl ?_
  refine j_get hC cfJx4a65c dJx4a65c_add_9ea2d_17 fJx4a65c_48 (by decide) (wst_s _ _ _) rfl ?_
  refine j_callv (kc' := 0) (ks' := 0) (r := (RJx4a65c, TJx4a65c, 3)) hC (c_add3B K (wst_s _ _ _) ((wst_n (fun z => by rw [← z, he] at hl; cases hl)).trans he) hn hn4 hlb (fun i hi y hy => by obtain ⟨ci', fs', r', z1, z2, z3⟩ := hel i hi y hy; exact el_st hl z1 z2 z3) ((wst_n (Ne.symm hlb)).trans hb) hci hca) dJx4a65c_add_9ea2d_20 wJx4a65c_add_72be8 lJx4a65c_131 i_yJx4a65c_add_72be8 s_yJx4a65c_add_72be8 (wst_s _ _ _) rfl rfl rfl (nle rfl) rfl (by decide) (by decide) (by decide) (kV fun w' hp => ?_)
  obtain ⟨r, hr0, rfl⟩ := hp
  refine j_iconst hC (1) dJx4a65c_add_9ea2d_23 (by decide) ?_
  exact j_zret hC hR dJx4a65c_add_9ea2d_24 rfl (by decide) ⟨_, rfl, rfl, r, by rw [wst_n (Ne.symm (ne_of_st hr0))] at hr0; exact hr0, by rw [wst_comm (a := l) (b := r) (ne_of_st hr0), wst_wst]⟩


/-- the list at l, its row at e, holds n elements at f 0, f 1 .. -/
def Lst (g : Gx) (w : Wd) (l e n : Nat) (f : Nat → Nat) : Prop := ∃ (mc : Int32) (N : Nat) (h : Nat → Option Nat), w l = some (oList mc e (nI n)) ∧ ((n = 0 ∧ e = g.2.2.2.2.2.1) ∨ (0 < n ∧ w e = some (aO g N h) ∧ n ≤ N ∧ 10 ≤ N ∧ N ≤ 60 ∧ ∀ i, i < n → h i = some (f i)))
theorem Lst.sz {g : Gx} {w : Wd} {l e n : Nat} {f : Nat → Nat} (h : Lst g w l e n f) : ∃ mc : Int32, w l = some (oList mc e (nI n)) := by
  obtain ⟨mc, N, h, h1, -⟩ := h
  exact ⟨mc, h1⟩
theorem Lst.cong {g : Gx} {w w' : Wd} {l e n : Nat} {f : Nat → Nat} (h : Lst g w l e n f) (hl : w' l = w l) (he : w e ≠ none → w' e = w e) : Lst g w' l e n f := by
  obtain ⟨mc, N, h, h1, h2⟩ := h
  refine ⟨mc, N, h, hl.trans h1, ?_⟩
  rcases h2 with h2 | ⟨h0, h2, h3⟩
  · exact Or.inl h2
  · exact Or.inr ⟨h0, (he (by rw [h2]; exact fun z => by cases z)).trans h2, h3⟩
theorem Lst.fn {g : Gx} {w : Wd} {l e n : Nat} {f f' : Nat → Nat} (h : Lst g w l e n f) (hf : ∀ i, i < n → f' i = f i) : Lst g w l e n f' := by
  obtain ⟨mc, N, h, h1, h2⟩ := h
  refine ⟨mc, N, h, h1, ?_⟩
  rcases h2 with h2 | ⟨h0, h2, h3, h4, h5, h6⟩
  · exact Or.inl h2
  · exact Or.inr ⟨h0, h2, h3, h4, h5, fun i hi => by rw [hf i hi]; exact h6 i hi⟩
/-- List.get -/
theorem c_get (K : Kx) {w : Wd} {l e n k : Nat} {f : Nat → Nat} (hl : Lst K.2.1 w l e n f) (hk : k < n) : MT K mJx4a65c_get_915e3 2 0 0 [.ref l, .int (nI k)] w (PA fun r w' => r = f k ∧ w' = w) := by
  obtain ⟨mc, N, h, h1, h2⟩ := hl
  rcases h2 with ⟨h2, -⟩ | ⟨h0, h2, h3, h4, h5, h6⟩
  · omega
  · exact c_lget K h1 h2 hk h3 (by omega) (h6 k hk)
/-- List.add -/
theorem c_add (K : Kx) {w : Wd} {l e n b ci : Nat} {f : Nat → Nat} {fs : List Value} {r0 : vw_C} (hl : Lst K.2.1 w l e n f) (hn : n ≤ 40) (hlb : l ≠ b) (hel : ∀ i : Nat, i < n → ∃ (ci : Nat) (fs : List Value) (r : vw_C), w (f i) = some (.inr (ci, fs)) ∧ vwCl[ci]? = some r ∧ r.1 ∈ ([RX0, RX1, RX2, RX3, RX5, RX6, RX7, RX8] : List String)) (hb : w b = some (.inr (ci, fs))) (hci : vwCl[ci]? = some r0) (hca : r0.1 ∈ ([RX0, RX1, RX2, RX3, RX5, RX6, RX7, RX8] : List String)) :
    MT K mJx4a65c_add_9ea2d 6 1 60 [.ref l, .ref b] w (PI fun r w' => r = 1 ∧ ∃ e' : Nat, Lst K.2.1 w' l e' (n + 1) (va_up f n b) ∧ ((e' = e ∧ w e ≠ none) ∨ w e' = none) ∧ ∀ a : Nat, a ≠ l → a ≠ e' → w' a = w a) := by
  obtain ⟨mc, N, h, h1, h2⟩ := hl
  rcases h2 with ⟨h2, h3⟩ | ⟨h0, h2, h3, h4, h5, h6⟩
  · subst h2
    subst h3
    refine (c_addA K h1 hlb hb hci hca).mono ?_
    rintro v w' ⟨r, rfl, rfl, q, hq, rfl⟩
    refine ⟨1, rfl, rfl, q, ⟨mc + 1, 10, _, wst_s _ _ _, Or.inr ⟨by omega, (wst_n (Ne.symm (ne_of h1 hq))).trans (wst_s _ _ _), by omega, by omega, by omega, fun i hi => ?_⟩⟩, Or.inr hq, fun a ha1 ha2 => by rw [wst_n ha1, wst_n ha2]⟩
    rw [show i = 0 by omega, va_up_self, va_up_self]
  · by_cases hnN : n < N
    · refine (c_addC K h1 h2 hnN h5 hlb hb hci hca).mono ?_
      rintro v w' ⟨r, rfl, rfl, rfl⟩
      refine ⟨1, rfl, rfl, e, ⟨mc + 1, N, _, wst_s _ _ _, Or.inr ⟨by omega, (wst_n (fun z => by rw [z, h1] at h2; cases h2)).trans (wst_s _ _ _), by omega, h4, h5, fun i hi => ?_⟩⟩, Or.inl ⟨rfl, by rw [h2]; exact fun z => by cases z⟩, fun a ha1 ha2 => by rw [wst_n ha1, wst_n ha2]⟩
      by_cases hin : i = n
      · rw [hin, va_up_self, va_up_self]
      · rw [va_up_ne _ _ hin, va_up_ne _ _ hin]; exact h6 i (by omega)
    · have hNn : N = n := by omega
      subst hNn
      refine (c_addB K h1 h2 h4 hn hlb (fun i hi y hy => ?_) hb hci hca).mono ?_
      · rw [h6 i hi] at hy
        cases hy
        exact hel i hi
      · rintro v w' ⟨r, rfl, rfl, q, hq, rfl⟩
        refine ⟨1, rfl, rfl, q, ⟨mc + 1, _, _, wst_s _ _ _, Or.inr ⟨by omega, (wst_n (Ne.symm (ne_of h1 hq))).trans (wst_s _ _ _), by omega, by omega, by omega, fun i hi => ?_⟩⟩, Or.inr hq, fun a ha1 ha2 => by rw [wst_n ha1, wst_n ha2]⟩
        by_cases hin : i = N
        · rw [hin, va_up_self, va_up_self]
        · rw [va_up_ne _ _ hin, va_up_ne _ _ hin, pk_cpy_in (Nat.zero_le _) (by omega)]
          rw [show 0 + (i - 0) = i by omega]
          exact h6 i (by omega)
end
section

theorem ne_cls {w : Wd} {a b c1 c2 : Nat} {f1 f2 : List Value} (h1 : w a = some (.inr (c1, f1))) (h2 : w b = some (.inr (c2, f2))) (h : c1 ≠ c2) : a ≠ b := by
  intro z
  rw [z, h2] at h1
  cases h1
  exact h rfl
theorem wst_id {w : Wd} {a : Nat} {e : va_E} (h : w a = some e) : wst w a e = w := by
  funext q
  by_cases hq : q = a
  · rw [hq, wst_s, h]
  · rw [wst_n hq]
theorem wst_c1 {w : Wd} {a f t : Nat} {p1 p2 p3 p4 n1 n2 : va_E} (h1 : a ≠ f) (h2 : a ≠ t) : wst (wst (wst (wst (wst (wst w a p1) a p2) f n1) t n2) a p3) a p4 = wst (wst (wst w f n1) t n2) a p4 := by
  rw [wst_wst w, wst_wst, wst_comm (w := w) h1, wst_comm h2, wst_wst]
theorem wst_c2 {w : Wd} {a f t : Nat} {p1 p2 p3 p4 n1 n2 : va_E} (h1 : a ≠ f) (h2 : a ≠ t) (h3 : f ≠ t) : wst (wst (wst (wst (wst (wst w a p1) a p2) t n2) f n1) a p3) a p4 = wst (wst (wst w f n1) t n2) a p4 := by
  rw [wst_c1 h2 h1, wst_comm (w := w) (Ne.symm h3)]
theorem wst_c3 {w : Wd} {a f t : Nat} {p1 n1 n2 : va_E} (h1 : a ≠ f) (h2 : a ≠ t) : wst (wst (wst w a p1) f n1) t n2 = wst (wst (wst w f n1) t n2) a p1 := by
  rw [wst_comm (w := w) h1, wst_comm h2]
def wI (v lo hi : Int32) : Int32 := if v < lo then 0 else if hi < v then 0 else 1
abbrev oArea (n : Nat) (ca re : Int64) : va_E := .inr (1, [.ref n, .long ca, .long re])
abbrev oEntry (wi pr : Int32) : va_E := .inr (2, [.int wi, .int pr])
abbrev oGate (n : Nat) (si : Int64) (ra : Int32) : va_E := .inr (3, [.ref n, .long si, .int ra])
abbrev oGully (ce : Int32) (n : Nat) (ra : Int32) : va_E := .inr (4, [.int ce, .ref n, .int ra])
abbrev oPiece (le : Nat) (gr ln nd en fa bt : Int32) : va_E := .inr (7, [.ref le, .int gr, .int ln, .int nd, .int en, .int fa, .int bt])
abbrev oPipe (f t : Nat) (sq rs re ml ma : Int64) : va_E := .inr (8, [.ref f, .ref t, .long sq, .long rs, .long re, .long ml, .long ma])
abbrev oPump (n t : Nat) (on off ra io : Int32) : va_E := .inr (9, [.ref n, .ref t, .int on, .int off, .int ra, .int io])
/-- what a pipe moves -/
def pMv (want liF liT : Int64) : Int64 := if want < 0 then -(if liT < -want then liT else -want) else if liF < want then liF else want
theorem pMv_neg {x : Int64} (h : x < 0) (li li2 : Int64) : li - pMv x li li2 = li + (if li2 < -x then li2 else -x) ∧ li2 + pMv x li li2 = li2 - (if li2 < -x then li2 else -x) ∧ pMv x li li2 = -(if li2 < -x then li2 else -x) := by
  have e : pMv x li li2 = -(if li2 < -x then li2 else -x) := if_pos h
  rw [e]
  exact ⟨by rw [Int64.sub_eq_add_neg, Int64.neg_neg], by rw [Int64.sub_eq_add_neg], rfl⟩
/-- whether a pump is on behind its look at the level -/
def pOn (lvl : Int64) (on off io : Int32) : Int32 := if lvl < on.toInt64 then if off.toInt64 < lvl then io else 0 else 1
def pGv (io : Int32) (ra li : Int64) : Int64 := if io = 0 then 0 else if li < ra then li else ra
def gOut (ra ab : Int64) : Int64 := if (if ab < ra then ab else ra) < 0 then 0 else if ab < ra then ab else ra
def gTake (ra held left : Int64) : Int64 := if (if left < 0 then 0 else left) < (if held < ra then held else ra) then (if left < 0 then 0 else left) else if held < ra then held else ra

set_option maxRecDepth 100000 in
set_option maxHeartbeats 4000000 in
theorem c_isWithin (K : Kx) {w : Wd} (v lo hi : Int32)  : MT K mX9_isWithin 0 0 0 [.int v, .int lo, .int hi] w (PI fun r w' => r = wI v lo hi ∧ w' = w) := by
  refine MT.of [some (.int v), some (.int lo), some (.int hi)] (by decide) rfl (nle rfl) rfl ?_
  intro E hC hR
  refine j_iload_n hC dX9_isWithin_0 rfl ?_
  refine j_iload_n hC dX9_isWithin_1 rfl ?_
  refine j_icmp_lt hC 14 dX9_isWithin_2 (by decide) (fun c_2 => ?_) (fun c_2 => ?_)
  · refine j_iconst hC (0) dX9_isWithin_14 (by decide) ?_
    exact j_zret hC hR dX9_isWithin_15 rfl (by decide) ⟨_, rfl, by first | (simp [wI, c_2]; done) | (simp [wI, c_2, c_7]; done), rfl⟩
  · refine j_iload_n hC dX9_isWithin_5 rfl ?_
    refine j_iload_n hC dX9_isWithin_6 rfl ?_
    refine j_icmp_gt hC 14 dX9_isWithin_7 (by decide) (fun c_7 => ?_) (fun c_7 => ?_)
    · refine j_iconst hC (0) dX9_isWithin_14 (by decide) ?_
      exact j_zret hC hR dX9_isWithin_15 rfl (by decide) ⟨_, rfl, by first | (simp [wI, c_2]; done) | (simp [wI, c_2, c_7]; done), rfl⟩
    · refine j_iconst hC (1) dX9_isWithin_10 (by decide) ?_
      refine j_goto hC 15 dX9_isWithin_11 (by decide) ?_
      exact j_zret hC hR dX9_isWithin_15 rfl (by decide) ⟨_, rfl, by first | (simp [wI, c_2]; done) | (simp [wI, c_2, c_7]; done), rfl⟩

theorem wI_nar (v lo hi : Int32) : narrow .boolean (.int (wI v lo hi)) = .int (wI v lo hi) := by
  unfold wI
  split
  · decide
  · split <;> decide
set_option maxRecDepth 100000 in
set_option maxHeartbeats 4000000 in
theorem c_isHeight (K : Kx) {w : Wd} (v : Int32)  : MT K mX9_isHeight 1 0 0 [.int v] w (PI fun r w' => r = wI v (-100000) 100000 ∧ w' = w) := by
  refine MT.of [some (.int v)] (by decide) rfl (nle rfl) rfl ?_
  intro E hC hR
  refine j_iload_n hC dX9_isHeight_0 rfl ?_
  refine j_ldc hC dX9_isHeight_1 nX9_202 ?_
  refine j_ldc hC dX9_isHeight_3 nX9_67 ?_
  refine j_calls (kc' := 0) (ks' := 0) hC (c_isWithin K v (-100000) 100000) dX9_isHeight_5 wX9_isWithin lX9_68 t_yX9_isWithin rfl rfl (nle rfl) rfl (by decide) (by decide) (by decide) (kI fun r w' hp => ?_)
  obtain ⟨rfl, rfl⟩ := hp
  exact j_zret hC hR dX9_isHeight_8 rfl (wI_nar _ _ _) ⟨_, rfl, rfl, rfl⟩

set_option maxRecDepth 100000 in
set_option maxHeartbeats 4000000 in
theorem c_isCell (K : Kx) {w : Wd} (v : Int32)  : MT K mX9_isCell 1 0 0 [.int v] w (PI fun r w' => r = wI v 0 7 ∧ w' = w) := by
  refine MT.of [some (.int v)] (by decide) rfl (nle rfl) rfl ?_
  intro E hC hR
  refine j_iload_n hC dX9_isCell_0 rfl ?_
  refine j_iconst hC (0) dX9_isCell_1 (by decide) ?_
  refine j_bipush hC (7) dX9_isCell_2 (by decide) ?_
  refine j_calls (kc' := 0) (ks' := 0) hC (c_isWithin K v 0 7) dX9_isCell_4 wX9_isWithin lX9_68 t_yX9_isWithin rfl rfl (nle rfl) rfl (by decide) (by decide) (by decide) (kI fun r w' hp => ?_)
  obtain ⟨rfl, rfl⟩ := hp
  exact j_zret hC hR dX9_isCell_7 rfl (wI_nar _ _ _) ⟨_, rfl, rfl, rfl⟩

set_option maxRecDepth 100000 in
set_option maxHeartbeats 4000000 in
theorem c_Area (K : Kx) {w : Wd} {a n : Nat} (sq lo : Int32) (ha : w a = some (.inr (1, [.null, .long 0, .long 0]))) : MT K mX0_init 1 0 0 [.ref a, .ref n, .int sq, .int lo] w (PV fun w' => w' = wst w a (oArea n (sq.toInt64 * (1000 - lo).toInt64) 0)) := by
  refine MT.of [some (.ref a), some (.ref n), some (.int sq), some (.int lo)] (by decide) rfl (nle rfl) rfl ?_
  intro E hC hR
  refine j_aload_n hC dX0_init_0 rfl ?_
  refine j_obj hC dX0_init_1 lX0_3 i_objectInit c_objectInit rfl (nle rfl) (by decide) ?_
  refine j_aload_n hC dX0_init_4 rfl ?_
  refine j_aload_n hC dX0_init_5 rfl ?_
  refine j_putF (fs' := [_, _, _]) hC cfX0 dX0_init_6 hR.nm fX0_9 rfl rfl (by decide) ha rfl rfl (nlt rfl) rfl ?_
  refine j_aload_n hC dX0_init_9 rfl ?_
  refine j_iload_n hC dX0_init_10 rfl ?_
  refine j_i2l hC dX0_init_11 ?_
  refine j_sipush hC (1000) dX0_init_12 (by decide) ?_
  refine j_iload_n hC dX0_init_15 rfl ?_
  refine j_isub hC dX0_init_16 ?_
  refine j_i2l hC dX0_init_17 ?_
  refine j_lmul hC dX0_init_18 ?_
  refine j_putF (fs' := [_, _, _]) hC cfX0 dX0_init_19 hR.nm fX0_15 rfl rfl (by decide) (wst_s _ _ _) rfl rfl (nlt rfl) rfl ?_
  exact j_vret hC hR dX0_init_22 rfl ⟨rfl, by simp only [wst_wst]⟩

set_option maxRecDepth 100000 in
set_option maxHeartbeats 4000000 in
theorem c_takeRain (K : Kx) {w : Wd} {a n : Nat} {ca re : Int64} {bo ro : Int32} {fu li ma ov ga : Int64} {sr : Int32} (rn : Int32) (ha : w a = some (oArea n ca re)) (hn : w n = some (oNode bo ro fu li ma ov ga sr)) : MT K mX0_takeRain 0 0 0 [.ref a, .int rn] w (PL fun r w' => r = (re + ca * rn.toInt64) / 60000000 ∧ w' = wst (wst w n (oNode bo ro fu (li + (re + ca * rn.toInt64) / 60000000) ma ov ga sr)) a (oArea n ca ((re + ca * rn.toInt64) - (re + ca * rn.toInt64) / 60000000 * 60000000))) := by
  refine MT.of [some (.ref a), some (.int rn), none, none] (by decide) rfl (nle rfl) rfl ?_
  intro E hC hR
  refine j_aload_n hC dX0_takeRain_0 rfl ?_
  refine j_dup hC dX0_takeRain_1 rfl ?_
  refine j_get hC cfX0 dX0_takeRain_2 fX0_19 (by decide) ha rfl ?_
  refine j_aload_n hC dX0_takeRain_5 rfl ?_
  refine j_get hC cfX0 dX0_takeRain_6 fX0_15 (by decide) ha rfl ?_
  refine j_iload_n hC dX0_takeRain_9 rfl ?_
  refine j_i2l hC dX0_takeRain_10 ?_
  refine j_lmul hC dX0_takeRain_11 ?_
  refine j_ladd hC dX0_takeRain_12 ?_
  refine j_put (fs' := [_, _, _]) hC cfX0 dX0_takeRain_13 fX0_19 rfl (by decide) ha rfl rfl (nlt rfl) rfl ?_
  refine j_aload_n hC dX0_takeRain_16 rfl ?_
  refine j_get hC cfX0 dX0_takeRain_17 fX0_19 (by decide) (wst_s _ _ _) rfl ?_
  refine j_ldc2 hC dX0_takeRain_20 nX0_22 ?_
  refine j_ldiv hC dX0_takeRain_23 (by decide) ?_
  refine j_lstore_n (lv' := [some _, some _, some _, none]) hC dX0_takeRain_24 (nlt rfl) rfl ?_
  refine j_aload_n hC dX0_takeRain_25 rfl ?_
  refine j_dup hC dX0_takeRain_26 rfl ?_
  refine j_get hC cfX0 dX0_takeRain_27 fX0_19 (by decide) (wst_s _ _ _) rfl ?_
  refine j_ldc2 hC dX0_takeRain_30 nX0_22 ?_
  refine j_lrem hC dX0_takeRain_33 (by decide) ?_
  refine j_put (fs' := [_, _, _]) hC cfX0 dX0_takeRain_34 fX0_19 rfl (by decide) (wst_s _ _ _) rfl rfl (nlt rfl) rfl ?_
  refine j_aload_n hC dX0_takeRain_37 rfl ?_
  refine j_get hC cfX0 dX0_takeRain_38 fX0_9 (by decide) (wst_s _ _ _) rfl ?_
  refine j_dup hC dX0_takeRain_41 rfl ?_
  refine j_get hC cfX5 dX0_takeRain_42 fX0_24 (by decide) ((wst_n (Ne.symm (ne_cls ha hn (by decide)))).trans ((wst_n (Ne.symm (ne_cls ha hn (by decide)))).trans hn)) rfl ?_
  refine j_lload_n hC dX0_takeRain_45 rfl ?_
  refine j_ladd hC dX0_takeRain_46 ?_
  refine j_put (fs' := [_, _, _, _, _, _, _, _]) hC cfX5 dX0_takeRain_47 fX0_24 rfl (by decide) ((wst_n (Ne.symm (ne_cls ha hn (by decide)))).trans ((wst_n (Ne.symm (ne_cls ha hn (by decide)))).trans hn)) rfl rfl (nlt rfl) rfl ?_
  refine j_lload_n hC dX0_takeRain_50 rfl ?_
  exact j_lret hC hR dX0_takeRain_51 rfl ⟨_, rfl, rfl, by rw [wst_wst, wst_comm (ne_cls ha hn (by decide))]⟩

set_option maxRecDepth 100000 in
set_option maxHeartbeats 4000000 in
theorem c_Entry (K : Kx) {w : Wd} {a : Nat} (wi pr : Int32) (ha : w a = some (.inr (2, [.int 0, .int 0]))) : MT K mX1_init 1 0 0 [.ref a, .int wi, .int pr] w (PV fun w' => w' = wst w a (oEntry wi pr)) := by
  refine MT.of [some (.ref a), some (.int wi), some (.int pr)] (by decide) rfl (nle rfl) rfl ?_
  intro E hC hR
  refine j_aload_n hC dX1_init_0 rfl ?_
  refine j_obj hC dX1_init_1 lX1_1 i_objectInit c_objectInit rfl (nle rfl) (by decide) ?_
  refine j_aload_n hC dX1_init_4 rfl ?_
  refine j_iload_n hC dX1_init_5 rfl ?_
  refine j_putF (fs' := [_, _]) hC cfX1 dX1_init_6 hR.nm fX1_7 rfl rfl (by decide) ha rfl rfl (nlt rfl) rfl ?_
  refine j_aload_n hC dX1_init_9 rfl ?_
  refine j_iload_n hC dX1_init_10 rfl ?_
  refine j_putF (fs' := [_, _]) hC cfX1 dX1_init_11 hR.nm fX1_13 rfl rfl (by decide) (wst_s _ _ _) rfl rfl (nlt rfl) rfl ?_
  exact j_vret hC hR dX1_init_14 rfl ⟨rfl, by simp only [wst_wst]⟩

set_option maxRecDepth 100000 in
set_option maxHeartbeats 4000000 in
theorem c_Gate (K : Kx) {w : Wd} {a n : Nat} {bo ro : Int32} {fu li ma ov ga : Int64} {sr : Int32} (he ra : Int32) (ha : w a = some (.inr (3, [.null, .long 0, .int 0]))) (hn : w n = some (oNode bo ro fu li ma ov ga sr)) : MT K mX2_init 1 0 0 [.ref a, .ref n, .int he, .int ra] w (PV fun w' => w' = wst w a (oGate n (he.toInt64 * ro.toInt64) ra)) := by
  refine MT.of [some (.ref a), some (.ref n), some (.int he), some (.int ra)] (by decide) rfl (nle rfl) rfl ?_
  intro E hC hR
  refine j_aload_n hC dX2_init_0 rfl ?_
  refine j_obj hC dX2_init_1 lX2_1 i_objectInit c_objectInit rfl (nle rfl) (by decide) ?_
  refine j_aload_n hC dX2_init_4 rfl ?_
  refine j_aload_n hC dX2_init_5 rfl ?_
  refine j_putF (fs' := [_, _, _]) hC cfX2 dX2_init_6 hR.nm fX2_7 rfl rfl (by decide) ha rfl rfl (nlt rfl) rfl ?_
  refine j_aload_n hC dX2_init_9 rfl ?_
  refine j_iload_n hC dX2_init_10 rfl ?_
  refine j_i2l hC dX2_init_11 ?_
  refine j_aload_n hC dX2_init_12 rfl ?_
  refine j_get hC cfX5 dX2_init_13 fX2_13 (by decide) ((wst_n (Ne.symm (ne_cls ha hn (by decide)))).trans hn) rfl ?_
  refine j_i2l hC dX2_init_16 ?_
  refine j_lmul hC dX2_init_17 ?_
  refine j_putF (fs' := [_, _, _]) hC cfX2 dX2_init_18 hR.nm fX2_19 rfl rfl (by decide) (wst_s _ _ _) rfl rfl (nlt rfl) rfl ?_
  refine j_aload_n hC dX2_init_21 rfl ?_
  refine j_iload_n hC dX2_init_22 rfl ?_
  refine j_putF (fs' := [_, _, _]) hC cfX2 dX2_init_23 hR.nm fX2_23 rfl rfl (by decide) (wst_s _ _ _) rfl rfl (nlt rfl) rfl ?_
  exact j_vret hC hR dX2_init_26 rfl ⟨rfl, by simp only [wst_wst]⟩

set_option maxRecDepth 100000 in
set_option maxHeartbeats 4000000 in
theorem c_letOut (K : Kx) {w : Wd} {a n : Nat} {si : Int64} {ra : Int32} {bo ro : Int32} {fu li ma ov ga : Int64} {sr : Int32} (ha : w a = some (oGate n si ra)) (hn : w n = some (oNode bo ro fu li ma ov ga sr)) : MT K mX2_letOut 1 0 0 [.ref a] w (PL fun r w' => r = gOut ra.toInt64 (li - si) ∧ w' = wst w n (oNode bo ro fu (li - gOut ra.toInt64 (li - si)) ma ov (ga + gOut ra.toInt64 (li - si)) sr)) := by
  refine MT.of [some (.ref a), none, none] (by decide) rfl (nle rfl) rfl ?_
  intro E hC hR
  refine j_lconst hC (0) dX2_letOut_0 (by decide) ?_
  refine j_aload_n hC dX2_letOut_1 rfl ?_
  refine j_get hC cfX2 dX2_letOut_2 fX2_23 (by decide) ha rfl ?_
  refine j_i2l hC dX2_letOut_5 ?_
  refine j_aload_n hC dX2_letOut_6 rfl ?_
  refine j_get hC cfX2 dX2_letOut_7 fX2_7 (by decide) ha rfl ?_
  refine j_get hC cfX5 dX2_letOut_10 fX2_26 (by decide) hn rfl ?_
  refine j_aload_n hC dX2_letOut_13 rfl ?_
  refine j_get hC cfX2 dX2_letOut_14 fX2_19 (by decide) ha rfl ?_
  refine j_lsub hC dX2_letOut_17 ?_
  refine j_mminL hC dX2_letOut_18 lX2_29 t_yJ9_min_f86c9 inJ9 wJ9_min_f86c9.1 rfl (nle rfl) (by decide) ?_
  refine j_mmaxL hC dX2_letOut_21 lX2_35 t_yJ9_max_f86c9 inJ9 wJ9_max_f86c9.1 rfl (nle rfl) (by decide) ?_
  refine j_lstore_n (lv' := [some _, some _, none]) hC dX2_letOut_24 (nlt rfl) rfl ?_
  refine j_aload_n hC dX2_letOut_25 rfl ?_
  refine j_get hC cfX2 dX2_letOut_26 fX2_7 (by decide) ha rfl ?_
  refine j_dup hC dX2_letOut_29 rfl ?_
  refine j_get hC cfX5 dX2_letOut_30 fX2_26 (by decide) hn rfl ?_
  refine j_lload_n hC dX2_letOut_33 rfl ?_
  refine j_lsub hC dX2_letOut_34 ?_
  refine j_put (fs' := [_, _, _, _, _, _, _, _]) hC cfX5 dX2_letOut_35 fX2_26 rfl (by decide) hn rfl rfl (nlt rfl) rfl ?_
  refine j_aload_n hC dX2_letOut_38 rfl ?_
  refine j_get hC cfX2 dX2_letOut_39 fX2_7 (by decide) ((wst_n (ne_cls ha hn (by decide))).trans ha) rfl ?_
  refine j_dup hC dX2_letOut_42 rfl ?_
  refine j_get hC cfX5 dX2_letOut_43 fX2_38 (by decide) (wst_s _ _ _) rfl ?_
  refine j_lload_n hC dX2_letOut_46 rfl ?_
  refine j_ladd hC dX2_letOut_47 ?_
  refine j_put (fs' := [_, _, _, _, _, _, _, _]) hC cfX5 dX2_letOut_48 fX2_38 rfl (by decide) (wst_s _ _ _) rfl rfl (nlt rfl) rfl ?_
  refine j_lload_n hC dX2_letOut_51 rfl ?_
  exact j_lret hC hR dX2_letOut_52 rfl ⟨_, rfl, rfl, by rw [wst_wst]; rfl⟩

set_option maxRecDepth 100000 in
set_option maxHeartbeats 4000000 in
theorem c_Gully (K : Kx) {w : Wd} {a n : Nat} (ce ra : Int32) (ha : w a = some (.inr (4, [.int 0, .null, .int 0]))) : MT K mX3_init 1 0 0 [.ref a, .int ce, .ref n, .int ra] w (PV fun w' => w' = wst w a (oGully ce n ra)) := by
  refine MT.of [some (.ref a), some (.int ce), some (.ref n), some (.int ra)] (by decide) rfl (nle rfl) rfl ?_
  intro E hC hR
  refine j_aload_n hC dX3_init_0 rfl ?_
  refine j_obj hC dX3_init_1 lX3_1 i_objectInit c_objectInit rfl (nle rfl) (by decide) ?_
  refine j_aload_n hC dX3_init_4 rfl ?_
  refine j_iload_n hC dX3_init_5 rfl ?_
  refine j_putF (fs' := [_, _, _]) hC cfX3 dX3_init_6 hR.nm fX3_7 rfl rfl (by decide) ha rfl rfl (nlt rfl) rfl ?_
  refine j_aload_n hC dX3_init_9 rfl ?_
  refine j_aload_n hC dX3_init_10 rfl ?_
  refine j_putF (fs' := [_, _, _]) hC cfX3 dX3_init_11 hR.nm fX3_13 rfl rfl (by decide) (wst_s _ _ _) rfl rfl (nlt rfl) rfl ?_
  refine j_aload_n hC dX3_init_14 rfl ?_
  refine j_iload_n hC dX3_init_15 rfl ?_
  refine j_putF (fs' := [_, _, _]) hC cfX3 dX3_init_16 hR.nm fX3_17 rfl rfl (by decide) (wst_s _ _ _) rfl rfl (nlt rfl) rfl ?_
  exact j_vret hC hR dX3_init_19 rfl ⟨rfl, by simp only [wst_wst]⟩

set_option maxRecDepth 100000 in
set_option maxHeartbeats 4000000 in
theorem c_drain (K : Kx) {w : Wd} {a n : Nat} {ce ra : Int32} {bo ro : Int32} {fu li ma ov ga : Int64} {sr : Int32} (hd : Int64) (ha : w a = some (oGully ce n ra)) (hn : w n = some (oNode bo ro fu li ma ov ga sr)) : MT K mX3_drain 1 0 0 [.ref a, .long hd] w (PL fun r w' => r = gTake ra.toInt64 hd (fu - li) ∧ w' = wst w n (oNode bo ro fu (li + gTake ra.toInt64 hd (fu - li)) ma ov ga sr)) := by
  refine MT.of [some (.ref a), some (.long hd), none, none, none, none, none] (by decide) rfl (nle rfl) rfl ?_
  intro E hC hR
  refine j_lconst hC (0) dX3_drain_0 (by decide) ?_
  refine j_aload_n hC dX3_drain_1 rfl ?_
  refine j_get hC cfX3 dX3_drain_2 fX3_13 (by decide) ha rfl ?_
  refine j_get hC cfX5 dX3_drain_5 fX3_20 (by decide) hn rfl ?_
  refine j_aload_n hC dX3_drain_8 rfl ?_
  refine j_get hC cfX3 dX3_drain_9 fX3_13 (by decide) ha rfl ?_
  refine j_get hC cfX5 dX3_drain_12 fX3_26 (by decide) hn rfl ?_
  refine j_lsub hC dX3_drain_15 ?_
  refine j_mmaxL hC dX3_drain_16 lX3_29 t_yJ9_max_f86c9 inJ9 wJ9_max_f86c9.1 rfl (nle rfl) (by decide) ?_
  refine j_lstore_n (lv' := [some _, some _, none, some _, none, none, none]) hC dX3_drain_19 (nlt rfl) rfl ?_
  refine j_aload_n hC dX3_drain_20 rfl ?_
  refine j_get hC cfX3 dX3_drain_21 fX3_17 (by decide) ha rfl ?_
  refine j_i2l hC dX3_drain_24 ?_
  refine j_lload_n hC dX3_drain_25 rfl ?_
  refine j_mminL hC dX3_drain_26 lX3_35 t_yJ9_min_f86c9 inJ9 wJ9_min_f86c9.1 rfl (nle rfl) (by decide) ?_
  refine j_lload_n hC dX3_drain_29 rfl ?_
  refine j_mminL hC dX3_drain_30 lX3_35 t_yJ9_min_f86c9 inJ9 wJ9_min_f86c9.1 rfl (nle rfl) (by decide) ?_
  refine j_lstore (lv' := [some _, some _, none, some _, none, some _, none]) hC dX3_drain_33 (nlt rfl) rfl ?_
  refine j_aload_n hC dX3_drain_35 rfl ?_
  refine j_get hC cfX3 dX3_drain_36 fX3_13 (by decide) ha rfl ?_
  refine j_dup hC dX3_drain_39 rfl ?_
  refine j_get hC cfX5 dX3_drain_40 fX3_26 (by decide) hn rfl ?_
  refine j_lload hC dX3_drain_43 rfl ?_
  refine j_ladd hC dX3_drain_45 ?_
  refine j_put (fs' := [_, _, _, _, _, _, _, _]) hC cfX5 dX3_drain_46 fX3_26 rfl (by decide) hn rfl rfl (nlt rfl) rfl ?_
  refine j_lload hC dX3_drain_49 rfl ?_
  exact j_lret hC hR dX3_drain_51 rfl ⟨_, rfl, rfl, rfl⟩

set_option maxRecDepth 100000 in
set_option maxHeartbeats 4000000 in
theorem c_Pipe (K : Kx) {w : Wd} {a f t : Nat} (ln wi : Int32) (ha : w a = some (.inr (8, [.null, .null, .long 0, .long 0, .long 0, .long 0, .long 0]))) : MT K mX7_init 1 0 0 [.ref a, .ref f, .ref t, .int ln, .int wi] w (PV fun w' => w' = wst w a (oPipe f t (wi.toInt64 * wi.toInt64) (1000 * ln.toInt64) 0 0 0)) := by
  refine MT.of [some (.ref a), some (.ref f), some (.ref t), some (.int ln), some (.int wi)] (by decide) rfl (nle rfl) rfl ?_
  intro E hC hR
  refine j_aload_n hC dX7_init_0 rfl ?_
  refine j_obj hC dX7_init_1 lX7_1 i_objectInit c_objectInit rfl (nle rfl) (by decide) ?_
  refine j_aload_n hC dX7_init_4 rfl ?_
  refine j_aload_n hC dX7_init_5 rfl ?_
  refine j_putF (fs' := [_, _, _, _, _, _, _]) hC cfX7 dX7_init_6 hR.nm fX7_7 rfl rfl (by decide) ha rfl rfl (nlt rfl) rfl ?_
  refine j_aload_n hC dX7_init_9 rfl ?_
  refine j_aload_n hC dX7_init_10 rfl ?_
  refine j_putF (fs' := [_, _, _, _, _, _, _]) hC cfX7 dX7_init_11 hR.nm fX7_13 rfl rfl (by decide) (wst_s _ _ _) rfl rfl (nlt rfl) rfl ?_
  refine j_aload_n hC dX7_init_14 rfl ?_
  refine j_iload hC dX7_init_15 rfl ?_
  refine j_i2l hC dX7_init_17 ?_
  refine j_iload hC dX7_init_18 rfl ?_
  refine j_i2l hC dX7_init_20 ?_
  refine j_lmul hC dX7_init_21 ?_
  refine j_putF (fs' := [_, _, _, _, _, _, _]) hC cfX7 dX7_init_22 hR.nm fX7_16 rfl rfl (by decide) (wst_s _ _ _) rfl rfl (nlt rfl) rfl ?_
  refine j_aload_n hC dX7_init_25 rfl ?_
  refine j_ldc2 hC dX7_init_26 nX7_20 ?_
  refine j_iload_n hC dX7_init_29 rfl ?_
  refine j_i2l hC dX7_init_30 ?_
  refine j_lmul hC dX7_init_31 ?_
  refine j_putF (fs' := [_, _, _, _, _, _, _]) hC cfX7 dX7_init_32 hR.nm fX7_22 rfl rfl (by decide) (wst_s _ _ _) rfl rfl (nlt rfl) rfl ?_
  exact j_vret hC hR dX7_init_35 rfl ⟨rfl, by simp only [wst_wst]⟩

set_option maxRecDepth 100000 in
set_option maxHeartbeats 4000000 in
theorem c_carry (K : Kx) {w : Wd} {a f t : Nat} {sq rs re ml mt : Int64} {bo ro : Int32} {fu li ma ov ga : Int64} {sr : Int32} {bo2 ro2 : Int32} {fu2 li2 ma2 ov2 ga2 : Int64} {sr2 : Int32} (ha : w a = some (oPipe f t sq rs re ml mt)) (hf : w f = some (oNode bo ro fu li ma ov ga sr)) (ht : w t = some (oNode bo2 ro2 fu2 li2 ma2 ov2 ga2 sr2)) (hft : f ≠ t) (hrs : ¬ rs = 0) : MT K mX7_carry 2 0 0 [.ref a] w (PV fun w' => w' = wst (wst (wst w f (oNode bo ro fu (li - (pMv ((re + sq * (ma - ma2)) / rs) li li2)) ma ov ga sr)) t (oNode bo2 ro2 fu2 (li2 + (pMv ((re + sq * (ma - ma2)) / rs) li li2)) ma2 ov2 ga2 sr2)) a (oPipe f t sq rs ((re + sq * (ma - ma2)) - (re + sq * (ma - ma2)) / rs * rs) (pMv ((re + sq * (ma - ma2)) / rs) li li2) (mt + (pMv ((re + sq * (ma - ma2)) / rs) li li2)))) := by
  refine MT.of [some (.ref a), none, none] (by decide) rfl (nle rfl) rfl ?_
  intro E hC hR
  refine j_aload_n hC dX7_carry_0 rfl ?_
  refine j_dup hC dX7_carry_1 rfl ?_
  refine j_get hC cfX7 dX7_carry_2 fX7_25 (by decide) ha rfl ?_
  refine j_aload_n hC dX7_carry_5 rfl ?_
  refine j_get hC cfX7 dX7_carry_6 fX7_16 (by decide) ha rfl ?_
  refine j_aload_n hC dX7_carry_9 rfl ?_
  refine j_get hC cfX7 dX7_carry_10 fX7_7 (by decide) ha rfl ?_
  refine j_get hC cfX5 dX7_carry_13 fX7_28 (by decide) hf rfl ?_
  refine j_aload_n hC dX7_carry_16 rfl ?_
  refine j_get hC cfX7 dX7_carry_17 fX7_13 (by decide) ha rfl ?_
  refine j_get hC cfX5 dX7_carry_20 fX7_28 (by decide) ht rfl ?_
  refine j_lsub hC dX7_carry_23 ?_
  refine j_lmul hC dX7_carry_24 ?_
  refine j_ladd hC dX7_carry_25 ?_
  refine j_put (fs' := [_, _, _, _, _, _, _]) hC cfX7 dX7_carry_26 fX7_25 rfl (by decide) ha rfl rfl (nlt rfl) rfl ?_
  refine j_aload_n hC dX7_carry_29 rfl ?_
  refine j_get hC cfX7 dX7_carry_30 fX7_25 (by decide) (wst_s _ _ _) rfl ?_
  refine j_aload_n hC dX7_carry_33 rfl ?_
  refine j_get hC cfX7 dX7_carry_34 fX7_22 (by decide) (wst_s _ _ _) rfl ?_
  refine j_ldiv hC dX7_carry_37 (hrs) ?_
  refine j_lstore_n (lv' := [some _, some _, none]) hC dX7_carry_38 (nlt rfl) rfl ?_
  refine j_aload_n hC dX7_carry_39 rfl ?_
  refine j_dup hC dX7_carry_40 rfl ?_
  refine j_get hC cfX7 dX7_carry_41 fX7_25 (by decide) (wst_s _ _ _) rfl ?_
  refine j_aload_n hC dX7_carry_44 rfl ?_
  refine j_get hC cfX7 dX7_carry_45 fX7_22 (by decide) (wst_s _ _ _) rfl ?_
  refine j_lrem hC dX7_carry_48 (hrs) ?_
  refine j_put (fs' := [_, _, _, _, _, _, _]) hC cfX7 dX7_carry_49 fX7_25 rfl (by decide) (wst_s _ _ _) rfl rfl (nlt rfl) rfl ?_
  refine j_aload_n hC dX7_carry_52 rfl ?_
  refine j_lload_n hC dX7_carry_53 rfl ?_
  refine j_lconst hC (0) dX7_carry_54 (by decide) ?_
  refine j_lcmp_lt hC 74 dX7_carry_55 dX7_carry_56 (by decide) (fun c_55 => ?_) (fun c_55 => ?_)
  · refine j_aload_n hC dX7_carry_74 rfl ?_
    refine j_get hC cfX7 dX7_carry_75 fX7_13 (by decide) (wst_s _ _ _) rfl ?_
    refine j_aload_n hC dX7_carry_78 rfl ?_
    refine j_get hC cfX7 dX7_carry_79 fX7_7 (by decide) (wst_s _ _ _) rfl ?_
    refine j_lload_n hC dX7_carry_82 rfl ?_
    refine j_lneg hC dX7_carry_83 ?_
    refine j_callv (kc' := 0) (ks' := 0) (r := (RX5, TX5, 8)) hC (c_giveTo K (-((re + sq * (ma - ma2)) / rs)) ((wst_n (Ne.symm (ne_cls ha ht (by decide)))).trans ((wst_n (Ne.symm (ne_cls ha ht (by decide)))).trans ht)) ((wst_n (Ne.symm (ne_cls ha hf (by decide)))).trans ((wst_n (Ne.symm (ne_cls ha hf (by decide)))).trans hf)) (Ne.symm hft)) dX7_carry_84 wX5_giveTo lX7_33 i_yX5_giveTo s_yX5_giveTo ((wst_n (Ne.symm (ne_cls ha ht (by decide)))).trans ((wst_n (Ne.symm (ne_cls ha ht (by decide)))).trans ht)) rfl rfl rfl (nle rfl) rfl (by decide) (by decide) (by decide) (kL fun r w' hp => ?_)
    obtain ⟨rfl, rfl⟩ := hp
    refine j_lneg hC dX7_carry_87 ?_
    refine j_put (fs' := [_, _, _, _, _, _, _]) hC cfX7 dX7_carry_88 fX7_37 rfl (by decide) ((wst_n (ne_cls ha hf (by decide))).trans ((wst_n (ne_cls ha ht (by decide))).trans (wst_s _ _ _))) rfl rfl (nlt rfl) rfl ?_
    refine j_aload_n hC dX7_carry_91 rfl ?_
    refine j_dup hC dX7_carry_92 rfl ?_
    refine j_get hC cfX7 dX7_carry_93 fX7_40 (by decide) (wst_s _ _ _) rfl ?_
    refine j_aload_n hC dX7_carry_96 rfl ?_
    refine j_get hC cfX7 dX7_carry_97 fX7_37 (by decide) (wst_s _ _ _) rfl ?_
    refine j_ladd hC dX7_carry_100 ?_
    refine j_put (fs' := [_, _, _, _, _, _, _]) hC cfX7 dX7_carry_101 fX7_40 rfl (by decide) (wst_s _ _ _) rfl rfl (nlt rfl) rfl ?_
    first
      | exact j_vret hC hR dX7_carry_104 rfl ⟨rfl, by rw [wst_c1 (ne_cls ha hf (by decide)) (ne_cls ha ht (by decide)), show pMv ((re + sq * (ma - ma2)) / rs) li li2 = _ from if_neg c_55]⟩
      | exact j_vret hC hR dX7_carry_104 rfl ⟨rfl, by rw [wst_c2 (ne_cls ha hf (by decide)) (ne_cls ha ht (by decide)) hft, (pMv_neg c_55 li li2).1, (pMv_neg c_55 li li2).2.1, (pMv_neg c_55 li li2).2.2]⟩
  · refine j_aload_n hC dX7_carry_59 rfl ?_
    refine j_get hC cfX7 dX7_carry_60 fX7_7 (by decide) (wst_s _ _ _) rfl ?_
    refine j_aload_n hC dX7_carry_63 rfl ?_
    refine j_get hC cfX7 dX7_carry_64 fX7_13 (by decide) (wst_s _ _ _) rfl ?_
    refine j_lload_n hC dX7_carry_67 rfl ?_
    refine j_callv (kc' := 0) (ks' := 0) (r := (RX5, TX5, 8)) hC (c_giveTo K ((re + sq * (ma - ma2)) / rs) ((wst_n (Ne.symm (ne_cls ha hf (by decide)))).trans ((wst_n (Ne.symm (ne_cls ha hf (by decide)))).trans hf)) ((wst_n (Ne.symm (ne_cls ha ht (by decide)))).trans ((wst_n (Ne.symm (ne_cls ha ht (by decide)))).trans ht)) hft) dX7_carry_68 wX5_giveTo lX7_33 i_yX5_giveTo s_yX5_giveTo ((wst_n (Ne.symm (ne_cls ha hf (by decide)))).trans ((wst_n (Ne.symm (ne_cls ha hf (by decide)))).trans hf)) rfl rfl rfl (nle rfl) rfl (by decide) (by decide) (by decide) (kL fun r w' hp => ?_)
    obtain ⟨rfl, rfl⟩ := hp
    refine j_goto hC 88 dX7_carry_71 (by decide) ?_
    refine j_put (fs' := [_, _, _, _, _, _, _]) hC cfX7 dX7_carry_88 fX7_37 rfl (by decide) ((wst_n (ne_cls ha ht (by decide))).trans ((wst_n (ne_cls ha hf (by decide))).trans (wst_s _ _ _))) rfl rfl (nlt rfl) rfl ?_
    refine j_aload_n hC dX7_carry_91 rfl ?_
    refine j_dup hC dX7_carry_92 rfl ?_
    refine j_get hC cfX7 dX7_carry_93 fX7_40 (by decide) (wst_s _ _ _) rfl ?_
    refine j_aload_n hC dX7_carry_96 rfl ?_
    refine j_get hC cfX7 dX7_carry_97 fX7_37 (by decide) (wst_s _ _ _) rfl ?_
    refine j_ladd hC dX7_carry_100 ?_
    refine j_put (fs' := [_, _, _, _, _, _, _]) hC cfX7 dX7_carry_101 fX7_40 rfl (by decide) (wst_s _ _ _) rfl rfl (nlt rfl) rfl ?_
    first
      | exact j_vret hC hR dX7_carry_104 rfl ⟨rfl, by rw [wst_c1 (ne_cls ha hf (by decide)) (ne_cls ha ht (by decide)), show pMv ((re + sq * (ma - ma2)) / rs) li li2 = _ from if_neg c_55]⟩
      | exact j_vret hC hR dX7_carry_104 rfl ⟨rfl, by rw [wst_c2 (ne_cls ha hf (by decide)) (ne_cls ha ht (by decide)) hft, (pMv_neg c_55 li li2).1, (pMv_neg c_55 li li2).2.1, (pMv_neg c_55 li li2).2.2]⟩

set_option maxRecDepth 100000 in
set_option maxHeartbeats 4000000 in
theorem c_Pump (K : Kx) {w : Wd} {a n t : Nat} (on off ra : Int32) (ha : w a = some (.inr (9, [.null, .null, .int 0, .int 0, .int 0, .int 0]))) : MT K mX8_init 1 0 0 [.ref a, .ref n, .ref t, .int on, .int off, .int ra] w (PV fun w' => w' = wst w a (oPump n t on off ra 0)) := by
  refine MT.of [some (.ref a), some (.ref n), some (.ref t), some (.int on), some (.int off), some (.int ra)] (by decide) rfl (nle rfl) rfl ?_
  intro E hC hR
  refine j_aload_n hC dX8_init_0 rfl ?_
  refine j_obj hC dX8_init_1 lX8_1 i_objectInit c_objectInit rfl (nle rfl) (by decide) ?_
  refine j_aload_n hC dX8_init_4 rfl ?_
  refine j_aload_n hC dX8_init_5 rfl ?_
  refine j_putF (fs' := [_, _, _, _, _, _]) hC cfX8 dX8_init_6 hR.nm fX8_7 rfl rfl (by decide) ha rfl rfl (nlt rfl) rfl ?_
  refine j_aload_n hC dX8_init_9 rfl ?_
  refine j_aload_n hC dX8_init_10 rfl ?_
  refine j_putF (fs' := [_, _, _, _, _, _]) hC cfX8 dX8_init_11 hR.nm fX8_13 rfl rfl (by decide) (wst_s _ _ _) rfl rfl (nlt rfl) rfl ?_
  refine j_aload_n hC dX8_init_14 rfl ?_
  refine j_iload_n hC dX8_init_15 rfl ?_
  refine j_putF (fs' := [_, _, _, _, _, _]) hC cfX8 dX8_init_16 hR.nm fX8_16 rfl rfl (by decide) (wst_s _ _ _) rfl rfl (nlt rfl) rfl ?_
  refine j_aload_n hC dX8_init_19 rfl ?_
  refine j_iload hC dX8_init_20 rfl ?_
  refine j_putF (fs' := [_, _, _, _, _, _]) hC cfX8 dX8_init_22 hR.nm fX8_20 rfl rfl (by decide) (wst_s _ _ _) rfl rfl (nlt rfl) rfl ?_
  refine j_aload_n hC dX8_init_25 rfl ?_
  refine j_iload hC dX8_init_26 rfl ?_
  refine j_putF (fs' := [_, _, _, _, _, _]) hC cfX8 dX8_init_28 hR.nm fX8_23 rfl rfl (by decide) (wst_s _ _ _) rfl rfl (nlt rfl) rfl ?_
  exact j_vret hC hR dX8_init_31 rfl ⟨rfl, by simp only [wst_wst]⟩

theorem lift_0 {w : Wd} {a n t : Nat} {on off ra po : Int32} {bo ro : Int32} {fu li ma ov ga : Int64} {sr : Int32} {bo2 ro2 : Int32} {fu2 li2 ma2 ov2 ga2 : Int64} {sr2 : Int32} (hn : w n = some (oNode bo ro fu li ma ov ga sr)) (ht : w t = some (oNode bo2 ro2 fu2 li2 ma2 ov2 ga2 sr2)) (hpo : po = 0) :
    wst w a (oPump n t on off ra 0) = wst (wst (wst w n (oNode bo ro fu (li - pGv po ra.toInt64 li) ma ov ga sr)) t (oNode bo2 ro2 fu2 (li2 + pGv po ra.toInt64 li) ma2 ov2 ga2 sr2)) a (oPump n t on off ra po) := by
  subst hpo
  rw [show pGv 0 ra.toInt64 li = 0 from if_pos rfl, Int64.sub_zero, Int64.add_zero, wst_id hn, wst_id ht]
theorem lift_1 {w : Wd} {a n t : Nat} {on off ra po io : Int32} {bo ro : Int32} {fu li ma ov ga : Int64} {sr : Int32} {bo2 ro2 : Int32} {fu2 li2 ma2 ov2 ga2 : Int64} {sr2 : Int32} (hpo : po = io) (hio : ¬ io = 0) :
    wst (wst (wst w n (oNode bo ro fu (li - (if li < ra.toInt64 then li else ra.toInt64)) ma ov ga sr)) t (oNode bo2 ro2 fu2 (li2 + (if li < ra.toInt64 then li else ra.toInt64)) ma2 ov2 ga2 sr2)) a (oPump n t on off ra io) = wst (wst (wst w n (oNode bo ro fu (li - pGv po ra.toInt64 li) ma ov ga sr)) t (oNode bo2 ro2 fu2 (li2 + pGv po ra.toInt64 li) ma2 ov2 ga2 sr2)) a (oPump n t on off ra po) := by
  subst hpo
  rw [show pGv po ra.toInt64 li = _ from if_neg hio]

set_option maxRecDepth 100000 in
set_option maxHeartbeats 4000000 in
theorem c_lift (K : Kx) {w : Wd} {a n t : Nat} {on off ra io : Int32} {bo ro : Int32} {fu li ma ov ga : Int64} {sr : Int32} {bo2 ro2 : Int32} {fu2 li2 ma2 ov2 ga2 : Int64} {sr2 : Int32} (ha : w a = some (oPump n t on off ra io)) (hn : w n = some (oNode bo ro fu li ma ov ga sr)) (ht : w t = some (oNode bo2 ro2 fu2 li2 ma2 ov2 ga2 sr2)) (hnt : n ≠ t) (hro : ¬ ro.toInt64 = 0) : MT K mX8_lift 2 0 0 [.ref a] w (PV fun w' => w' = wst (wst (wst w n (oNode bo ro fu (li - (pGv (pOn (bo.toInt64 + li / ro.toInt64) on off io) ra.toInt64 li)) ma ov ga sr)) t (oNode bo2 ro2 fu2 (li2 + (pGv (pOn (bo.toInt64 + li / ro.toInt64) on off io) ra.toInt64 li)) ma2 ov2 ga2 sr2)) a (oPump n t on off ra (pOn (bo.toInt64 + li / ro.toInt64) on off io))) := by
  refine MT.of [some (.ref a), none, none] (by decide) rfl (nle rfl) rfl ?_
  intro E hC hR
  refine j_aload_n hC dX8_lift_0 rfl ?_
  refine j_get hC cfX8 dX8_lift_1 fX8_7 (by decide) ha rfl ?_
  refine j_callv (kc' := 0) (ks' := 0) (r := (RX5, TX5, 8)) hC (c_levelNow K hn hro) dX8_lift_4 wX5_levelNow lX8_26 i_yX5_levelNow s_yX5_levelNow hn rfl rfl rfl (nle rfl) rfl (by decide) (by decide) (by decide) (kL fun r w' hp => ?_)
  obtain ⟨rfl, hw⟩ := hp
  rw [hw]
  clear hw
  refine j_lstore_n (lv' := [some _, some _, none]) hC dX8_lift_7 (nlt rfl) rfl ?_
  refine j_lload_n hC dX8_lift_8 rfl ?_
  refine j_aload_n hC dX8_lift_9 rfl ?_
  refine j_get hC cfX8 dX8_lift_10 fX8_16 (by decide) ha rfl ?_
  refine j_i2l hC dX8_lift_13 ?_
  refine j_lcmp_lt hC 26 dX8_lift_14 dX8_lift_15 (by decide) (fun c_14 => ?_) (fun c_14 => ?_)
  · refine j_lload_n hC dX8_lift_26 rfl ?_
    refine j_aload_n hC dX8_lift_27 rfl ?_
    refine j_get hC cfX8 dX8_lift_28 fX8_20 (by decide) ha rfl ?_
    refine j_i2l hC dX8_lift_31 ?_
    refine j_lcmp_gt hC 41 dX8_lift_32 dX8_lift_33 (by decide) (fun c_32 => ?_) (fun c_32 => ?_)
    · refine j_aload_n hC dX8_lift_41 rfl ?_
      refine j_get hC cfX8 dX8_lift_42 fX8_32 (by decide) ha rfl ?_
      refine j_if_eq hC 65 dX8_lift_45 (by decide) (fun c_45 => ?_) (fun c_45 => ?_)
      · exact j_vret hC hR dX8_lift_65 rfl ⟨rfl, by rw [← lift_0 hn ht ((show pOn _ on off io = io from (if_pos c_14).trans (if_pos c_32)).trans c_45)]; exact (wst_id (by rw [ha, c_45])).symm⟩
      · refine j_aload_n hC dX8_lift_48 rfl ?_
        refine j_get hC cfX8 dX8_lift_49 fX8_7 (by decide) ha rfl ?_
        refine j_aload_n hC dX8_lift_52 rfl ?_
        refine j_get hC cfX8 dX8_lift_53 fX8_13 (by decide) ha rfl ?_
        refine j_aload_n hC dX8_lift_56 rfl ?_
        refine j_get hC cfX8 dX8_lift_57 fX8_23 (by decide) ha rfl ?_
        refine j_i2l hC dX8_lift_60 ?_
        refine j_callv (kc' := 0) (ks' := 0) (r := (RX5, TX5, 8)) hC (c_giveTo K ra.toInt64 hn ht hnt) dX8_lift_61 wX5_giveTo lX8_36 i_yX5_giveTo s_yX5_giveTo hn rfl rfl rfl (nle rfl) rfl (by decide) (by decide) (by decide) (kL fun r w' hp => ?_)
        obtain ⟨rfl, rfl⟩ := hp
        refine j_pop2_2 hC dX8_lift_64 rfl ?_
        exact j_vret hC hR dX8_lift_65 rfl ⟨rfl, by rw [← lift_1 (show pOn _ on off io = io from (if_pos c_14).trans (if_pos c_32)) c_45]; exact (wst_id ((wst_n (ne_cls ha ht (by decide))).trans ((wst_n (ne_cls ha hn (by decide))).trans ha))).symm⟩
    · refine j_aload_n hC dX8_lift_36 rfl ?_
      refine j_iconst hC (0) dX8_lift_37 (by decide) ?_
      refine j_put (fs' := [_, _, _, _, _, _]) hC cfX8 dX8_lift_38 fX8_32 rfl (by decide) ha rfl rfl (nlt rfl) rfl ?_
      refine j_aload_n hC dX8_lift_41 rfl ?_
      refine j_get hC cfX8 dX8_lift_42 fX8_32 (by decide) (wst_s _ _ _) rfl ?_
      refine j_if_eq hC 65 dX8_lift_45 (by decide) (fun c_45 => ?_) (fun c_45 => ?_)
      · exact j_vret hC hR dX8_lift_65 rfl ⟨rfl, lift_0 hn ht (show pOn _ on off io = 0 from (if_pos c_14).trans (if_neg c_32))⟩
      · refine j_aload_n hC dX8_lift_48 rfl ?_
        refine j_get hC cfX8 dX8_lift_49 fX8_7 (by decide) (wst_s _ _ _) rfl ?_
        refine j_aload_n hC dX8_lift_52 rfl ?_
        refine j_get hC cfX8 dX8_lift_53 fX8_13 (by decide) (wst_s _ _ _) rfl ?_
        refine j_aload_n hC dX8_lift_56 rfl ?_
        refine j_get hC cfX8 dX8_lift_57 fX8_23 (by decide) (wst_s _ _ _) rfl ?_
        refine j_i2l hC dX8_lift_60 ?_
        refine j_callv (kc' := 0) (ks' := 0) (r := (RX5, TX5, 8)) hC (c_giveTo K ra.toInt64 ((wst_n (Ne.symm (ne_cls ha hn (by decide)))).trans hn) ((wst_n (Ne.symm (ne_cls ha ht (by decide)))).trans ht) hnt) dX8_lift_61 wX5_giveTo lX8_36 i_yX5_giveTo s_yX5_giveTo ((wst_n (Ne.symm (ne_cls ha hn (by decide)))).trans hn) rfl rfl rfl (nle rfl) rfl (by decide) (by decide) (by decide) (kL fun r w' hp => ?_)
        obtain ⟨rfl, rfl⟩ := hp
        refine j_pop2_2 hC dX8_lift_64 rfl ?_
        exact absurd rfl c_45
  · refine j_aload_n hC dX8_lift_18 rfl ?_
    refine j_iconst hC (1) dX8_lift_19 (by decide) ?_
    refine j_put (fs' := [_, _, _, _, _, _]) hC cfX8 dX8_lift_20 fX8_32 rfl (by decide) ha rfl rfl (nlt rfl) rfl ?_
    refine j_goto hC 41 dX8_lift_23 (by decide) ?_
    refine j_aload_n hC dX8_lift_41 rfl ?_
    refine j_get hC cfX8 dX8_lift_42 fX8_32 (by decide) (wst_s _ _ _) rfl ?_
    refine j_if_eq hC 65 dX8_lift_45 (by decide) (fun c_45 => ?_) (fun c_45 => ?_)
    · exact absurd c_45 (by decide)
    · refine j_aload_n hC dX8_lift_48 rfl ?_
      refine j_get hC cfX8 dX8_lift_49 fX8_7 (by decide) (wst_s _ _ _) rfl ?_
      refine j_aload_n hC dX8_lift_52 rfl ?_
      refine j_get hC cfX8 dX8_lift_53 fX8_13 (by decide) (wst_s _ _ _) rfl ?_
      refine j_aload_n hC dX8_lift_56 rfl ?_
      refine j_get hC cfX8 dX8_lift_57 fX8_23 (by decide) (wst_s _ _ _) rfl ?_
      refine j_i2l hC dX8_lift_60 ?_
      refine j_callv (kc' := 0) (ks' := 0) (r := (RX5, TX5, 8)) hC (c_giveTo K ra.toInt64 ((wst_n (Ne.symm (ne_cls ha hn (by decide)))).trans hn) ((wst_n (Ne.symm (ne_cls ha ht (by decide)))).trans ht) hnt) dX8_lift_61 wX5_giveTo lX8_36 i_yX5_giveTo s_yX5_giveTo ((wst_n (Ne.symm (ne_cls ha hn (by decide)))).trans hn) rfl rfl rfl (nle rfl) rfl (by decide) (by decide) (by decide) (kL fun r w' hp => ?_)
      obtain ⟨rfl, rfl⟩ := hp
      refine j_pop2_2 hC dX8_lift_64 rfl ?_
      exact j_vret hC hR dX8_lift_65 rfl ⟨rfl, by rw [← lift_1 (show pOn _ on off io = 1 from if_neg c_14) (by decide)]; exact wst_c3 (ne_cls ha hn (by decide)) (ne_cls ha ht (by decide))⟩

theorem piece_len {k : Nat} (hk : k < 10) : (nI k * 40 + 1) * 6 = nI ((40 * k + 1) * 6) := by
  rw [show (40 : Int32) = nI 40 by decide, pk_mul, nI_1, show (6 : Int32) = nI 6 by decide, pk_mul, Nat.mul_comm k 40]
set_option maxRecDepth 100000 in
set_option maxHeartbeats 4000000 in
theorem c_Piece (K : Kx) {w : Wd} {a k : Nat} (ha : w a = some (.inr (7, [.null, .int 0, .int 0, .int 0, .int 0, .int 0, .int 0]))) (hk : k < 10) : MT K mX6_init 1 1 2166 [.ref a, .int (nI k)] w (PV fun w' => ∃ q : Nat, w q = none ∧ w' = wst (wst w q (aJ K.2.1 ((40 * k + 1) * 6) (fun _ => 0))) a (oPiece q 0 0 0 0 0 0)) := by
  refine MT.of [some (.ref a), some (.int (nI k))] (by decide) rfl (nle rfl) rfl ?_
  intro E hC hR
  refine j_aload_n hC dX6_init_0 rfl ?_
  refine j_obj hC dX6_init_1 lX6_3 i_objectInit c_objectInit rfl (nle rfl) (by decide) ?_
  refine j_aload_n hC dX6_init_4 rfl ?_
  refine j_iload_n hC dX6_init_5 rfl ?_
  refine j_bipush hC (40) dX6_init_6 (by decide) ?_
  refine j_imul hC dX6_init_8 ?_
  refine j_iconst hC (1) dX6_init_9 (by decide) ?_
  refine j_iadd hC dX6_init_10 ?_
  refine j_bipush hC (6) dX6_init_11 (by decide) ?_
  refine j_imul hC dX6_init_13 ?_
  refine j_newJ (n' := (40 * k + 1) * 6) (kc' := 0) (ks' := 0) hC dX6_init_14 ac_J ?_ ?_ (by omega) (by decide) (by omega) (fun q14 hq14 => ?_)
  · rw [piece_len hk]; exact nI_pos (by omega)
  · rw [piece_len hk]; exact nI_clamp (by omega)
  refine j_putF (fs' := [_, _, _, _, _, _, _]) hC cfX6 dX6_init_16 hR.nm fX6_9 rfl rfl (by decide) ((wst_n (ne_of ha hq14)).trans ha) rfl rfl (nlt rfl) rfl ?_
  exact j_vret hC hR dX6_init_19 rfl ⟨rfl, q14, hq14, rfl⟩
end
section
abbrev Ast : Type := (Nat → Nat → Int32) × (Nat → Nat → Int64)
def uI (S : Ast) (k i : Nat) (v : Int32) : Ast := (va_up S.1 k (va_up (S.1 k) i v), S.2)
def uJ (S : Ast) (k i : Nat) (v : Int64) : Ast := (S.1, va_up S.2 k (va_up (S.2 k) i v))
def mI : List Nat := [2, 3, 4, 5, 11, 12, 13, 14, 19, 20, 21, 23, 25, 26, 27, 28, 29, 32, 33, 34, 36, 37, 38, 45, 46, 51, 52, 53, 56, 57, 58]
def mJ : List Nat := [6, 7, 8, 9, 15, 16, 17, 22, 39, 54]
def mA : List Nat := [2, 3, 4, 5, 6, 7, 8, 9, 11, 12, 13, 14, 15, 16, 17, 19, 20, 21, 22, 23, 25, 26, 27, 28, 29, 30, 32, 33, 34, 36, 37, 38, 39, 45, 46, 51, 52, 53, 54, 56, 57, 58]
def mSI : List Nat := [0, 1, 10, 18, 24, 31, 35, 40, 44, 47, 48, 49, 50, 55]
def mSJ : List Nat := [41, 42, 43]
def mLen : Nat → Nat
  | 2 => 24
  | 3 => 24
  | 4 => 24
  | 5 => 24
  | 6 => 24
  | 7 => 24
  | 8 => 24
  | 9 => 24
  | 11 => 40
  | 12 => 40
  | 13 => 40
  | 14 => 40
  | 15 => 40
  | 16 => 40
  | 17 => 40
  | 19 => 24
  | 20 => 24
  | 21 => 24
  | 22 => 24
  | 23 => 1440
  | 25 => 8
  | 26 => 8
  | 27 => 8
  | 28 => 8
  | 29 => 8
  | 30 => 8
  | 32 => 8
  | 33 => 8
  | 34 => 8
  | 36 => 8
  | 37 => 8
  | 38 => 8
  | 39 => 8
  | 45 => 6
  | 46 => 6
  | 51 => 10
  | 52 => 10
  | 53 => 10
  | 54 => 26466
  | 56 => 10
  | 57 => 10
  | 58 => 10
  | _ => 0
def mF (ad : Nat → Nat) (S : Ast) : List Value := [.int (S.1 0 0), .int (S.1 1 0), .ref (ad 2), .ref (ad 3), .ref (ad 4), .ref (ad 5), .ref (ad 6), .ref (ad 7), .ref (ad 8), .ref (ad 9), .int (S.1 10 0), .ref (ad 11), .ref (ad 12), .ref (ad 13), .ref (ad 14), .ref (ad 15), .ref (ad 16), .ref (ad 17), .int (S.1 18 0), .ref (ad 19), .ref (ad 20), .ref (ad 21), .ref (ad 22), .ref (ad 23), .int (S.1 24 0), .ref (ad 25), .ref (ad 26), .ref (ad 27), .ref (ad 28), .ref (ad 29), .ref (ad 30), .int (S.1 31 0), .ref (ad 32), .ref (ad 33), .ref (ad 34), .int (S.1 35 0), .ref (ad 36), .ref (ad 37), .ref (ad 38), .ref (ad 39), .int (S.1 40 0), .long (S.2 41 0), .long (S.2 42 0), .long (S.2 43 0), .int (S.1 44 0), .ref (ad 45), .ref (ad 46), .int (S.1 47 0), .int (S.1 48 0), .int (S.1 49 0), .int (S.1 50 0), .ref (ad 51), .ref (ad 52), .ref (ad 53), .ref (ad 54), .int (S.1 55 0), .ref (ad 56), .ref (ad 57), .ref (ad 58)]
theorem mFg_0 (ad : Nat → Nat) (S : Ast) : (mF ad S)[0]? = some (.int (S.1 0 0)) := rfl
theorem mFg_1 (ad : Nat → Nat) (S : Ast) : (mF ad S)[1]? = some (.int (S.1 1 0)) := rfl
theorem mFg_2 (ad : Nat → Nat) (S : Ast) : (mF ad S)[2]? = some (.ref (ad 2)) := rfl
theorem mFg_3 (ad : Nat → Nat) (S : Ast) : (mF ad S)[3]? = some (.ref (ad 3)) := rfl
theorem mFg_4 (ad : Nat → Nat) (S : Ast) : (mF ad S)[4]? = some (.ref (ad 4)) := rfl
theorem mFg_5 (ad : Nat → Nat) (S : Ast) : (mF ad S)[5]? = some (.ref (ad 5)) := rfl
theorem mFg_6 (ad : Nat → Nat) (S : Ast) : (mF ad S)[6]? = some (.ref (ad 6)) := rfl
theorem mFg_7 (ad : Nat → Nat) (S : Ast) : (mF ad S)[7]? = some (.ref (ad 7)) := rfl
theorem mFg_8 (ad : Nat → Nat) (S : Ast) : (mF ad S)[8]? = some (.ref (ad 8)) := rfl
theorem mFg_9 (ad : Nat → Nat) (S : Ast) : (mF ad S)[9]? = some (.ref (ad 9)) := rfl
theorem mFg_10 (ad : Nat → Nat) (S : Ast) : (mF ad S)[10]? = some (.int (S.1 10 0)) := rfl
theorem mFg_11 (ad : Nat → Nat) (S : Ast) : (mF ad S)[11]? = some (.ref (ad 11)) := rfl
theorem mFg_12 (ad : Nat → Nat) (S : Ast) : (mF ad S)[12]? = some (.ref (ad 12)) := rfl
theorem mFg_13 (ad : Nat → Nat) (S : Ast) : (mF ad S)[13]? = some (.ref (ad 13)) := rfl
theorem mFg_14 (ad : Nat → Nat) (S : Ast) : (mF ad S)[14]? = some (.ref (ad 14)) := rfl
theorem mFg_15 (ad : Nat → Nat) (S : Ast) : (mF ad S)[15]? = some (.ref (ad 15)) := rfl
theorem mFg_16 (ad : Nat → Nat) (S : Ast) : (mF ad S)[16]? = some (.ref (ad 16)) := rfl
theorem mFg_17 (ad : Nat → Nat) (S : Ast) : (mF ad S)[17]? = some (.ref (ad 17)) := rfl
theorem mFg_18 (ad : Nat → Nat) (S : Ast) : (mF ad S)[18]? = some (.int (S.1 18 0)) := rfl
theorem mFg_19 (ad : Nat → Nat) (S : Ast) : (mF ad S)[19]? = some (.ref (ad 19)) := rfl
theorem mFg_20 (ad : Nat → Nat) (S : Ast) : (mF ad S)[20]? = some (.ref (ad 20)) := rfl
theorem mFg_21 (ad : Nat → Nat) (S : Ast) : (mF ad S)[21]? = some (.ref (ad 21)) := rfl
theorem mFg_22 (ad : Nat → Nat) (S : Ast) : (mF ad S)[22]? = some (.ref (ad 22)) := rfl
theorem mFg_23 (ad : Nat → Nat) (S : Ast) : (mF ad S)[23]? = some (.ref (ad 23)) := rfl
theorem mFg_24 (ad : Nat → Nat) (S : Ast) : (mF ad S)[24]? = some (.int (S.1 24 0)) := rfl
theorem mFg_25 (ad : Nat → Nat) (S : Ast) : (mF ad S)[25]? = some (.ref (ad 25)) := rfl
theorem mFg_26 (ad : Nat → Nat) (S : Ast) : (mF ad S)[26]? = some (.ref (ad 26)) := rfl
theorem mFg_27 (ad : Nat → Nat) (S : Ast) : (mF ad S)[27]? = some (.ref (ad 27)) := rfl
theorem mFg_28 (ad : Nat → Nat) (S : Ast) : (mF ad S)[28]? = some (.ref (ad 28)) := rfl
theorem mFg_29 (ad : Nat → Nat) (S : Ast) : (mF ad S)[29]? = some (.ref (ad 29)) := rfl
theorem mFg_30 (ad : Nat → Nat) (S : Ast) : (mF ad S)[30]? = some (.ref (ad 30)) := rfl
theorem mFg_31 (ad : Nat → Nat) (S : Ast) : (mF ad S)[31]? = some (.int (S.1 31 0)) := rfl
theorem mFg_32 (ad : Nat → Nat) (S : Ast) : (mF ad S)[32]? = some (.ref (ad 32)) := rfl
theorem mFg_33 (ad : Nat → Nat) (S : Ast) : (mF ad S)[33]? = some (.ref (ad 33)) := rfl
theorem mFg_34 (ad : Nat → Nat) (S : Ast) : (mF ad S)[34]? = some (.ref (ad 34)) := rfl
theorem mFg_35 (ad : Nat → Nat) (S : Ast) : (mF ad S)[35]? = some (.int (S.1 35 0)) := rfl
theorem mFg_36 (ad : Nat → Nat) (S : Ast) : (mF ad S)[36]? = some (.ref (ad 36)) := rfl
theorem mFg_37 (ad : Nat → Nat) (S : Ast) : (mF ad S)[37]? = some (.ref (ad 37)) := rfl
theorem mFg_38 (ad : Nat → Nat) (S : Ast) : (mF ad S)[38]? = some (.ref (ad 38)) := rfl
theorem mFg_39 (ad : Nat → Nat) (S : Ast) : (mF ad S)[39]? = some (.ref (ad 39)) := rfl
theorem mFg_40 (ad : Nat → Nat) (S : Ast) : (mF ad S)[40]? = some (.int (S.1 40 0)) := rfl
theorem mFg_41 (ad : Nat → Nat) (S : Ast) : (mF ad S)[41]? = some (.long (S.2 41 0)) := rfl
theorem mFg_42 (ad : Nat → Nat) (S : Ast) : (mF ad S)[42]? = some (.long (S.2 42 0)) := rfl
theorem mFg_43 (ad : Nat → Nat) (S : Ast) : (mF ad S)[43]? = some (.long (S.2 43 0)) := rfl
theorem mFg_44 (ad : Nat → Nat) (S : Ast) : (mF ad S)[44]? = some (.int (S.1 44 0)) := rfl
theorem mFg_45 (ad : Nat → Nat) (S : Ast) : (mF ad S)[45]? = some (.ref (ad 45)) := rfl
theorem mFg_46 (ad : Nat → Nat) (S : Ast) : (mF ad S)[46]? = some (.ref (ad 46)) := rfl
theorem mFg_47 (ad : Nat → Nat) (S : Ast) : (mF ad S)[47]? = some (.int (S.1 47 0)) := rfl
theorem mFg_48 (ad : Nat → Nat) (S : Ast) : (mF ad S)[48]? = some (.int (S.1 48 0)) := rfl
theorem mFg_49 (ad : Nat → Nat) (S : Ast) : (mF ad S)[49]? = some (.int (S.1 49 0)) := rfl
theorem mFg_50 (ad : Nat → Nat) (S : Ast) : (mF ad S)[50]? = some (.int (S.1 50 0)) := rfl
theorem mFg_51 (ad : Nat → Nat) (S : Ast) : (mF ad S)[51]? = some (.ref (ad 51)) := rfl
theorem mFg_52 (ad : Nat → Nat) (S : Ast) : (mF ad S)[52]? = some (.ref (ad 52)) := rfl
theorem mFg_53 (ad : Nat → Nat) (S : Ast) : (mF ad S)[53]? = some (.ref (ad 53)) := rfl
theorem mFg_54 (ad : Nat → Nat) (S : Ast) : (mF ad S)[54]? = some (.ref (ad 54)) := rfl
theorem mFg_55 (ad : Nat → Nat) (S : Ast) : (mF ad S)[55]? = some (.int (S.1 55 0)) := rfl
theorem mFg_56 (ad : Nat → Nat) (S : Ast) : (mF ad S)[56]? = some (.ref (ad 56)) := rfl
theorem mFg_57 (ad : Nat → Nat) (S : Ast) : (mF ad S)[57]? = some (.ref (ad 57)) := rfl
theorem mFg_58 (ad : Nat → Nat) (S : Ast) : (mF ad S)[58]? = some (.ref (ad 58)) := rfl
theorem mF_cong {ad : Nat → Nat} {S T : Ast} (h1 : ∀ k ∈ mSI, T.1 k 0 = S.1 k 0) (h2 : ∀ k ∈ mSJ, T.2 k 0 = S.2 k 0) : mF ad T = mF ad S := by
  have e0 := h1 0 (by decide)
  have e1 := h1 1 (by decide)
  have e10 := h1 10 (by decide)
  have e18 := h1 18 (by decide)
  have e24 := h1 24 (by decide)
  have e31 := h1 31 (by decide)
  have e35 := h1 35 (by decide)
  have e40 := h1 40 (by decide)
  have e44 := h1 44 (by decide)
  have e47 := h1 47 (by decide)
  have e48 := h1 48 (by decide)
  have e49 := h1 49 (by decide)
  have e50 := h1 50 (by decide)
  have e55 := h1 55 (by decide)
  have e41 := h2 41 (by decide)
  have e42 := h2 42 (by decide)
  have e43 := h2 43 (by decide)
  simp only [mF, e0, e1, e10, e18, e24, e31, e35, e40, e44, e47, e48, e49, e50, e55, e41, e42, e43]

theorem uI_1n {S : Ast} {k i j : Nat} {v : Int32} (h : j ≠ k) : (uI S k i v).1 j = S.1 j := va_up_ne _ _ h
theorem uI_1s {S : Ast} {k i : Nat} {v : Int32} : (uI S k i v).1 k = va_up (S.1 k) i v := va_up_self _ _ _
theorem uJ_2n {S : Ast} {k i j : Nat} {v : Int64} (h : j ≠ k) : (uJ S k i v).2 j = S.2 j := va_up_ne _ _ h
theorem uJ_2s {S : Ast} {k i : Nat} {v : Int64} : (uJ S k i v).2 k = va_up (S.2 k) i v := va_up_self _ _ _
/-- the reference's object at m, its rows at ad, holds S -/
def MA (g : Gx) (w : Wd) (m : Nat) (ad : Nat → Nat) (S : Ast) : Prop := w m = some (.inr (11, mF ad S)) ∧ (∀ k ∈ mI, w (ad k) = some (aI g (mLen k) (S.1 k))) ∧ (∀ k ∈ mJ, w (ad k) = some (aJ g (mLen k) (S.2 k))) ∧ w (ad 30) = some (aZ g 8 (S.1 30)) ∧ ∀ j ∈ mA, ∀ k ∈ mA, ad j = ad k → j = k
/-- .. and what isn't its own is as in w0 -/
def MB (g : Gx) (w0 w : Wd) (m : Nat) (ad : Nat → Nat) (S : Ast) : Prop := MA g w m ad S ∧ ∀ a : Nat, a ≠ m → (∀ k ∈ mA, a ≠ ad k) → w a = w0 a
theorem mA_c : ∀ k ∈ mA, k ∈ mI ∨ k ∈ mJ ∨ k = 30 := by decide
theorem mJ_nI : ∀ j ∈ mJ, j ∉ mI := by decide
theorem mI_A : ∀ k ∈ mI, k ∈ mA := by decide
theorem mJ_A : ∀ k ∈ mJ, k ∈ mA := by decide
theorem mI_SI : ∀ k ∈ mI, ∀ j ∈ mSI, j ≠ k := by decide
theorem mJ_SJ : ∀ k ∈ mJ, ∀ j ∈ mSJ, j ≠ k := by decide
theorem mSI_I : ∀ k ∈ mSI, ∀ j ∈ mI, j ≠ k := by decide
theorem mSJ_J : ∀ k ∈ mSJ, ∀ j ∈ mJ, j ≠ k := by decide
theorem mI_30 : ∀ k ∈ mI, 30 ≠ k := by decide
theorem mSI_30 : ∀ k ∈ mSI, 30 ≠ k := by decide
theorem z_SI : ∀ j ∈ mSI, j ≠ 30 := by decide
theorem MA.ne {g : Gx} {w : Wd} {m : Nat} {ad : Nat → Nat} {S : Ast} (h : MA g w m ad S) {k : Nat} (hk : k ∈ mA) : m ≠ ad k := by
  intro z
  have h1 := h.1
  rw [z] at h1
  have hc := mA_c k hk
  rcases hc with hc | hc | hc
  · rw [h.2.1 k hc] at h1; cases h1
  · rw [h.2.2.1 k hc] at h1; cases h1
  · subst hc; rw [h.2.2.2.1] at h1; cases h1
theorem MB.stI {g : Gx} {w0 w : Wd} {m : Nat} {ad : Nat → Nat} {S : Ast} (h : MB g w0 w m ad S) {k : Nat} (hk : k ∈ mI) (i : Nat) (v : Int32) : MB g w0 (wst w (ad k) (aI g (mLen k) (va_up (S.1 k) i v))) m ad (uI S k i v) := by
  obtain ⟨⟨h1, h2, h3, h4, h5⟩, h6⟩ := h
  have hM : MA g w m ad S := ⟨h1, h2, h3, h4, h5⟩
  refine ⟨⟨?_, fun j hj => ?_, fun j hj => ?_, ?_, h5⟩, fun a ha hb => ?_⟩
  · rw [wst_n (hM.ne (mI_A k hk)), h1, mF_cong (S := S) (T := uI S k i v) (fun j hj => by rw [uI_1n (mI_SI k hk j hj)]) (fun j hj => rfl)]
  · by_cases hjk : j = k
    · subst hjk; rw [wst_s, uI_1s]
    · rw [wst_n (fun z => hjk (h5 j (mI_A j hj) k (mI_A k hk) z)), h2 j hj, uI_1n hjk]
  · rw [wst_n, h3 j hj]
    · rfl
    · intro z
      have := h5 j (mJ_A j hj) k (mI_A k hk) z
      subst this
      exact mJ_nI j hj hk
  · rw [wst_n, h4, uI_1n (mI_30 k hk)]
    intro z
    exact mI_30 k hk (h5 30 (by decide) k (mI_A k hk) z)
  · rw [wst_n (hb k (mI_A k hk))]; exact h6 a ha hb
theorem MB.stJ {g : Gx} {w0 w : Wd} {m : Nat} {ad : Nat → Nat} {S : Ast} (h : MB g w0 w m ad S) {k : Nat} (hk : k ∈ mJ) (i : Nat) (v : Int64) : MB g w0 (wst w (ad k) (aJ g (mLen k) (va_up (S.2 k) i v))) m ad (uJ S k i v) := by
  obtain ⟨⟨h1, h2, h3, h4, h5⟩, h6⟩ := h
  have hM : MA g w m ad S := ⟨h1, h2, h3, h4, h5⟩
  refine ⟨⟨?_, fun j hj => ?_, fun j hj => ?_, ?_, h5⟩, fun a ha hb => ?_⟩
  · rw [wst_n (hM.ne (mJ_A k hk)), h1, mF_cong (S := S) (T := uJ S k i v) (fun j hj => rfl) (fun j hj => by rw [uJ_2n (mJ_SJ k hk j hj)])]
  · rw [wst_n, h2 j hj]
    · rfl
    · intro z
      have := h5 j (mI_A j hj) k (mJ_A k hk) z
      subst this
      exact mJ_nI j hk hj
  · by_cases hjk : j = k
    · subst hjk; rw [wst_s, uJ_2s]
    · rw [wst_n (fun z => hjk (h5 j (mJ_A j hj) k (mJ_A k hk) z)), h3 j hj, uJ_2n hjk]
  · rw [wst_n, h4]
    · rfl
    · intro z
      have := h5 30 (by decide) k (mJ_A k hk) z
      subst this
      revert hk; decide
  · rw [wst_n (hb k (mJ_A k hk))]; exact h6 a ha hb
theorem MB.stZ {g : Gx} {w0 w : Wd} {m : Nat} {ad : Nat → Nat} {S : Ast} (h : MB g w0 w m ad S) (i : Nat) (v : Int32) : MB g w0 (wst w (ad 30) (aZ g 8 (va_up (S.1 30) i v))) m ad (uI S 30 i v) := by
  obtain ⟨⟨h1, h2, h3, h4, h5⟩, h6⟩ := h
  have hM : MA g w m ad S := ⟨h1, h2, h3, h4, h5⟩
  refine ⟨⟨?_, fun j hj => ?_, fun j hj => ?_, ?_, h5⟩, fun a ha hb => ?_⟩
  · rw [wst_n (hM.ne (by decide)), h1, mF_cong (S := S) (T := uI S 30 i v) (fun j hj => by rw [uI_1n (z_SI j hj)]) (fun j hj => rfl)]
  · rw [wst_n (fun z => Ne.symm (mI_30 j hj) (h5 j (mI_A j hj) 30 (by decide) z)), h2 j hj, uI_1n (Ne.symm (mI_30 j hj))]
  · rw [wst_n, h3 j hj]
    · rfl
    · intro z
      have := h5 j (mJ_A j hj) 30 (by decide) z
      subst this
      revert hj; decide
  · rw [wst_s, uI_1s]
  · rw [wst_n (hb 30 (by decide))]; exact h6 a ha hb
theorem MB.ptI {g : Gx} {w0 w : Wd} {m : Nat} {ad : Nat → Nat} {S : Ast} (h : MB g w0 w m ad S) {k : Nat} (hk : k ∈ mSI) (v : Int32) : MB g w0 (wst w m (.inr (11, mF ad (uI S k 0 v)))) m ad (uI S k 0 v) := by
  obtain ⟨⟨h1, h2, h3, h4, h5⟩, h6⟩ := h
  have hM : MA g w m ad S := ⟨h1, h2, h3, h4, h5⟩
  refine ⟨⟨wst_s _ _ _, fun j hj => ?_, fun j hj => ?_, ?_, h5⟩, fun a ha hb => ?_⟩
  · rw [wst_n (Ne.symm (hM.ne (mI_A j hj))), h2 j hj, uI_1n (mSI_I k hk j hj)]
  · rw [wst_n (Ne.symm (hM.ne (mJ_A j hj))), h3 j hj]; rfl
  · rw [wst_n (Ne.symm (hM.ne (by decide))), h4, uI_1n (mSI_30 k hk)]
  · rw [wst_n ha]; exact h6 a ha hb
theorem MB.ptJ {g : Gx} {w0 w : Wd} {m : Nat} {ad : Nat → Nat} {S : Ast} (h : MB g w0 w m ad S) {k : Nat} (hk : k ∈ mSJ) (v : Int64) : MB g w0 (wst w m (.inr (11, mF ad (uJ S k 0 v)))) m ad (uJ S k 0 v) := by
  obtain ⟨⟨h1, h2, h3, h4, h5⟩, h6⟩ := h
  have hM : MA g w m ad S := ⟨h1, h2, h3, h4, h5⟩
  refine ⟨⟨wst_s _ _ _, fun j hj => ?_, fun j hj => ?_, ?_, h5⟩, fun a ha hb => ?_⟩
  · rw [wst_n (Ne.symm (hM.ne (mI_A j hj))), h2 j hj]; rfl
  · rw [wst_n (Ne.symm (hM.ne (mJ_A j hj))), h3 j hj, uJ_2n (mSJ_J k hk j hj)]
  · rw [wst_n (Ne.symm (hM.ne (by decide))), h4]; rfl
  · rw [wst_n ha]; exact h6 a ha hb
theorem MB.rf {g : Gx} {w : Wd} {m : Nat} {ad : Nat → Nat} {S : Ast} (h : MA g w m ad S) : MB g w w m ad S := ⟨h, fun _ _ _ => rfl⟩
theorem MB.tr {g : Gx} {w0 w w' : Wd} {m : Nat} {ad : Nat → Nat} {S T : Ast} (h : MB g w0 w m ad S) (h' : MB g w w' m ad T) : MB g w0 w' m ad T := ⟨h'.1, fun a ha hb => (h'.2 a ha hb).trans (h.2 a ha hb)⟩
section MR
variable {K : Kx} {cc : ByteArray} {nL d : Nat} {E : Ex} {kc ks : Nat} {w0 w : Wd} {pc : Nat} {lv : List (Option Value)} {st : List Value} {m k idx n : Nat} {ad : Nat → Nat} {S : Ast} {i : Int32} {v : Value}
theorem m_get (hC : BX K RX10 cc nL d E) (hM : MB K.2.1 w0 w m ad S) (hd : decode cc pc = .ok (.getfield idx, 3)) (hfl : Cond.fieldLink RX10 idx (TX10 k).1 (TX10 k).2.1 (TX10 k).2.2.1 ∈ gtbl) (hk : k < 59) (hv : (mF ad S)[k]? = some v) (kk : J K cc E kc ks w (pc + 3) lv (v :: st)) : J K cc E kc ks w pc lv (.ref m :: st) := j_get hC cfX10 hd hfl hk hM.1.1 hv kk
theorem m_ldI (hC : BX K RX10 cc nL d E) (hM : MB K.2.1 w0 w m ad S) (hk : k ∈ mI) (hd : decode cc pc = .ok (.iaload, 1)) (hi : ix i (mLen k) n) (kk : J K cc E kc ks w (pc + 1) lv (.int (S.1 k n) :: st)) : J K cc E kc ks w pc lv (.int i :: .ref (ad k) :: st) := j_aldI hC hd (hM.1.2.1 k hk) hi kk
theorem m_ldJ (hC : BX K RX10 cc nL d E) (hM : MB K.2.1 w0 w m ad S) (hk : k ∈ mJ) (hd : decode cc pc = .ok (.laload, 1)) (hi : ix i (mLen k) n) (kk : J K cc E kc ks w (pc + 1) lv (.long (S.2 k n) :: st)) : J K cc E kc ks w pc lv (.int i :: .ref (ad k) :: st) := j_aldJ hC hd (hM.1.2.2.1 k hk) hi kk
theorem m_ldZ (hC : BX K RX10 cc nL d E) (hM : MB K.2.1 w0 w m ad S) (hd : decode cc pc = .ok (.baload, 1)) (hi : ix i 8 n) (kk : J K cc E kc ks w (pc + 1) lv (.int (S.1 30 n) :: st)) : J K cc E kc ks w pc lv (.int i :: .ref (ad 30) :: st) := j_aldZ hC hd hM.1.2.2.2.1 hi kk
theorem m_stI (hC : BX K RX10 cc nL d E) (hM : MB K.2.1 w0 w m ad S) (hk : k ∈ mI) {x : Int32} (hd : decode cc pc = .ok (.iastore, 1)) (hi : ix i (mLen k) n) (kk : ∀ w1 : Wd, MB K.2.1 w0 w1 m ad (uI S k n x) → J K cc E kc ks w1 (pc + 1) lv st) : J K cc E kc ks w pc lv (.int x :: .int i :: .ref (ad k) :: st) := j_astI hC hd (hM.1.2.1 k hk) hi (kk _ (hM.stI hk n x))
theorem m_stJ (hC : BX K RX10 cc nL d E) (hM : MB K.2.1 w0 w m ad S) (hk : k ∈ mJ) {x : Int64} (hd : decode cc pc = .ok (.lastore, 1)) (hi : ix i (mLen k) n) (kk : ∀ w1 : Wd, MB K.2.1 w0 w1 m ad (uJ S k n x) → J K cc E kc ks w1 (pc + 1) lv st) : J K cc E kc ks w pc lv (.long x :: .int i :: .ref (ad k) :: st) := j_astJ hC hd (hM.1.2.2.1 k hk) hi (kk _ (hM.stJ hk n x))
theorem m_stZ (hC : BX K RX10 cc nL d E) (hM : MB K.2.1 w0 w m ad S) {x : Int32} (hd : decode cc pc = .ok (.bastore, 1)) (hi : ix i 8 n) (hz : narrow .boolean (.int x) = .int x) (kk : ∀ w1 : Wd, MB K.2.1 w0 w1 m ad (uI S 30 n x) → J K cc E kc ks w1 (pc + 1) lv st) : J K cc E kc ks w pc lv (.int x :: .int i :: .ref (ad 30) :: st) := j_astZ hC hd hM.1.2.2.2.1 hi hz (kk _ (hM.stZ n x))
theorem m_putI (hC : BX K RX10 cc nL d E) (hM : MB K.2.1 w0 w m ad S) {x : Int32} (hk : k ∈ mSI) (hd : decode cc pc = .ok (.putfield idx, 3)) (hfl : Cond.fieldLink RX10 idx (TX10 k).1 (TX10 k).2.1 (TX10 k).2.2.1 ∈ gtbl) (hfin : (TX10 k).2.2.2 = false) (hk9 : k < 59) (hn : narrow (tyX10 k) (.int x) = .int x) (hfit : fits (tyX10 k) (.int x) = true) (hl : (mF ad S).set k (.int x) = mF ad (uI S k 0 x)) (kk : ∀ w1 : Wd, MB K.2.1 w0 w1 m ad (uI S k 0 x) → J K cc E kc ks w1 (pc + 3) lv st) : J K cc E kc ks w pc lv (.int x :: .ref m :: st) := j_put hC cfX10 hd hfl hfin hk9 hM.1.1 hn hfit hk9 hl (kk _ (hM.ptI hk x))
theorem m_putJ (hC : BX K RX10 cc nL d E) (hM : MB K.2.1 w0 w m ad S) {x : Int64} (hk : k ∈ mSJ) (hd : decode cc pc = .ok (.putfield idx, 3)) (hfl : Cond.fieldLink RX10 idx (TX10 k).1 (TX10 k).2.1 (TX10 k).2.2.1 ∈ gtbl) (hfin : (TX10 k).2.2.2 = false) (hk9 : k < 59) (hn : narrow (tyX10 k) (.long x) = .long x) (hfit : fits (tyX10 k) (.long x) = true) (hl : (mF ad S).set k (.long x) = mF ad (uJ S k 0 x)) (kk : ∀ w1 : Wd, MB K.2.1 w0 w1 m ad (uJ S k 0 x) → J K cc E kc ks w1 (pc + 3) lv st) : J K cc E kc ks w pc lv (.long x :: .ref m :: st) := j_put hC cfX10 hd hfl hfin hk9 hM.1.1 hn hfit hk9 hl (kk _ (hM.ptJ hk x))
end MR

theorem mFs_0 (ad : Nat → Nat) (S : Ast) (x : Int32) : (mF ad S).set 0 (.int x) = mF ad (uI S 0 0 x) := rfl
theorem mFs_1 (ad : Nat → Nat) (S : Ast) (x : Int32) : (mF ad S).set 1 (.int x) = mF ad (uI S 1 0 x) := rfl
theorem mFs_10 (ad : Nat → Nat) (S : Ast) (x : Int32) : (mF ad S).set 10 (.int x) = mF ad (uI S 10 0 x) := rfl
theorem mFs_18 (ad : Nat → Nat) (S : Ast) (x : Int32) : (mF ad S).set 18 (.int x) = mF ad (uI S 18 0 x) := rfl
theorem mFs_24 (ad : Nat → Nat) (S : Ast) (x : Int32) : (mF ad S).set 24 (.int x) = mF ad (uI S 24 0 x) := rfl
theorem mFs_31 (ad : Nat → Nat) (S : Ast) (x : Int32) : (mF ad S).set 31 (.int x) = mF ad (uI S 31 0 x) := rfl
theorem mFs_35 (ad : Nat → Nat) (S : Ast) (x : Int32) : (mF ad S).set 35 (.int x) = mF ad (uI S 35 0 x) := rfl
theorem mFs_40 (ad : Nat → Nat) (S : Ast) (x : Int32) : (mF ad S).set 40 (.int x) = mF ad (uI S 40 0 x) := rfl
theorem mFs_44 (ad : Nat → Nat) (S : Ast) (x : Int32) : (mF ad S).set 44 (.int x) = mF ad (uI S 44 0 x) := rfl
theorem mFs_47 (ad : Nat → Nat) (S : Ast) (x : Int32) : (mF ad S).set 47 (.int x) = mF ad (uI S 47 0 x) := rfl
theorem mFs_48 (ad : Nat → Nat) (S : Ast) (x : Int32) : (mF ad S).set 48 (.int x) = mF ad (uI S 48 0 x) := rfl
theorem mFs_49 (ad : Nat → Nat) (S : Ast) (x : Int32) : (mF ad S).set 49 (.int x) = mF ad (uI S 49 0 x) := rfl
theorem mFs_50 (ad : Nat → Nat) (S : Ast) (x : Int32) : (mF ad S).set 50 (.int x) = mF ad (uI S 50 0 x) := rfl
theorem mFs_55 (ad : Nat → Nat) (S : Ast) (x : Int32) : (mF ad S).set 55 (.int x) = mF ad (uI S 55 0 x) := rfl
theorem mFs_41 (ad : Nat → Nat) (S : Ast) (x : Int64) : (mF ad S).set 41 (.long x) = mF ad (uJ S 41 0 x) := rfl
theorem mFs_42 (ad : Nat → Nat) (S : Ast) (x : Int64) : (mF ad S).set 42 (.long x) = mF ad (uJ S 42 0 x) := rfl
theorem mFs_43 (ad : Nat → Nat) (S : Ast) (x : Int64) : (mF ad S).set 43 (.long x) = mF ad (uJ S 43 0 x) := rfl
end
section

def cn (S : Ast) (k : Nat) : Nat := (S.1 k 0).toNatClampNeg
def CN (S : Ast) (k b : Nat) : Prop := S.1 k 0 = nI (cn S k) ∧ cn S k ≤ b
theorem CN.ix {S : Ast} {k b : Nat} (h : CN S k b) (B : Int32) (hb : b < 2 ^ 31) (hB : B = nI b) (hne : ¬ S.1 k 0 = B) : ix (S.1 k 0) b (cn S k) := by
  have hlt : cn S k < b := by
    rcases Nat.lt_or_ge (cn S k) b with q | q
    · exact q
    · exfalso
      apply hne
      rw [hB, h.1, show cn S k = b by have := h.2; omega]
  refine ⟨?_, rfl⟩
  rw [h.1]
  exact vp_in_nI hlt hb
theorem wI_in {v lo hi : Int32} (h : ¬ wI v lo hi = 0) : ¬ v < lo ∧ ¬ hi < v := by
  unfold wI at h
  by_cases h1 : v < lo
  · simp [h1] at h
  · by_cases h2 : hi < v
    · simp [h1, h2] at h
    · exact ⟨h1, h2⟩
theorem wI_ix {v : Int32} {n b : Nat} (hn : n ≤ b) (hb : b < 2 ^ 30) (h : ¬ wI v 0 (nI n - 1) = 0) : v = nI v.toNatClampNeg ∧ v.toNatClampNeg < n ∧ ix v b v.toNatClampNeg := by
  obtain ⟨h1, h2⟩ := wI_in h
  obtain ⟨j, hj, rfl⟩ := nI_of h1
  rw [nI_clamp hj]
  have hjn : j < n := by
    rcases Nat.lt_or_ge j n with q | q
    · exact q
    · exfalso
      apply h2
      cases n with
      | zero =>
        refine Int32.lt_iff_toInt_lt.mpr ?_
        rw [nI_toInt hj]
        have : (nI 0 - 1).toInt = -1 := by decide
        omega
      | succ n =>
        rw [nI_pred]
        exact nI_lt (by omega) hj
  exact ⟨rfl, hjn, ix_nI (by omega) (by omega)⟩
theorem isn {S : Ast} (h : CN S 1 24) {k : Int32} (hk : ¬ wI k 0 (S.1 1 0 - 1) = 0) : k = nI k.toNatClampNeg ∧ k.toNatClampNeg < cn S 1 ∧ ix k 24 k.toNatClampNeg := by
  rw [h.1] at hk
  exact wI_ix h.2 (by omega) hk
section TS
variable {K : Kx} {own : String} {cc : ByteArray} {nL d : Nat} {E : Ex} {kc ks : Nat} {w : Wd} {pc : Nat} {lv : List (Option Value)} {st : List Value}
theorem j_tableIn (hC : BX K own cc nL d E) {dflt lo hi off : Int} {offs : Array Int} {len : Nat} {x : Int32} (tgt : Nat) (hd : decode cc pc = .ok (.tableswitch dflt lo hi offs, len)) (h1' : ¬ x.toInt < lo) (h2' : ¬ hi < x.toInt) (ho : offs[(x.toInt - lo).toNat]? = some off) (ht : (pc : Int) + off = (tgt : Int)) (k : J K cc E kc ks w tgt lv st) : J K cc E kc ks w pc lv (.int x :: st) := by
  obtain ⟨p, e, R, s, m, args, below, meth, c, Q⟩ := E
  obtain ⟨hx, hb, hml, hown, hts, hK, hSt, hlk, hfr, hlo, hBs⟩ := hC
  intro H locs cells slots ls h1 h2 h3 h4 h5 h6
  exact lv_tableIn hx hb hd h1' h2' ho ht (k H locs cells slots ls h1 h2 h3 h4 h5 h6)
theorem j_tableOut (hC : BX K own cc nL d E) {dflt lo hi : Int} {offs : Array Int} {len : Nat} {x : Int32} (tgt : Nat) (hd : decode cc pc = .ok (.tableswitch dflt lo hi offs, len)) (h : x.toInt < lo ∨ hi < x.toInt) (ht : (pc : Int) + dflt = (tgt : Int)) (k : J K cc E kc ks w tgt lv st) : J K cc E kc ks w pc lv (.int x :: st) := by
  obtain ⟨p, e, R, s, m, args, below, meth, c, Q⟩ := E
  obtain ⟨hx, hb, hml, hown, hts, hK, hSt, hlk, hfr, hlo, hBs⟩ := hC
  intro H locs cells slots ls h1 h2 h3 h4 h5 h6
  exact lv_tableOut hx hb hd h ht (k H locs cells slots ls h1 h2 h3 h4 h5 h6)
end TS
theorem tab_cases (x : Int32) (n : Nat) (hn : n < 2 ^ 31) (N : Int) (hN : N = (n : Int) - 1) : (x.toInt < 0 ∨ N < x.toInt) ∨ ∃ j : Nat, j < n ∧ x = nI j := by
  rcases pk_ix x hn with h | h | h
  · left; left
    have := Int32.lt_iff_toInt_lt.mp h
    simpa using this
  · left; right
    have := Int32.le_iff_toInt_le.mp h
    rw [nI_toInt hn] at this
    omega
  · right; exact h


abbrev okN (S : Ast) (g b r : Int32) : Prop := ¬ S.1 1 0 = S.1 0 0 ∧ ¬ wI g (-100000) 100000 = 0 ∧ ¬ wI b (-100000) 100000 = 0 ∧ ¬ g ≤ b ∧ ¬ wI r 1 100000 = 0
def sN (S : Ast) (g b r : Int32) : Ast := uI (uI (uI (uI (uI S 2 (cn S 1) g) 3 (cn S 1) b) 4 (cn S 1) r) 5 (cn S 1) (-1)) 1 0 (S.1 1 0 + 1)
abbrev okP (S : Ast) (f t l x : Int32) : Prop := ¬ S.1 10 0 = 40 ∧ ¬ wI f 0 (S.1 1 0 - 1) = 0 ∧ ¬ wI t 0 (S.1 1 0 - 1) = 0 ∧ ¬ f = t ∧ ¬ wI l 1 10000 = 0 ∧ ¬ wI x 10 3000 = 0
def sP (S : Ast) (f t l x : Int32) : Ast := uI (uI (uI (uI (uI S 11 (cn S 10) f) 12 (cn S 10) t) 13 (cn S 10) l) 14 (cn S 10) x) 10 0 (S.1 10 0 + 1)
abbrev okA (S : Ast) (n q l : Int32) : Prop := ¬ S.1 18 0 = 24 ∧ ¬ wI n 0 (S.1 1 0 - 1) = 0 ∧ ¬ wI q 1 1000000 = 0 ∧ ¬ wI l 0 1000 = 0
def sA (S : Ast) (n q l : Int32) : Ast := uI (uI (uI (uI S 19 (cn S 18) n) 20 (cn S 18) q) 21 (cn S 18) l) 18 0 (S.1 18 0 + 1)
abbrev okR (mi v : Int32) : Prop := ¬ wI mi 0 1439 = 0 ∧ ¬ wI v 0 20000 = 0
abbrev okU (S : Ast) (n t on off ra : Int32) : Prop := ¬ S.1 24 0 = 8 ∧ ¬ wI n 0 (S.1 1 0 - 1) = 0 ∧ ¬ wI t 0 (S.1 1 0 - 1) = 0 ∧ ¬ n = t ∧ ¬ on ≤ off ∧ ¬ wI ra 1 100000 = 0
def sU (S : Ast) (n t on off ra : Int32) : Ast := uI (uI (uI (uI (uI (uI S 25 (cn S 24) n) 26 (cn S 24) t) 27 (cn S 24) on) 28 (cn S 24) off) 29 (cn S 24) ra) 24 0 (S.1 24 0 + 1)
abbrev okG (S : Ast) (n h ra : Int32) : Prop := ¬ S.1 31 0 = 8 ∧ ¬ wI n 0 (S.1 1 0 - 1) = 0 ∧ ¬ wI h 0 200000 = 0 ∧ ¬ wI ra 1 1000000 = 0
def sG (S : Ast) (n h ra : Int32) : Ast := uI (uI (uI (uI S 32 (cn S 31) n) 33 (cn S 31) h) 34 (cn S 31) ra) 31 0 (S.1 31 0 + 1)
abbrev okL (S : Ast) (c n ra : Int32) : Prop := ¬ S.1 35 0 = 8 ∧ ¬ wI c 0 7 = 0 ∧ ¬ wI n 0 (S.1 1 0 - 1) = 0 ∧ ¬ wI ra 1 100000 = 0
def sL (S : Ast) (c n ra : Int32) : Ast := uI (uI (uI (uI S 36 (cn S 35) c) 37 (cn S 35) n) 38 (cn S 35) ra) 35 0 (S.1 35 0 + 1)
abbrev okS (S : Ast) (n c : Int32) : Prop := ¬ wI n 0 (S.1 1 0 - 1) = 0 ∧ ¬ wI c (-1) 7 = 0

set_option maxRecDepth 100000 in
set_option maxHeartbeats 4000000 in
theorem m_is (K : Kx) {w : Wd} (v lo hi : Int32)  : MT K mX10_is 0 0 0 [.int v, .int lo, .int hi] w (PI fun r w' => r = wI v lo hi ∧ w' = w) := by
  refine MT.of [some (.int v), some (.int lo), some (.int hi)] (by decide) rfl (nle rfl) rfl ?_
  intro E hC hR
  refine j_iload_n hC dX10_is_0 rfl ?_
  refine j_iload_n hC dX10_is_1 rfl ?_
  refine j_icmp_lt hC 14 dX10_is_2 (by decide) (fun c_2 => ?_) (fun c_2 => ?_)
  · refine j_iconst hC (0) dX10_is_14 (by decide) ?_
    exact j_zret hC hR dX10_is_15 rfl (by decide) ⟨_, rfl, by first | (simp [wI, c_2]; done) | (simp [wI, c_2, c_7]; done), rfl⟩
  · refine j_iload_n hC dX10_is_5 rfl ?_
    refine j_iload_n hC dX10_is_6 rfl ?_
    refine j_icmp_gt hC 14 dX10_is_7 (by decide) (fun c_7 => ?_) (fun c_7 => ?_)
    · refine j_iconst hC (0) dX10_is_14 (by decide) ?_
      exact j_zret hC hR dX10_is_15 rfl (by decide) ⟨_, rfl, by first | (simp [wI, c_2]; done) | (simp [wI, c_2, c_7]; done), rfl⟩
    · refine j_iconst hC (1) dX10_is_10 (by decide) ?_
      refine j_goto hC 15 dX10_is_11 (by decide) ?_
      exact j_zret hC hR dX10_is_15 rfl (by decide) ⟨_, rfl, by first | (simp [wI, c_2]; done) | (simp [wI, c_2, c_7]; done), rfl⟩

set_option maxRecDepth 100000 in
set_option maxHeartbeats 4000000 in
theorem m_isNode (K : Kx) {w : Wd} {m : Nat} {ad : Nat → Nat} {S : Ast} (k : Int32) (hA : MA K.2.1 w m ad S)  : MT K mX10_isNode 1 0 0 [.ref m, .int k] w (PI fun r w' => r = wI k 0 (S.1 1 0 - 1) ∧ w' = w) := by
  refine MT.of [some (.ref m), some (.int k)] (by decide) rfl (nle rfl) rfl ?_
  intro E hC hR
  have hM := MB.rf hA
  refine j_iload_n hC dX10_isNode_0 rfl ?_
  refine j_iconst hC (0) dX10_isNode_1 (by decide) ?_
  refine j_aload_n hC dX10_isNode_2 rfl ?_
  refine m_get hC hM dX10_isNode_3 fX10_142 (by decide) (mFg_1 _ _) ?_
  refine j_iconst hC (1) dX10_isNode_6 (by decide) ?_
  refine j_isub hC dX10_isNode_7 ?_
  refine j_calls (kc' := 0) (ks' := 0) hC (m_is K k 0 (S.1 1 0 - 1)) dX10_isNode_8 wX10_is lX10_145 t_yX10_is rfl rfl (nle rfl) rfl (by decide) (by decide) (by decide) (kI fun r w' hp => ?_)
  obtain ⟨rfl, hw⟩ := hp
  rw [hw]
  clear hw w'
  exact j_zret hC hR dX10_isNode_11 rfl (wI_nar _ _ _) ⟨_, rfl, rfl, rfl⟩

set_option maxRecDepth 100000 in
set_option maxHeartbeats 4000000 in
theorem m_node (K : Kx) {w : Wd} {m : Nat} {ad : Nat → Nat} {S : Ast} (g b r : Int32) (hA : MA K.2.1 w m ad S) (h1 : CN S 1 24) (h0 : ¬ S.1 1 0 = S.1 0 0 → cn S 1 < 24) : MT K mX10_node 2 0 0 [.ref m, .int g, .int b, .int r] w (PI fun rr w' => rr = (if okN S g b r then S.1 1 0 else (-1)) ∧ MB K.2.1 w w' m ad (if okN S g b r then sN S g b r else S)) := by
  refine MT.of [some (.ref m), some (.int g), some (.int b), some (.int r)] (by decide) rfl (nle rfl) rfl ?_
  intro E hC hR
  have hM := MB.rf hA
  refine j_aload_n hC dX10_node_0 rfl ?_
  refine m_get hC hM dX10_node_1 fX10_142 (by decide) (mFg_1 _ _) ?_
  refine j_aload_n hC dX10_node_4 rfl ?_
  refine m_get hC hM dX10_node_5 fX10_138 (by decide) (mFg_0 _ _) ?_
  refine j_icmp_eq hC 48 dX10_node_8 (by decide) (fun c_8 => ?_) (fun c_8 => ?_)
  · refine j_iconst hC (-1) dX10_node_48 (by decide) ?_
    have hok : ¬ okN S g b r := by simp [okN, c_8, Int32.not_le, Int32.not_lt]
    exact j_iret hC hR dX10_node_49 rfl ⟨_, rfl, by rw [if_neg hok], by rw [if_neg hok]; exact hM⟩
  · refine j_iload_n hC dX10_node_11 rfl ?_
    refine j_ldc hC dX10_node_12 nX10_149 ?_
    refine j_ldc hC dX10_node_14 nX10_150 ?_
    refine j_calls (kc' := 0) (ks' := 0) hC (m_is K g (-100000) 100000) dX10_node_16 wX10_is lX10_145 t_yX10_is rfl rfl (nle rfl) rfl (by decide) (by decide) (by decide) (kI fun r w' hp => ?_)
    obtain ⟨rfl, hw⟩ := hp
    rw [hw]
    clear hw w'
    refine j_if_eq hC 48 dX10_node_19 (by decide) (fun c_19 => ?_) (fun c_19 => ?_)
    · refine j_iconst hC (-1) dX10_node_48 (by decide) ?_
      have hok : ¬ okN S g b r := by simp [okN, c_8, c_19, Int32.not_le, Int32.not_lt]
      exact j_iret hC hR dX10_node_49 rfl ⟨_, rfl, by rw [if_neg hok], by rw [if_neg hok]; exact hM⟩
    · refine j_iload_n hC dX10_node_22 rfl ?_
      refine j_ldc hC dX10_node_23 nX10_149 ?_
      refine j_ldc hC dX10_node_25 nX10_150 ?_
      refine j_calls (kc' := 0) (ks' := 0) hC (m_is K b (-100000) 100000) dX10_node_27 wX10_is lX10_145 t_yX10_is rfl rfl (nle rfl) rfl (by decide) (by decide) (by decide) (kI fun r w' hp => ?_)
      obtain ⟨rfl, hw⟩ := hp
      rw [hw]
      clear hw w'
      refine j_if_eq hC 48 dX10_node_30 (by decide) (fun c_30 => ?_) (fun c_30 => ?_)
      · refine j_iconst hC (-1) dX10_node_48 (by decide) ?_
        have hok : ¬ okN S g b r := by simp [okN, c_8, c_19, c_30, Int32.not_le, Int32.not_lt]
        exact j_iret hC hR dX10_node_49 rfl ⟨_, rfl, by rw [if_neg hok], by rw [if_neg hok]; exact hM⟩
      · refine j_iload_n hC dX10_node_33 rfl ?_
        refine j_iload_n hC dX10_node_34 rfl ?_
        refine j_icmp_ge hC 48 dX10_node_35 (by decide) (fun c_35 => ?_) (fun c_35 => ?_)
        · refine j_iconst hC (-1) dX10_node_48 (by decide) ?_
          have hok : ¬ okN S g b r := by simp [okN, c_8, c_19, c_30, c_35, Int32.not_le, Int32.not_lt]
          exact j_iret hC hR dX10_node_49 rfl ⟨_, rfl, by rw [if_neg hok], by rw [if_neg hok]; exact hM⟩
        · refine j_iload_n hC dX10_node_38 rfl ?_
          refine j_iconst hC (1) dX10_node_39 (by decide) ?_
          refine j_ldc hC dX10_node_40 nX10_150 ?_
          refine j_calls (kc' := 0) (ks' := 0) hC (m_is K r 1 100000) dX10_node_42 wX10_is lX10_145 t_yX10_is rfl rfl (nle rfl) rfl (by decide) (by decide) (by decide) (kI fun r w' hp => ?_)
          obtain ⟨rfl, hw⟩ := hp
          rw [hw]
          clear hw w'
          refine j_if_ne hC 50 dX10_node_45 (by decide) (fun c_45 => ?_) (fun c_45 => ?_)
          · have hx : ix (S.1 1 0) 24 (cn S 1) := ⟨by rw [h1.1]; exact vp_in_nI (h0 c_8) (by omega), rfl⟩
            refine j_aload_n hC dX10_node_50 rfl ?_
            refine m_get hC hM dX10_node_51 fX10_7 (by decide) (mFg_2 _ _) ?_
            refine j_aload_n hC dX10_node_54 rfl ?_
            refine m_get hC hM dX10_node_55 fX10_142 (by decide) (mFg_1 _ _) ?_
            refine j_iload_n hC dX10_node_58 rfl ?_
            refine m_stI hC hM (by decide) dX10_node_59 (hx) (fun w1 hM => ?_)
            refine j_aload_n hC dX10_node_60 rfl ?_
            refine m_get hC hM dX10_node_61 fX10_13 (by decide) (mFg_3 _ _) ?_
            refine j_aload_n hC dX10_node_64 rfl ?_
            refine m_get hC hM dX10_node_65 fX10_142 (by decide) (mFg_1 _ _) ?_
            refine j_iload_n hC dX10_node_68 rfl ?_
            refine m_stI hC hM (by decide) dX10_node_69 (hx) (fun w2 hM => ?_)
            refine j_aload_n hC dX10_node_70 rfl ?_
            refine m_get hC hM dX10_node_71 fX10_16 (by decide) (mFg_4 _ _) ?_
            refine j_aload_n hC dX10_node_74 rfl ?_
            refine m_get hC hM dX10_node_75 fX10_142 (by decide) (mFg_1 _ _) ?_
            refine j_iload_n hC dX10_node_78 rfl ?_
            refine m_stI hC hM (by decide) dX10_node_79 (hx) (fun w3 hM => ?_)
            refine j_aload_n hC dX10_node_80 rfl ?_
            refine m_get hC hM dX10_node_81 fX10_19 (by decide) (mFg_5 _ _) ?_
            refine j_aload_n hC dX10_node_84 rfl ?_
            refine m_get hC hM dX10_node_85 fX10_142 (by decide) (mFg_1 _ _) ?_
            refine j_iconst hC (-1) dX10_node_88 (by decide) ?_
            refine m_stI hC hM (by decide) dX10_node_89 (hx) (fun w4 hM => ?_)
            refine j_aload_n hC dX10_node_90 rfl ?_
            refine j_dup hC dX10_node_91 rfl ?_
            refine m_get hC hM dX10_node_92 fX10_142 (by decide) (mFg_1 _ _) ?_
            refine j_iconst hC (1) dX10_node_95 (by decide) ?_
            refine j_iadd hC dX10_node_96 ?_
            refine m_putI hC hM (by decide) dX10_node_97 fX10_142 rfl (by decide) rfl rfl (mFs_1 _ _ _) (fun w5 hM => ?_)
            refine j_aload_n hC dX10_node_100 rfl ?_
            refine m_get hC hM dX10_node_101 fX10_142 (by decide) (mFg_1 _ _) ?_
            refine j_iconst hC (1) dX10_node_104 (by decide) ?_
            refine j_isub hC dX10_node_105 ?_
            have hok : okN S g b r := by simp [okN, c_8, c_19, c_30, c_35, c_45, Int32.not_le, Int32.not_lt]
            exact j_iret hC hR dX10_node_106 rfl ⟨_, rfl, by rw [if_pos hok]; exact Int32.add_sub_cancel _ _, by rw [if_pos hok]; exact hM⟩
          · refine j_iconst hC (-1) dX10_node_48 (by decide) ?_
            have hok : ¬ okN S g b r := by simp [okN, c_8, c_19, c_30, c_35, c_45, Int32.not_le, Int32.not_lt]
            exact j_iret hC hR dX10_node_49 rfl ⟨_, rfl, by rw [if_neg hok], by rw [if_neg hok]; exact hM⟩

set_option maxRecDepth 100000 in
set_option maxHeartbeats 4000000 in
theorem m_pipe (K : Kx) {w : Wd} {m : Nat} {ad : Nat → Nat} {S : Ast} (f t l x : Int32) (hA : MA K.2.1 w m ad S) (h2 : CN S 10 40) : MT K mX10_pipe 2 0 0 [.ref m, .int f, .int t, .int l, .int x] w (PI fun rr w' => rr = (if okP S f t l x then S.1 10 0 else (-1)) ∧ MB K.2.1 w w' m ad (if okP S f t l x then sP S f t l x else S)) := by
  refine MT.of [some (.ref m), some (.int f), some (.int t), some (.int l), some (.int x)] (by decide) rfl (nle rfl) rfl ?_
  intro E hC hR
  have hM := MB.rf hA
  refine j_aload_n hC dX10_pipe_0 rfl ?_
  refine m_get hC hM dX10_pipe_1 fX10_151 (by decide) (mFg_10 _ _) ?_
  refine j_bipush hC (40) dX10_pipe_4 (by decide) ?_
  refine j_icmp_eq hC 54 dX10_pipe_6 (by decide) (fun c_6 => ?_) (fun c_6 => ?_)
  · refine j_iconst hC (-1) dX10_pipe_54 (by decide) ?_
    have hok : ¬ okP S f t l x := by simp [okP, c_6, Int32.not_le, Int32.not_lt]
    exact j_iret hC hR dX10_pipe_55 rfl ⟨_, rfl, by rw [if_neg hok], by rw [if_neg hok]; exact hM⟩
  · refine j_aload_n hC dX10_pipe_9 rfl ?_
    refine j_iload_n hC dX10_pipe_10 rfl ?_
    refine j_callv (kc' := 0) (ks' := 0) (r := (RX10, TX10, 59)) hC (m_isNode K f hA) dX10_pipe_11 wX10_isNode lX10_154 i_yX10_isNode s_yX10_isNode hM.1.1 rfl rfl rfl (nle rfl) rfl (by decide) (by decide) (by decide) (kI fun r w' hp => ?_)
    obtain ⟨rfl, hw⟩ := hp
    rw [hw]
    clear hw w'
    refine j_if_eq hC 54 dX10_pipe_14 (by decide) (fun c_14 => ?_) (fun c_14 => ?_)
    · refine j_iconst hC (-1) dX10_pipe_54 (by decide) ?_
      have hok : ¬ okP S f t l x := by simp [okP, c_6, c_14, Int32.not_le, Int32.not_lt]
      exact j_iret hC hR dX10_pipe_55 rfl ⟨_, rfl, by rw [if_neg hok], by rw [if_neg hok]; exact hM⟩
    · refine j_aload_n hC dX10_pipe_17 rfl ?_
      refine j_iload_n hC dX10_pipe_18 rfl ?_
      refine j_callv (kc' := 0) (ks' := 0) (r := (RX10, TX10, 59)) hC (m_isNode K t hA) dX10_pipe_19 wX10_isNode lX10_154 i_yX10_isNode s_yX10_isNode hM.1.1 rfl rfl rfl (nle rfl) rfl (by decide) (by decide) (by decide) (kI fun r w' hp => ?_)
      obtain ⟨rfl, hw⟩ := hp
      rw [hw]
      clear hw w'
      refine j_if_eq hC 54 dX10_pipe_22 (by decide) (fun c_22 => ?_) (fun c_22 => ?_)
      · refine j_iconst hC (-1) dX10_pipe_54 (by decide) ?_
        have hok : ¬ okP S f t l x := by simp [okP, c_6, c_14, c_22, Int32.not_le, Int32.not_lt]
        exact j_iret hC hR dX10_pipe_55 rfl ⟨_, rfl, by rw [if_neg hok], by rw [if_neg hok]; exact hM⟩
      · refine j_iload_n hC dX10_pipe_25 rfl ?_
        refine j_iload_n hC dX10_pipe_26 rfl ?_
        refine j_icmp_eq hC 54 dX10_pipe_27 (by decide) (fun c_27 => ?_) (fun c_27 => ?_)
        · refine j_iconst hC (-1) dX10_pipe_54 (by decide) ?_
          have hok : ¬ okP S f t l x := by simp [okP, c_6, c_14, c_22, c_27, Int32.not_le, Int32.not_lt]
          exact j_iret hC hR dX10_pipe_55 rfl ⟨_, rfl, by rw [if_neg hok], by rw [if_neg hok]; exact hM⟩
        · refine j_iload_n hC dX10_pipe_30 rfl ?_
          refine j_iconst hC (1) dX10_pipe_31 (by decide) ?_
          refine j_sipush hC (10000) dX10_pipe_32 (by decide) ?_
          refine j_calls (kc' := 0) (ks' := 0) hC (m_is K l 1 10000) dX10_pipe_35 wX10_is lX10_145 t_yX10_is rfl rfl (nle rfl) rfl (by decide) (by decide) (by decide) (kI fun r w' hp => ?_)
          obtain ⟨rfl, hw⟩ := hp
          rw [hw]
          clear hw w'
          refine j_if_eq hC 54 dX10_pipe_38 (by decide) (fun c_38 => ?_) (fun c_38 => ?_)
          · refine j_iconst hC (-1) dX10_pipe_54 (by decide) ?_
            have hok : ¬ okP S f t l x := by simp [okP, c_6, c_14, c_22, c_27, c_38, Int32.not_le, Int32.not_lt]
            exact j_iret hC hR dX10_pipe_55 rfl ⟨_, rfl, by rw [if_neg hok], by rw [if_neg hok]; exact hM⟩
          · refine j_iload hC dX10_pipe_41 rfl ?_
            refine j_bipush hC (10) dX10_pipe_43 (by decide) ?_
            refine j_sipush hC (3000) dX10_pipe_45 (by decide) ?_
            refine j_calls (kc' := 0) (ks' := 0) hC (m_is K x 10 3000) dX10_pipe_48 wX10_is lX10_145 t_yX10_is rfl rfl (nle rfl) rfl (by decide) (by decide) (by decide) (kI fun r w' hp => ?_)
            obtain ⟨rfl, hw⟩ := hp
            rw [hw]
            clear hw w'
            refine j_if_ne hC 56 dX10_pipe_51 (by decide) (fun c_51 => ?_) (fun c_51 => ?_)
            · have hx : ix (S.1 10 0) 40 (cn S 10) := CN.ix h2 (40) (by omega) (by decide) c_6
              refine j_aload_n hC dX10_pipe_56 rfl ?_
              refine m_get hC hM dX10_pipe_57 fX10_35 (by decide) (mFg_11 _ _) ?_
              refine j_aload_n hC dX10_pipe_60 rfl ?_
              refine m_get hC hM dX10_pipe_61 fX10_151 (by decide) (mFg_10 _ _) ?_
              refine j_iload_n hC dX10_pipe_64 rfl ?_
              refine m_stI hC hM (by decide) dX10_pipe_65 (hx) (fun w1 hM => ?_)
              refine j_aload_n hC dX10_pipe_66 rfl ?_
              refine m_get hC hM dX10_pipe_67 fX10_38 (by decide) (mFg_12 _ _) ?_
              refine j_aload_n hC dX10_pipe_70 rfl ?_
              refine m_get hC hM dX10_pipe_71 fX10_151 (by decide) (mFg_10 _ _) ?_
              refine j_iload_n hC dX10_pipe_74 rfl ?_
              refine m_stI hC hM (by decide) dX10_pipe_75 (hx) (fun w2 hM => ?_)
              refine j_aload_n hC dX10_pipe_76 rfl ?_
              refine m_get hC hM dX10_pipe_77 fX10_41 (by decide) (mFg_13 _ _) ?_
              refine j_aload_n hC dX10_pipe_80 rfl ?_
              refine m_get hC hM dX10_pipe_81 fX10_151 (by decide) (mFg_10 _ _) ?_
              refine j_iload_n hC dX10_pipe_84 rfl ?_
              refine m_stI hC hM (by decide) dX10_pipe_85 (hx) (fun w3 hM => ?_)
              refine j_aload_n hC dX10_pipe_86 rfl ?_
              refine m_get hC hM dX10_pipe_87 fX10_44 (by decide) (mFg_14 _ _) ?_
              refine j_aload_n hC dX10_pipe_90 rfl ?_
              refine m_get hC hM dX10_pipe_91 fX10_151 (by decide) (mFg_10 _ _) ?_
              refine j_iload hC dX10_pipe_94 rfl ?_
              refine m_stI hC hM (by decide) dX10_pipe_96 (hx) (fun w4 hM => ?_)
              refine j_aload_n hC dX10_pipe_97 rfl ?_
              refine j_dup hC dX10_pipe_98 rfl ?_
              refine m_get hC hM dX10_pipe_99 fX10_151 (by decide) (mFg_10 _ _) ?_
              refine j_iconst hC (1) dX10_pipe_102 (by decide) ?_
              refine j_iadd hC dX10_pipe_103 ?_
              refine m_putI hC hM (by decide) dX10_pipe_104 fX10_151 rfl (by decide) rfl rfl (mFs_10 _ _ _) (fun w5 hM => ?_)
              refine j_aload_n hC dX10_pipe_107 rfl ?_
              refine m_get hC hM dX10_pipe_108 fX10_151 (by decide) (mFg_10 _ _) ?_
              refine j_iconst hC (1) dX10_pipe_111 (by decide) ?_
              refine j_isub hC dX10_pipe_112 ?_
              have hok : okP S f t l x := by simp [okP, c_6, c_14, c_22, c_27, c_38, c_51, Int32.not_le, Int32.not_lt]
              exact j_iret hC hR dX10_pipe_113 rfl ⟨_, rfl, by rw [if_pos hok]; exact Int32.add_sub_cancel _ _, by rw [if_pos hok]; exact hM⟩
            · refine j_iconst hC (-1) dX10_pipe_54 (by decide) ?_
              have hok : ¬ okP S f t l x := by simp [okP, c_6, c_14, c_22, c_27, c_38, c_51, Int32.not_le, Int32.not_lt]
              exact j_iret hC hR dX10_pipe_55 rfl ⟨_, rfl, by rw [if_neg hok], by rw [if_neg hok]; exact hM⟩

set_option maxRecDepth 100000 in
set_option maxHeartbeats 4000000 in
theorem m_area (K : Kx) {w : Wd} {m : Nat} {ad : Nat → Nat} {S : Ast} (n q l : Int32) (hA : MA K.2.1 w m ad S) (h2 : CN S 18 24) : MT K mX10_area 2 0 0 [.ref m, .int n, .int q, .int l] w (PI fun rr w' => rr = (if okA S n q l then S.1 18 0 else (-1)) ∧ MB K.2.1 w w' m ad (if okA S n q l then sA S n q l else S)) := by
  refine MT.of [some (.ref m), some (.int n), some (.int q), some (.int l)] (by decide) rfl (nle rfl) rfl ?_
  intro E hC hR
  have hM := MB.rf hA
  refine j_aload_n hC dX10_area_0 rfl ?_
  refine m_get hC hM dX10_area_1 fX10_158 (by decide) (mFg_18 _ _) ?_
  refine j_bipush hC (24) dX10_area_4 (by decide) ?_
  refine j_icmp_eq hC 38 dX10_area_6 (by decide) (fun c_6 => ?_) (fun c_6 => ?_)
  · refine j_iconst hC (-1) dX10_area_38 (by decide) ?_
    have hok : ¬ okA S n q l := by simp [okA, c_6, Int32.not_le, Int32.not_lt]
    exact j_iret hC hR dX10_area_39 rfl ⟨_, rfl, by rw [if_neg hok], by rw [if_neg hok]; exact hM⟩
  · refine j_aload_n hC dX10_area_9 rfl ?_
    refine j_iload_n hC dX10_area_10 rfl ?_
    refine j_callv (kc' := 0) (ks' := 0) (r := (RX10, TX10, 59)) hC (m_isNode K n hA) dX10_area_11 wX10_isNode lX10_154 i_yX10_isNode s_yX10_isNode hM.1.1 rfl rfl rfl (nle rfl) rfl (by decide) (by decide) (by decide) (kI fun r w' hp => ?_)
    obtain ⟨rfl, hw⟩ := hp
    rw [hw]
    clear hw w'
    refine j_if_eq hC 38 dX10_area_14 (by decide) (fun c_14 => ?_) (fun c_14 => ?_)
    · refine j_iconst hC (-1) dX10_area_38 (by decide) ?_
      have hok : ¬ okA S n q l := by simp [okA, c_6, c_14, Int32.not_le, Int32.not_lt]
      exact j_iret hC hR dX10_area_39 rfl ⟨_, rfl, by rw [if_neg hok], by rw [if_neg hok]; exact hM⟩
    · refine j_iload_n hC dX10_area_17 rfl ?_
      refine j_iconst hC (1) dX10_area_18 (by decide) ?_
      refine j_ldc hC dX10_area_19 nX10_161 ?_
      refine j_calls (kc' := 0) (ks' := 0) hC (m_is K q 1 1000000) dX10_area_21 wX10_is lX10_145 t_yX10_is rfl rfl (nle rfl) rfl (by decide) (by decide) (by decide) (kI fun r w' hp => ?_)
      obtain ⟨rfl, hw⟩ := hp
      rw [hw]
      clear hw w'
      refine j_if_eq hC 38 dX10_area_24 (by decide) (fun c_24 => ?_) (fun c_24 => ?_)
      · refine j_iconst hC (-1) dX10_area_38 (by decide) ?_
        have hok : ¬ okA S n q l := by simp [okA, c_6, c_14, c_24, Int32.not_le, Int32.not_lt]
        exact j_iret hC hR dX10_area_39 rfl ⟨_, rfl, by rw [if_neg hok], by rw [if_neg hok]; exact hM⟩
      · refine j_iload_n hC dX10_area_27 rfl ?_
        refine j_iconst hC (0) dX10_area_28 (by decide) ?_
        refine j_sipush hC (1000) dX10_area_29 (by decide) ?_
        refine j_calls (kc' := 0) (ks' := 0) hC (m_is K l 0 1000) dX10_area_32 wX10_is lX10_145 t_yX10_is rfl rfl (nle rfl) rfl (by decide) (by decide) (by decide) (kI fun r w' hp => ?_)
        obtain ⟨rfl, hw⟩ := hp
        rw [hw]
        clear hw w'
        refine j_if_ne hC 40 dX10_area_35 (by decide) (fun c_35 => ?_) (fun c_35 => ?_)
        · have hx : ix (S.1 18 0) 24 (cn S 18) := CN.ix h2 (24) (by omega) (by decide) c_6
          refine j_aload_n hC dX10_area_40 rfl ?_
          refine m_get hC hM dX10_area_41 fX10_56 (by decide) (mFg_19 _ _) ?_
          refine j_aload_n hC dX10_area_44 rfl ?_
          refine m_get hC hM dX10_area_45 fX10_158 (by decide) (mFg_18 _ _) ?_
          refine j_iload_n hC dX10_area_48 rfl ?_
          refine m_stI hC hM (by decide) dX10_area_49 (hx) (fun w1 hM => ?_)
          refine j_aload_n hC dX10_area_50 rfl ?_
          refine m_get hC hM dX10_area_51 fX10_59 (by decide) (mFg_20 _ _) ?_
          refine j_aload_n hC dX10_area_54 rfl ?_
          refine m_get hC hM dX10_area_55 fX10_158 (by decide) (mFg_18 _ _) ?_
          refine j_iload_n hC dX10_area_58 rfl ?_
          refine m_stI hC hM (by decide) dX10_area_59 (hx) (fun w2 hM => ?_)
          refine j_aload_n hC dX10_area_60 rfl ?_
          refine m_get hC hM dX10_area_61 fX10_62 (by decide) (mFg_21 _ _) ?_
          refine j_aload_n hC dX10_area_64 rfl ?_
          refine m_get hC hM dX10_area_65 fX10_158 (by decide) (mFg_18 _ _) ?_
          refine j_iload_n hC dX10_area_68 rfl ?_
          refine m_stI hC hM (by decide) dX10_area_69 (hx) (fun w3 hM => ?_)
          refine j_aload_n hC dX10_area_70 rfl ?_
          refine j_dup hC dX10_area_71 rfl ?_
          refine m_get hC hM dX10_area_72 fX10_158 (by decide) (mFg_18 _ _) ?_
          refine j_iconst hC (1) dX10_area_75 (by decide) ?_
          refine j_iadd hC dX10_area_76 ?_
          refine m_putI hC hM (by decide) dX10_area_77 fX10_158 rfl (by decide) rfl rfl (mFs_18 _ _ _) (fun w4 hM => ?_)
          refine j_aload_n hC dX10_area_80 rfl ?_
          refine m_get hC hM dX10_area_81 fX10_158 (by decide) (mFg_18 _ _) ?_
          refine j_iconst hC (1) dX10_area_84 (by decide) ?_
          refine j_isub hC dX10_area_85 ?_
          have hok : okA S n q l := by simp [okA, c_6, c_14, c_24, c_35, Int32.not_le, Int32.not_lt]
          exact j_iret hC hR dX10_area_86 rfl ⟨_, rfl, by rw [if_pos hok]; exact Int32.add_sub_cancel _ _, by rw [if_pos hok]; exact hM⟩
        · refine j_iconst hC (-1) dX10_area_38 (by decide) ?_
          have hok : ¬ okA S n q l := by simp [okA, c_6, c_14, c_24, c_35, Int32.not_le, Int32.not_lt]
          exact j_iret hC hR dX10_area_39 rfl ⟨_, rfl, by rw [if_neg hok], by rw [if_neg hok]; exact hM⟩

set_option maxRecDepth 100000 in
set_option maxHeartbeats 4000000 in
theorem m_pump (K : Kx) {w : Wd} {m : Nat} {ad : Nat → Nat} {S : Ast} (n t on off ra : Int32) (hA : MA K.2.1 w m ad S) (h2 : CN S 24 8) : MT K mX10_pump 2 0 0 [.ref m, .int n, .int t, .int on, .int off, .int ra] w (PI fun rr w' => rr = (if okU S n t on off ra then S.1 24 0 else (-1)) ∧ MB K.2.1 w w' m ad (if okU S n t on off ra then sU S n t on off ra else S)) := by
  refine MT.of [some (.ref m), some (.int n), some (.int t), some (.int on), some (.int off), some (.int ra)] (by decide) rfl (nle rfl) rfl ?_
  intro E hC hR
  have hM := MB.rf hA
  refine j_aload_n hC dX10_pump_0 rfl ?_
  refine m_get hC hM dX10_pump_1 fX10_162 (by decide) (mFg_24 _ _) ?_
  refine j_bipush hC (8) dX10_pump_4 (by decide) ?_
  refine j_icmp_eq hC 47 dX10_pump_6 (by decide) (fun c_6 => ?_) (fun c_6 => ?_)
  · refine j_iconst hC (-1) dX10_pump_47 (by decide) ?_
    have hok : ¬ okU S n t on off ra := by simp [okU, c_6, Int32.not_le, Int32.not_lt]
    exact j_iret hC hR dX10_pump_48 rfl ⟨_, rfl, by rw [if_neg hok], by rw [if_neg hok]; exact hM⟩
  · refine j_aload_n hC dX10_pump_9 rfl ?_
    refine j_iload_n hC dX10_pump_10 rfl ?_
    refine j_callv (kc' := 0) (ks' := 0) (r := (RX10, TX10, 59)) hC (m_isNode K n hA) dX10_pump_11 wX10_isNode lX10_154 i_yX10_isNode s_yX10_isNode hM.1.1 rfl rfl rfl (nle rfl) rfl (by decide) (by decide) (by decide) (kI fun r w' hp => ?_)
    obtain ⟨rfl, hw⟩ := hp
    rw [hw]
    clear hw w'
    refine j_if_eq hC 47 dX10_pump_14 (by decide) (fun c_14 => ?_) (fun c_14 => ?_)
    · refine j_iconst hC (-1) dX10_pump_47 (by decide) ?_
      have hok : ¬ okU S n t on off ra := by simp [okU, c_6, c_14, Int32.not_le, Int32.not_lt]
      exact j_iret hC hR dX10_pump_48 rfl ⟨_, rfl, by rw [if_neg hok], by rw [if_neg hok]; exact hM⟩
    · refine j_aload_n hC dX10_pump_17 rfl ?_
      refine j_iload_n hC dX10_pump_18 rfl ?_
      refine j_callv (kc' := 0) (ks' := 0) (r := (RX10, TX10, 59)) hC (m_isNode K t hA) dX10_pump_19 wX10_isNode lX10_154 i_yX10_isNode s_yX10_isNode hM.1.1 rfl rfl rfl (nle rfl) rfl (by decide) (by decide) (by decide) (kI fun r w' hp => ?_)
      obtain ⟨rfl, hw⟩ := hp
      rw [hw]
      clear hw w'
      refine j_if_eq hC 47 dX10_pump_22 (by decide) (fun c_22 => ?_) (fun c_22 => ?_)
      · refine j_iconst hC (-1) dX10_pump_47 (by decide) ?_
        have hok : ¬ okU S n t on off ra := by simp [okU, c_6, c_14, c_22, Int32.not_le, Int32.not_lt]
        exact j_iret hC hR dX10_pump_48 rfl ⟨_, rfl, by rw [if_neg hok], by rw [if_neg hok]; exact hM⟩
      · refine j_iload_n hC dX10_pump_25 rfl ?_
        refine j_iload_n hC dX10_pump_26 rfl ?_
        refine j_icmp_eq hC 47 dX10_pump_27 (by decide) (fun c_27 => ?_) (fun c_27 => ?_)
        · refine j_iconst hC (-1) dX10_pump_47 (by decide) ?_
          have hok : ¬ okU S n t on off ra := by simp [okU, c_6, c_14, c_22, c_27, Int32.not_le, Int32.not_lt]
          exact j_iret hC hR dX10_pump_48 rfl ⟨_, rfl, by rw [if_neg hok], by rw [if_neg hok]; exact hM⟩
        · refine j_iload_n hC dX10_pump_30 rfl ?_
          refine j_iload hC dX10_pump_31 rfl ?_
          refine j_icmp_le hC 47 dX10_pump_33 (by decide) (fun c_33 => ?_) (fun c_33 => ?_)
          · refine j_iconst hC (-1) dX10_pump_47 (by decide) ?_
            have hok : ¬ okU S n t on off ra := by simp [okU, c_6, c_14, c_22, c_27, c_33, Int32.not_le, Int32.not_lt]
            exact j_iret hC hR dX10_pump_48 rfl ⟨_, rfl, by rw [if_neg hok], by rw [if_neg hok]; exact hM⟩
          · refine j_iload hC dX10_pump_36 rfl ?_
            refine j_iconst hC (1) dX10_pump_38 (by decide) ?_
            refine j_ldc hC dX10_pump_39 nX10_150 ?_
            refine j_calls (kc' := 0) (ks' := 0) hC (m_is K ra 1 100000) dX10_pump_41 wX10_is lX10_145 t_yX10_is rfl rfl (nle rfl) rfl (by decide) (by decide) (by decide) (kI fun r w' hp => ?_)
            obtain ⟨rfl, hw⟩ := hp
            rw [hw]
            clear hw w'
            refine j_if_ne hC 49 dX10_pump_44 (by decide) (fun c_44 => ?_) (fun c_44 => ?_)
            · have hx : ix (S.1 24 0) 8 (cn S 24) := CN.ix h2 (8) (by omega) (by decide) c_6
              refine j_aload_n hC dX10_pump_49 rfl ?_
              refine m_get hC hM dX10_pump_50 fX10_71 (by decide) (mFg_25 _ _) ?_
              refine j_aload_n hC dX10_pump_53 rfl ?_
              refine m_get hC hM dX10_pump_54 fX10_162 (by decide) (mFg_24 _ _) ?_
              refine j_iload_n hC dX10_pump_57 rfl ?_
              refine m_stI hC hM (by decide) dX10_pump_58 (hx) (fun w1 hM => ?_)
              refine j_aload_n hC dX10_pump_59 rfl ?_
              refine m_get hC hM dX10_pump_60 fX10_74 (by decide) (mFg_26 _ _) ?_
              refine j_aload_n hC dX10_pump_63 rfl ?_
              refine m_get hC hM dX10_pump_64 fX10_162 (by decide) (mFg_24 _ _) ?_
              refine j_iload_n hC dX10_pump_67 rfl ?_
              refine m_stI hC hM (by decide) dX10_pump_68 (hx) (fun w2 hM => ?_)
              refine j_aload_n hC dX10_pump_69 rfl ?_
              refine m_get hC hM dX10_pump_70 fX10_77 (by decide) (mFg_27 _ _) ?_
              refine j_aload_n hC dX10_pump_73 rfl ?_
              refine m_get hC hM dX10_pump_74 fX10_162 (by decide) (mFg_24 _ _) ?_
              refine j_iload_n hC dX10_pump_77 rfl ?_
              refine m_stI hC hM (by decide) dX10_pump_78 (hx) (fun w3 hM => ?_)
              refine j_aload_n hC dX10_pump_79 rfl ?_
              refine m_get hC hM dX10_pump_80 fX10_80 (by decide) (mFg_28 _ _) ?_
              refine j_aload_n hC dX10_pump_83 rfl ?_
              refine m_get hC hM dX10_pump_84 fX10_162 (by decide) (mFg_24 _ _) ?_
              refine j_iload hC dX10_pump_87 rfl ?_
              refine m_stI hC hM (by decide) dX10_pump_89 (hx) (fun w4 hM => ?_)
              refine j_aload_n hC dX10_pump_90 rfl ?_
              refine m_get hC hM dX10_pump_91 fX10_83 (by decide) (mFg_29 _ _) ?_
              refine j_aload_n hC dX10_pump_94 rfl ?_
              refine m_get hC hM dX10_pump_95 fX10_162 (by decide) (mFg_24 _ _) ?_
              refine j_iload hC dX10_pump_98 rfl ?_
              refine m_stI hC hM (by decide) dX10_pump_100 (hx) (fun w5 hM => ?_)
              refine j_aload_n hC dX10_pump_101 rfl ?_
              refine j_dup hC dX10_pump_102 rfl ?_
              refine m_get hC hM dX10_pump_103 fX10_162 (by decide) (mFg_24 _ _) ?_
              refine j_iconst hC (1) dX10_pump_106 (by decide) ?_
              refine j_iadd hC dX10_pump_107 ?_
              refine m_putI hC hM (by decide) dX10_pump_108 fX10_162 rfl (by decide) rfl rfl (mFs_24 _ _ _) (fun w6 hM => ?_)
              refine j_aload_n hC dX10_pump_111 rfl ?_
              refine m_get hC hM dX10_pump_112 fX10_162 (by decide) (mFg_24 _ _) ?_
              refine j_iconst hC (1) dX10_pump_115 (by decide) ?_
              refine j_isub hC dX10_pump_116 ?_
              have hok : okU S n t on off ra := by simp [okU, c_6, c_14, c_22, c_27, c_33, c_44, Int32.not_le, Int32.not_lt]
              exact j_iret hC hR dX10_pump_117 rfl ⟨_, rfl, by rw [if_pos hok]; exact Int32.add_sub_cancel _ _, by rw [if_pos hok]; exact hM⟩
            · refine j_iconst hC (-1) dX10_pump_47 (by decide) ?_
              have hok : ¬ okU S n t on off ra := by simp [okU, c_6, c_14, c_22, c_27, c_33, c_44, Int32.not_le, Int32.not_lt]
              exact j_iret hC hR dX10_pump_48 rfl ⟨_, rfl, by rw [if_neg hok], by rw [if_neg hok]; exact hM⟩

set_option maxRecDepth 100000 in
set_option maxHeartbeats 4000000 in
theorem m_gate (K : Kx) {w : Wd} {m : Nat} {ad : Nat → Nat} {S : Ast} (n h ra : Int32) (hA : MA K.2.1 w m ad S) (h2 : CN S 31 8) : MT K mX10_gate 2 0 0 [.ref m, .int n, .int h, .int ra] w (PI fun rr w' => rr = (if okG S n h ra then S.1 31 0 else (-1)) ∧ MB K.2.1 w w' m ad (if okG S n h ra then sG S n h ra else S)) := by
  refine MT.of [some (.ref m), some (.int n), some (.int h), some (.int ra)] (by decide) rfl (nle rfl) rfl ?_
  intro E hC hR
  have hM := MB.rf hA
  refine j_aload_n hC dX10_gate_0 rfl ?_
  refine m_get hC hM dX10_gate_1 fX10_165 (by decide) (mFg_31 _ _) ?_
  refine j_bipush hC (8) dX10_gate_4 (by decide) ?_
  refine j_icmp_eq hC 37 dX10_gate_6 (by decide) (fun c_6 => ?_) (fun c_6 => ?_)
  · refine j_iconst hC (-1) dX10_gate_37 (by decide) ?_
    have hok : ¬ okG S n h ra := by simp [okG, c_6, Int32.not_le, Int32.not_lt]
    exact j_iret hC hR dX10_gate_38 rfl ⟨_, rfl, by rw [if_neg hok], by rw [if_neg hok]; exact hM⟩
  · refine j_aload_n hC dX10_gate_9 rfl ?_
    refine j_iload_n hC dX10_gate_10 rfl ?_
    refine j_callv (kc' := 0) (ks' := 0) (r := (RX10, TX10, 59)) hC (m_isNode K n hA) dX10_gate_11 wX10_isNode lX10_154 i_yX10_isNode s_yX10_isNode hM.1.1 rfl rfl rfl (nle rfl) rfl (by decide) (by decide) (by decide) (kI fun r w' hp => ?_)
    obtain ⟨rfl, hw⟩ := hp
    rw [hw]
    clear hw w'
    refine j_if_eq hC 37 dX10_gate_14 (by decide) (fun c_14 => ?_) (fun c_14 => ?_)
    · refine j_iconst hC (-1) dX10_gate_37 (by decide) ?_
      have hok : ¬ okG S n h ra := by simp [okG, c_6, c_14, Int32.not_le, Int32.not_lt]
      exact j_iret hC hR dX10_gate_38 rfl ⟨_, rfl, by rw [if_neg hok], by rw [if_neg hok]; exact hM⟩
    · refine j_iload_n hC dX10_gate_17 rfl ?_
      refine j_iconst hC (0) dX10_gate_18 (by decide) ?_
      refine j_ldc hC dX10_gate_19 nX10_168 ?_
      refine j_calls (kc' := 0) (ks' := 0) hC (m_is K h 0 200000) dX10_gate_21 wX10_is lX10_145 t_yX10_is rfl rfl (nle rfl) rfl (by decide) (by decide) (by decide) (kI fun r w' hp => ?_)
      obtain ⟨rfl, hw⟩ := hp
      rw [hw]
      clear hw w'
      refine j_if_eq hC 37 dX10_gate_24 (by decide) (fun c_24 => ?_) (fun c_24 => ?_)
      · refine j_iconst hC (-1) dX10_gate_37 (by decide) ?_
        have hok : ¬ okG S n h ra := by simp [okG, c_6, c_14, c_24, Int32.not_le, Int32.not_lt]
        exact j_iret hC hR dX10_gate_38 rfl ⟨_, rfl, by rw [if_neg hok], by rw [if_neg hok]; exact hM⟩
      · refine j_iload_n hC dX10_gate_27 rfl ?_
        refine j_iconst hC (1) dX10_gate_28 (by decide) ?_
        refine j_ldc hC dX10_gate_29 nX10_161 ?_
        refine j_calls (kc' := 0) (ks' := 0) hC (m_is K ra 1 1000000) dX10_gate_31 wX10_is lX10_145 t_yX10_is rfl rfl (nle rfl) rfl (by decide) (by decide) (by decide) (kI fun r w' hp => ?_)
        obtain ⟨rfl, hw⟩ := hp
        rw [hw]
        clear hw w'
        refine j_if_ne hC 39 dX10_gate_34 (by decide) (fun c_34 => ?_) (fun c_34 => ?_)
        · have hx : ix (S.1 31 0) 8 (cn S 31) := CN.ix h2 (8) (by omega) (by decide) c_6
          refine j_aload_n hC dX10_gate_39 rfl ?_
          refine m_get hC hM dX10_gate_40 fX10_90 (by decide) (mFg_32 _ _) ?_
          refine j_aload_n hC dX10_gate_43 rfl ?_
          refine m_get hC hM dX10_gate_44 fX10_165 (by decide) (mFg_31 _ _) ?_
          refine j_iload_n hC dX10_gate_47 rfl ?_
          refine m_stI hC hM (by decide) dX10_gate_48 (hx) (fun w1 hM => ?_)
          refine j_aload_n hC dX10_gate_49 rfl ?_
          refine m_get hC hM dX10_gate_50 fX10_93 (by decide) (mFg_33 _ _) ?_
          refine j_aload_n hC dX10_gate_53 rfl ?_
          refine m_get hC hM dX10_gate_54 fX10_165 (by decide) (mFg_31 _ _) ?_
          refine j_iload_n hC dX10_gate_57 rfl ?_
          refine m_stI hC hM (by decide) dX10_gate_58 (hx) (fun w2 hM => ?_)
          refine j_aload_n hC dX10_gate_59 rfl ?_
          refine m_get hC hM dX10_gate_60 fX10_96 (by decide) (mFg_34 _ _) ?_
          refine j_aload_n hC dX10_gate_63 rfl ?_
          refine m_get hC hM dX10_gate_64 fX10_165 (by decide) (mFg_31 _ _) ?_
          refine j_iload_n hC dX10_gate_67 rfl ?_
          refine m_stI hC hM (by decide) dX10_gate_68 (hx) (fun w3 hM => ?_)
          refine j_aload_n hC dX10_gate_69 rfl ?_
          refine j_dup hC dX10_gate_70 rfl ?_
          refine m_get hC hM dX10_gate_71 fX10_165 (by decide) (mFg_31 _ _) ?_
          refine j_iconst hC (1) dX10_gate_74 (by decide) ?_
          refine j_iadd hC dX10_gate_75 ?_
          refine m_putI hC hM (by decide) dX10_gate_76 fX10_165 rfl (by decide) rfl rfl (mFs_31 _ _ _) (fun w4 hM => ?_)
          refine j_aload_n hC dX10_gate_79 rfl ?_
          refine m_get hC hM dX10_gate_80 fX10_165 (by decide) (mFg_31 _ _) ?_
          refine j_iconst hC (1) dX10_gate_83 (by decide) ?_
          refine j_isub hC dX10_gate_84 ?_
          have hok : okG S n h ra := by simp [okG, c_6, c_14, c_24, c_34, Int32.not_le, Int32.not_lt]
          exact j_iret hC hR dX10_gate_85 rfl ⟨_, rfl, by rw [if_pos hok]; exact Int32.add_sub_cancel _ _, by rw [if_pos hok]; exact hM⟩
        · refine j_iconst hC (-1) dX10_gate_37 (by decide) ?_
          have hok : ¬ okG S n h ra := by simp [okG, c_6, c_14, c_24, c_34, Int32.not_le, Int32.not_lt]
          exact j_iret hC hR dX10_gate_38 rfl ⟨_, rfl, by rw [if_neg hok], by rw [if_neg hok]; exact hM⟩

set_option maxRecDepth 100000 in
set_option maxHeartbeats 4000000 in
theorem m_gully (K : Kx) {w : Wd} {m : Nat} {ad : Nat → Nat} {S : Ast} (c n ra : Int32) (hA : MA K.2.1 w m ad S) (h2 : CN S 35 8) : MT K mX10_gully 2 0 0 [.ref m, .int c, .int n, .int ra] w (PI fun rr w' => rr = (if okL S c n ra then S.1 35 0 else (-1)) ∧ MB K.2.1 w w' m ad (if okL S c n ra then sL S c n ra else S)) := by
  refine MT.of [some (.ref m), some (.int c), some (.int n), some (.int ra)] (by decide) rfl (nle rfl) rfl ?_
  intro E hC hR
  have hM := MB.rf hA
  refine j_aload_n hC dX10_gully_0 rfl ?_
  refine m_get hC hM dX10_gully_1 fX10_169 (by decide) (mFg_35 _ _) ?_
  refine j_bipush hC (8) dX10_gully_4 (by decide) ?_
  refine j_icmp_eq hC 37 dX10_gully_6 (by decide) (fun c_6 => ?_) (fun c_6 => ?_)
  · refine j_iconst hC (-1) dX10_gully_37 (by decide) ?_
    have hok : ¬ okL S c n ra := by simp [okL, c_6, Int32.not_le, Int32.not_lt]
    exact j_iret hC hR dX10_gully_38 rfl ⟨_, rfl, by rw [if_neg hok], by rw [if_neg hok]; exact hM⟩
  · refine j_iload_n hC dX10_gully_9 rfl ?_
    refine j_iconst hC (0) dX10_gully_10 (by decide) ?_
    refine j_bipush hC (7) dX10_gully_11 (by decide) ?_
    refine j_calls (kc' := 0) (ks' := 0) hC (m_is K c 0 7) dX10_gully_13 wX10_is lX10_145 t_yX10_is rfl rfl (nle rfl) rfl (by decide) (by decide) (by decide) (kI fun r w' hp => ?_)
    obtain ⟨rfl, hw⟩ := hp
    rw [hw]
    clear hw w'
    refine j_if_eq hC 37 dX10_gully_16 (by decide) (fun c_16 => ?_) (fun c_16 => ?_)
    · refine j_iconst hC (-1) dX10_gully_37 (by decide) ?_
      have hok : ¬ okL S c n ra := by simp [okL, c_6, c_16, Int32.not_le, Int32.not_lt]
      exact j_iret hC hR dX10_gully_38 rfl ⟨_, rfl, by rw [if_neg hok], by rw [if_neg hok]; exact hM⟩
    · refine j_aload_n hC dX10_gully_19 rfl ?_
      refine j_iload_n hC dX10_gully_20 rfl ?_
      refine j_callv (kc' := 0) (ks' := 0) (r := (RX10, TX10, 59)) hC (m_isNode K n hA) dX10_gully_21 wX10_isNode lX10_154 i_yX10_isNode s_yX10_isNode hM.1.1 rfl rfl rfl (nle rfl) rfl (by decide) (by decide) (by decide) (kI fun r w' hp => ?_)
      obtain ⟨rfl, hw⟩ := hp
      rw [hw]
      clear hw w'
      refine j_if_eq hC 37 dX10_gully_24 (by decide) (fun c_24 => ?_) (fun c_24 => ?_)
      · refine j_iconst hC (-1) dX10_gully_37 (by decide) ?_
        have hok : ¬ okL S c n ra := by simp [okL, c_6, c_16, c_24, Int32.not_le, Int32.not_lt]
        exact j_iret hC hR dX10_gully_38 rfl ⟨_, rfl, by rw [if_neg hok], by rw [if_neg hok]; exact hM⟩
      · refine j_iload_n hC dX10_gully_27 rfl ?_
        refine j_iconst hC (1) dX10_gully_28 (by decide) ?_
        refine j_ldc hC dX10_gully_29 nX10_150 ?_
        refine j_calls (kc' := 0) (ks' := 0) hC (m_is K ra 1 100000) dX10_gully_31 wX10_is lX10_145 t_yX10_is rfl rfl (nle rfl) rfl (by decide) (by decide) (by decide) (kI fun r w' hp => ?_)
        obtain ⟨rfl, hw⟩ := hp
        rw [hw]
        clear hw w'
        refine j_if_ne hC 39 dX10_gully_34 (by decide) (fun c_34 => ?_) (fun c_34 => ?_)
        · have hx : ix (S.1 35 0) 8 (cn S 35) := CN.ix h2 (8) (by omega) (by decide) c_6
          refine j_aload_n hC dX10_gully_39 rfl ?_
          refine m_get hC hM dX10_gully_40 fX10_99 (by decide) (mFg_36 _ _) ?_
          refine j_aload_n hC dX10_gully_43 rfl ?_
          refine m_get hC hM dX10_gully_44 fX10_169 (by decide) (mFg_35 _ _) ?_
          refine j_iload_n hC dX10_gully_47 rfl ?_
          refine m_stI hC hM (by decide) dX10_gully_48 (hx) (fun w1 hM => ?_)
          refine j_aload_n hC dX10_gully_49 rfl ?_
          refine m_get hC hM dX10_gully_50 fX10_102 (by decide) (mFg_37 _ _) ?_
          refine j_aload_n hC dX10_gully_53 rfl ?_
          refine m_get hC hM dX10_gully_54 fX10_169 (by decide) (mFg_35 _ _) ?_
          refine j_iload_n hC dX10_gully_57 rfl ?_
          refine m_stI hC hM (by decide) dX10_gully_58 (hx) (fun w2 hM => ?_)
          refine j_aload_n hC dX10_gully_59 rfl ?_
          refine m_get hC hM dX10_gully_60 fX10_105 (by decide) (mFg_38 _ _) ?_
          refine j_aload_n hC dX10_gully_63 rfl ?_
          refine m_get hC hM dX10_gully_64 fX10_169 (by decide) (mFg_35 _ _) ?_
          refine j_iload_n hC dX10_gully_67 rfl ?_
          refine m_stI hC hM (by decide) dX10_gully_68 (hx) (fun w3 hM => ?_)
          refine j_aload_n hC dX10_gully_69 rfl ?_
          refine j_dup hC dX10_gully_70 rfl ?_
          refine m_get hC hM dX10_gully_71 fX10_169 (by decide) (mFg_35 _ _) ?_
          refine j_iconst hC (1) dX10_gully_74 (by decide) ?_
          refine j_iadd hC dX10_gully_75 ?_
          refine m_putI hC hM (by decide) dX10_gully_76 fX10_169 rfl (by decide) rfl rfl (mFs_35 _ _ _) (fun w4 hM => ?_)
          refine j_aload_n hC dX10_gully_79 rfl ?_
          refine m_get hC hM dX10_gully_80 fX10_169 (by decide) (mFg_35 _ _) ?_
          refine j_iconst hC (1) dX10_gully_83 (by decide) ?_
          refine j_isub hC dX10_gully_84 ?_
          have hok : okL S c n ra := by simp [okL, c_6, c_16, c_24, c_34, Int32.not_le, Int32.not_lt]
          exact j_iret hC hR dX10_gully_85 rfl ⟨_, rfl, by rw [if_pos hok]; exact Int32.add_sub_cancel _ _, by rw [if_pos hok]; exact hM⟩
        · refine j_iconst hC (-1) dX10_gully_37 (by decide) ?_
          have hok : ¬ okL S c n ra := by simp [okL, c_6, c_16, c_24, c_34, Int32.not_le, Int32.not_lt]
          exact j_iret hC hR dX10_gully_38 rfl ⟨_, rfl, by rw [if_neg hok], by rw [if_neg hok]; exact hM⟩

set_option maxRecDepth 100000 in
set_option maxHeartbeats 4000000 in
theorem m_rain (K : Kx) {w : Wd} {m : Nat} {ad : Nat → Nat} {S : Ast} (mi v : Int32) (hA : MA K.2.1 w m ad S)  : MT K mX10_rain 1 0 0 [.ref m, .int mi, .int v] w (PI fun rr w' => rr = (if okR mi v then S.1 23 mi.toNatClampNeg else (-1)) ∧ MB K.2.1 w w' m ad (if okR mi v then uI S 23 mi.toNatClampNeg v else S)) := by
  refine MT.of [some (.ref m), some (.int mi), some (.int v), none] (by decide) rfl (nle rfl) rfl ?_
  intro E hC hR
  have hM := MB.rf hA
  refine j_iload_n hC dX10_rain_0 rfl ?_
  refine j_iconst hC (0) dX10_rain_1 (by decide) ?_
  refine j_sipush hC (1439) dX10_rain_2 (by decide) ?_
  refine j_calls (kc' := 0) (ks' := 0) hC (m_is K mi 0 1439) dX10_rain_5 wX10_is lX10_145 t_yX10_is rfl rfl (nle rfl) rfl (by decide) (by decide) (by decide) (kI fun r w' hp => ?_)
  obtain ⟨rfl, hw⟩ := hp
  rw [hw]
  clear hw w'
  refine j_if_eq hC 22 dX10_rain_8 (by decide) (fun c_8 => ?_) (fun c_8 => ?_)
  · refine j_iconst hC (-1) dX10_rain_22 (by decide) ?_
    have hok : ¬ okR mi v := by simp [okR, c_8, Int32.not_le, Int32.not_lt]
    exact j_iret hC hR dX10_rain_23 rfl ⟨_, rfl, by rw [if_neg hok], by rw [if_neg hok]; exact hM⟩
  · refine j_iload_n hC dX10_rain_11 rfl ?_
    refine j_iconst hC (0) dX10_rain_12 (by decide) ?_
    refine j_sipush hC (20000) dX10_rain_13 (by decide) ?_
    refine j_calls (kc' := 0) (ks' := 0) hC (m_is K v 0 20000) dX10_rain_16 wX10_is lX10_145 t_yX10_is rfl rfl (nle rfl) rfl (by decide) (by decide) (by decide) (kI fun r w' hp => ?_)
    obtain ⟨rfl, hw⟩ := hp
    rw [hw]
    clear hw w'
    refine j_if_ne hC 24 dX10_rain_19 (by decide) (fun c_19 => ?_) (fun c_19 => ?_)
    · have hx : ix mi 1440 mi.toNatClampNeg := (wI_ix (n := 1440) (b := 1440) (Nat.le_refl _) (by omega) (show ¬ wI mi 0 (nI 1440 - 1) = 0 from c_8)).2.2
      refine j_aload_n hC dX10_rain_24 rfl ?_
      refine m_get hC hM dX10_rain_25 fX10_68 (by decide) (mFg_23 _ _) ?_
      refine j_iload_n hC dX10_rain_28 rfl ?_
      refine m_ldI hC hM (by decide) dX10_rain_29 (hx) ?_
      refine j_istore_n (lv' := [some _, some _, some _, some _]) hC dX10_rain_30 (nlt rfl) rfl ?_
      refine j_aload_n hC dX10_rain_31 rfl ?_
      refine m_get hC hM dX10_rain_32 fX10_68 (by decide) (mFg_23 _ _) ?_
      refine j_iload_n hC dX10_rain_35 rfl ?_
      refine j_iload_n hC dX10_rain_36 rfl ?_
      refine m_stI hC hM (by decide) dX10_rain_37 (hx) (fun w1 hM => ?_)
      refine j_iload_n hC dX10_rain_38 rfl ?_
      have hok : okR mi v := by simp [okR, c_8, c_19, Int32.not_le, Int32.not_lt]
      exact j_iret hC hR dX10_rain_39 rfl ⟨_, rfl, by rw [if_pos hok], by rw [if_pos hok]; exact hM⟩
    · refine j_iconst hC (-1) dX10_rain_22 (by decide) ?_
      have hok : ¬ okR mi v := by simp [okR, c_8, c_19, Int32.not_le, Int32.not_lt]
      exact j_iret hC hR dX10_rain_23 rfl ⟨_, rfl, by rw [if_neg hok], by rw [if_neg hok]; exact hM⟩

set_option maxRecDepth 100000 in
set_option maxHeartbeats 4000000 in
theorem m_street (K : Kx) {w : Wd} {m : Nat} {ad : Nat → Nat} {S : Ast} (n c : Int32) (hA : MA K.2.1 w m ad S) (h1 : CN S 1 24) : MT K mX10_street 2 0 0 [.ref m, .int n, .int c] w (PI fun rr w' => rr = (if okS S n c then S.1 5 n.toNatClampNeg else (-2)) ∧ MB K.2.1 w w' m ad (if okS S n c then uI S 5 n.toNatClampNeg c else S)) := by
  refine MT.of [some (.ref m), some (.int n), some (.int c), none] (by decide) rfl (nle rfl) rfl ?_
  intro E hC hR
  have hM := MB.rf hA
  refine j_aload_n hC dX10_street_0 rfl ?_
  refine j_iload_n hC dX10_street_1 rfl ?_
  refine j_callv (kc' := 0) (ks' := 0) (r := (RX10, TX10, 59)) hC (m_isNode K n hA) dX10_street_2 wX10_isNode lX10_154 i_yX10_isNode s_yX10_isNode hM.1.1 rfl rfl rfl (nle rfl) rfl (by decide) (by decide) (by decide) (kI fun r w' hp => ?_)
  obtain ⟨rfl, hw⟩ := hp
  rw [hw]
  clear hw w'
  refine j_if_eq hC 18 dX10_street_5 (by decide) (fun c_5 => ?_) (fun c_5 => ?_)
  · refine j_bipush hC (-2) dX10_street_18 (by decide) ?_
    have hok : ¬ okS S n c := by simp [okS, c_5, Int32.not_le, Int32.not_lt]
    exact j_iret hC hR dX10_street_20 rfl ⟨_, rfl, by rw [if_neg hok], by rw [if_neg hok]; exact hM⟩
  · refine j_iload_n hC dX10_street_8 rfl ?_
    refine j_iconst hC (-1) dX10_street_9 (by decide) ?_
    refine j_bipush hC (7) dX10_street_10 (by decide) ?_
    refine j_calls (kc' := 0) (ks' := 0) hC (m_is K c (-1) 7) dX10_street_12 wX10_is lX10_145 t_yX10_is rfl rfl (nle rfl) rfl (by decide) (by decide) (by decide) (kI fun r w' hp => ?_)
    obtain ⟨rfl, hw⟩ := hp
    rw [hw]
    clear hw w'
    refine j_if_ne hC 21 dX10_street_15 (by decide) (fun c_15 => ?_) (fun c_15 => ?_)
    · have hx := (isn h1 c_5).2.2
      refine j_aload_n hC dX10_street_21 rfl ?_
      refine m_get hC hM dX10_street_22 fX10_19 (by decide) (mFg_5 _ _) ?_
      refine j_iload_n hC dX10_street_25 rfl ?_
      refine m_ldI hC hM (by decide) dX10_street_26 (hx) ?_
      refine j_istore_n (lv' := [some _, some _, some _, some _]) hC dX10_street_27 (nlt rfl) rfl ?_
      refine j_aload_n hC dX10_street_28 rfl ?_
      refine m_get hC hM dX10_street_29 fX10_19 (by decide) (mFg_5 _ _) ?_
      refine j_iload_n hC dX10_street_32 rfl ?_
      refine j_iload_n hC dX10_street_33 rfl ?_
      refine m_stI hC hM (by decide) dX10_street_34 (hx) (fun w1 hM => ?_)
      refine j_iload_n hC dX10_street_35 rfl ?_
      have hok : okS S n c := by simp [okS, c_5, c_15, Int32.not_le, Int32.not_lt]
      exact j_iret hC hR dX10_street_36 rfl ⟨_, rfl, by rw [if_pos hok], by rw [if_pos hok]; exact hM⟩
    · refine j_bipush hC (-2) dX10_street_18 (by decide) ?_
      have hok : ¬ okS S n c := by simp [okS, c_5, c_15, Int32.not_le, Int32.not_lt]
      exact j_iret hC hR dX10_street_20 rfl ⟨_, rfl, by rw [if_neg hok], by rw [if_neg hok]; exact hM⟩
end
section

theorem uJ_at {S : Ast} {k i : Nat} {v : Int64} : (uJ S k i v).2 k i = v := by rw [uJ_2s, va_up_self]
theorem uJ_i {S : Ast} {k i j : Nat} {v : Int64} (h : j ≠ i) : (uJ S k i v).2 k j = S.2 k j := by rw [uJ_2s, va_up_ne _ _ h]
theorem uJ_1 {S : Ast} {k i : Nat} {v : Int64} : (uJ S k i v).1 = S.1 := rfl
theorem uI_2 {S : Ast} {k i : Nat} {v : Int32} : (uI S k i v).2 = S.2 := rfl
theorem uI_at {S : Ast} {k i : Nat} {v : Int32} : (uI S k i v).1 k i = v := by rw [uI_1s, va_up_self]
theorem uI_i {S : Ast} {k i j : Nat} {v : Int32} (h : j ≠ i) : (uI S k i v).1 k j = S.1 k j := by rw [uI_1s, va_up_ne _ _ h]
theorem up_up {α : Type} (f : Nat → α) (k : Nat) (a b : α) : va_up (va_up f k a) k b = va_up f k b := by
  funext j
  by_cases h : j = k
  · subst h; rw [va_up_self, va_up_self]
  · rw [va_up_ne _ _ h, va_up_ne _ _ h, va_up_ne _ _ h]
theorem up_id {α : Type} (f : Nat → α) (k : Nat) : va_up f k (f k) = f := by
  funext j
  by_cases h : j = k
  · subst h; rw [va_up_self]
  · rw [va_up_ne _ _ h]
theorem uJ_uJ {S : Ast} {k i : Nat} {a b : Int64} : uJ (uJ S k i a) k i b = uJ S k i b := by
  unfold uJ
  simp only [va_up_self, up_up]
theorem uJ_id {S : Ast} {k i : Nat} : uJ S k i (S.2 k i) = S := by
  unfold uJ
  rw [up_id, up_id]
theorem uI_id {S : Ast} {k i : Nat} : uI S k i (S.1 k i) = S := by
  unfold uI
  rw [up_id, up_id]
theorem MB.cast {g : Gx} {w0 w : Wd} {m : Nat} {ad : Nat → Nat} {S T : Ast} (h : MB g w0 w m ad S) (e : S = T) : MB g w0 w m ad T := e ▸ h
theorem ls_eq (a b : Int64) : (if b ≤ a then b else a) = if b < a then b else a := by
  by_cases h : b < a
  · rw [if_pos h, if_pos (Int64.le_of_lt h)]
  · rw [if_neg h]
    by_cases h2 : b ≤ a
    · rw [if_pos h2]; exact Int64.le_antisymm h2 (Int64.not_lt.mp h)
    · rw [if_neg h2]
/-- a node's number, in range -/
def nd (S : Ast) (v : Int32) : Prop := ix v 24 v.toNatClampNeg ∧ v.toNatClampNeg < cn S 1
def lvl (S : Ast) (k : Nat) : Int64 := (S.1 3 k).toInt64 + S.2 6 k / (S.1 4 k).toInt64
def ful (S : Ast) (k : Nat) : Int64 := (S.1 4 k).toInt64 * (S.1 2 k - S.1 3 k).toInt64
def smJ (f : Nat → Int64) : Nat → Int64
  | 0 => 0
  | n + 1 => smJ f n + f n
abbrev okT (S : Ast) (k x : Int32) : Prop := ¬ wI k 0 (S.1 1 0 - 1) = 0 ∧ ¬ wI x 0 3 = 0
def rT (S : Ast) (j : Nat) (x : Int32) : Int64 := if x = 0 then S.2 6 j else if x = 1 then lvl S j else if x = 2 then S.2 7 j else S.2 8 j
abbrev okF (S : Ast) (k x : Int32) : Prop := ¬ wI k 0 (S.1 10 0 - 1) = 0 ∧ ¬ wI x 0 2 = 0
def rF (S : Ast) (j : Nat) (x : Int32) : Int64 := if x = 0 then S.2 16 j else if x = 1 then S.2 17 j else S.2 15 j
/-- the steps of a second -/
def fRain (S : Ast) (k j : Nat) : Ast := uJ (uJ (uJ S 22 k ((S.2 22 k + (S.1 20 k).toInt64 * (S.1 23 j).toInt64 * (1000 - S.1 21 k).toInt64) - (S.2 22 k + (S.1 20 k).toInt64 * (S.1 23 j).toInt64 * (1000 - S.1 21 k).toInt64) / 60000000 * 60000000)) 6 (S.1 19 k).toNatClampNeg (S.2 6 (S.1 19 k).toNatClampNeg + (S.2 22 k + (S.1 20 k).toInt64 * (S.1 23 j).toInt64 * (1000 - S.1 21 k).toInt64) / 60000000)) 41 0 (S.2 41 0 + (S.2 22 k + (S.1 20 k).toInt64 * (S.1 23 j).toInt64 * (1000 - S.1 21 k).toInt64) / 60000000)
def wR (S : Ast) (k : Nat) : Int64 := S.2 15 k + (S.1 14 k).toInt64 * (S.1 14 k).toInt64 * (S.2 9 (S.1 11 k).toNatClampNeg - S.2 9 (S.1 12 k).toNatClampNeg)
def wB (S : Ast) (k : Nat) : Int64 := 1000 * (S.1 13 k).toInt64
def wM (S : Ast) (k : Nat) : Int64 := pMv (wR S k / wB S k) (S.2 6 (S.1 11 k).toNatClampNeg) (S.2 6 (S.1 12 k).toNatClampNeg)
def fFlow (S : Ast) (k : Nat) : Ast := uJ (uJ (uJ (uJ (uJ S 15 k (wR S k - wR S k / wB S k * wB S k)) 6 (S.1 11 k).toNatClampNeg (S.2 6 (S.1 11 k).toNatClampNeg - wM S k)) 6 (S.1 12 k).toNatClampNeg (S.2 6 (S.1 12 k).toNatClampNeg + wM S k)) 16 k (wM S k)) 17 k (S.2 17 k + wM S k)
def uO (S : Ast) (k : Nat) : Int32 := pOn (lvl S (S.1 25 k).toNatClampNeg) (S.1 27 k) (S.1 28 k) (S.1 30 k)
def uG (S : Ast) (k : Nat) : Int64 := pGv (uO S k) (S.1 29 k).toInt64 (S.2 6 (S.1 25 k).toNatClampNeg)
def fPump (S : Ast) (k : Nat) : Ast := uJ (uJ (uI S 30 k (uO S k)) 6 (S.1 25 k).toNatClampNeg (S.2 6 (S.1 25 k).toNatClampNeg - uG S k)) 6 (S.1 26 k).toNatClampNeg (S.2 6 (S.1 26 k).toNatClampNeg + uG S k)
def gG (S : Ast) (k : Nat) : Int64 := gOut (S.1 34 k).toInt64 (S.2 6 (S.1 32 k).toNatClampNeg - (S.1 33 k).toInt64 * (S.1 4 (S.1 32 k).toNatClampNeg).toInt64)
def fGate (S : Ast) (k : Nat) : Ast := uJ (uJ (uJ S 6 (S.1 32 k).toNatClampNeg (S.2 6 (S.1 32 k).toNatClampNeg - gG S k)) 8 (S.1 32 k).toNatClampNeg (S.2 8 (S.1 32 k).toNatClampNeg + gG S k)) 42 0 (S.2 42 0 + gG S k)
def lG (S : Ast) (k : Nat) : Int64 := gTake (S.1 38 k).toInt64 (S.2 39 (S.1 36 k).toNatClampNeg) (ful S (S.1 37 k).toNatClampNeg - S.2 6 (S.1 37 k).toNatClampNeg)
def fGully (S : Ast) (k : Nat) : Ast := uJ (uJ S 39 (S.1 36 k).toNatClampNeg (S.2 39 (S.1 36 k).toNatClampNeg - lG S k)) 6 (S.1 37 k).toNatClampNeg (S.2 6 (S.1 37 k).toNatClampNeg + lG S k)
def nS (S : Ast) (k : Nat) : Int64 := if S.2 6 k - ful S k < 0 then 0 else S.2 6 k - ful S k
def fNode (S : Ast) (k : Nat) : Ast := if S.1 5 k < 0 then uJ (uJ (uJ S 6 k (S.2 6 k - nS S k)) 7 k (S.2 7 k + nS S k)) 43 0 (S.2 43 0 + nS S k) else uJ (uJ (uJ S 6 k (S.2 6 k - nS S k)) 7 k (S.2 7 k + nS S k)) 39 (S.1 5 k).toNatClampNeg (S.2 39 (S.1 5 k).toNatClampNeg + nS S k)
theorem nI_i1 (i : Nat) : nI i + Int32.ofInt 1 = nI (i + 1) := nI_1 i

set_option maxRecDepth 100000 in
set_option maxHeartbeats 4000000 in
theorem m_less (K : Kx) {w : Wd} (a b : Int64)  : MT K mX10_less 0 0 0 [.long a, .long b] w (PL fun r w' => r = (if b < a then b else a) ∧ w' = w) := by
  refine MT.of [some (.long a), none, some (.long b), none] (by decide) rfl (nle rfl) rfl ?_
  intro E hC hR
  refine j_lload_n hC dX10_less_0 rfl ?_
  refine j_lload_n hC dX10_less_1 rfl ?_
  refine j_lcmp_ge hC 10 dX10_less_2 dX10_less_3 (by decide) (fun c_2 => ?_) (fun c_2 => ?_)
  · refine j_lload_n hC dX10_less_10 rfl ?_
    exact j_lret hC hR dX10_less_11 rfl ⟨_, rfl, by rw [← ls_eq]; first | exact (if_pos c_2).symm | exact (if_neg c_2).symm, rfl⟩
  · refine j_lload_n hC dX10_less_6 rfl ?_
    refine j_goto hC 11 dX10_less_7 (by decide) ?_
    exact j_lret hC hR dX10_less_11 rfl ⟨_, rfl, by rw [← ls_eq]; first | exact (if_pos c_2).symm | exact (if_neg c_2).symm, rfl⟩

set_option maxRecDepth 100000 in
set_option maxHeartbeats 4000000 in
theorem m_levelOf (K : Kx) {w : Wd} {m : Nat} {ad : Nat → Nat} {S : Ast} (k : Int32) (hA : MA K.2.1 w m ad S) (hx : ix k 24 k.toNatClampNeg) (hro : ¬ (S.1 4 k.toNatClampNeg).toInt64 = 0) : MT K mX10_levelOf 0 0 0 [.ref m, .int k] w (PL fun r w' => r = lvl S k.toNatClampNeg ∧ w' = w) := by
  refine MT.of [some (.ref m), some (.int k)] (by decide) rfl (nle rfl) rfl ?_
  intro E hC hR
  have hM := MB.rf hA
  refine j_aload_n hC dX10_levelOf_0 rfl ?_
  refine m_get hC hM dX10_levelOf_1 fX10_13 (by decide) (mFg_3 _ _) ?_
  refine j_iload_n hC dX10_levelOf_4 rfl ?_
  refine m_ldI hC hM (by decide) dX10_levelOf_5 (hx) ?_
  refine j_i2l hC dX10_levelOf_6 ?_
  refine j_aload_n hC dX10_levelOf_7 rfl ?_
  refine m_get hC hM dX10_levelOf_8 fX10_22 (by decide) (mFg_6 _ _) ?_
  refine j_iload_n hC dX10_levelOf_11 rfl ?_
  refine m_ldJ hC hM (by decide) dX10_levelOf_12 (hx) ?_
  refine j_aload_n hC dX10_levelOf_13 rfl ?_
  refine m_get hC hM dX10_levelOf_14 fX10_16 (by decide) (mFg_4 _ _) ?_
  refine j_iload_n hC dX10_levelOf_17 rfl ?_
  refine m_ldI hC hM (by decide) dX10_levelOf_18 (hx) ?_
  refine j_i2l hC dX10_levelOf_19 ?_
  refine j_ldiv hC dX10_levelOf_20 (hro) ?_
  refine j_ladd hC dX10_levelOf_21 ?_
  exact j_lret hC hR dX10_levelOf_22 rfl ⟨_, rfl, rfl, rfl⟩

set_option maxRecDepth 100000 in
set_option maxHeartbeats 4000000 in
theorem m_fullOf (K : Kx) {w : Wd} {m : Nat} {ad : Nat → Nat} {S : Ast} (k : Int32) (hA : MA K.2.1 w m ad S) (hx : ix k 24 k.toNatClampNeg) : MT K mX10_fullOf 0 0 0 [.ref m, .int k] w (PL fun r w' => r = ful S k.toNatClampNeg ∧ w' = w) := by
  refine MT.of [some (.ref m), some (.int k)] (by decide) rfl (nle rfl) rfl ?_
  intro E hC hR
  have hM := MB.rf hA
  refine j_aload_n hC dX10_fullOf_0 rfl ?_
  refine m_get hC hM dX10_fullOf_1 fX10_16 (by decide) (mFg_4 _ _) ?_
  refine j_iload_n hC dX10_fullOf_4 rfl ?_
  refine m_ldI hC hM (by decide) dX10_fullOf_5 (hx) ?_
  refine j_i2l hC dX10_fullOf_6 ?_
  refine j_aload_n hC dX10_fullOf_7 rfl ?_
  refine m_get hC hM dX10_fullOf_8 fX10_7 (by decide) (mFg_2 _ _) ?_
  refine j_iload_n hC dX10_fullOf_11 rfl ?_
  refine m_ldI hC hM (by decide) dX10_fullOf_12 (hx) ?_
  refine j_aload_n hC dX10_fullOf_13 rfl ?_
  refine m_get hC hM dX10_fullOf_14 fX10_13 (by decide) (mFg_3 _ _) ?_
  refine j_iload_n hC dX10_fullOf_17 rfl ?_
  refine m_ldI hC hM (by decide) dX10_fullOf_18 (hx) ?_
  refine j_isub hC dX10_fullOf_19 ?_
  refine j_i2l hC dX10_fullOf_20 ?_
  refine j_lmul hC dX10_fullOf_21 ?_
  exact j_lret hC hR dX10_fullOf_22 rfl ⟨_, rfl, rfl, rfl⟩

set_option maxRecDepth 100000 in
set_option maxHeartbeats 4000000 in
theorem m_told (K : Kx) {w : Wd} {m : Nat} {ad : Nat → Nat} {S : Ast} (k x : Int32) (hA : MA K.2.1 w m ad S) (h1 : CN S 1 24) (hro : ∀ j, j < cn S 1 → ¬ (S.1 4 j).toInt64 = 0) : MT K mX10_told 2 0 0 [.ref m, .int k, .int x] w (PL fun r w' => r = (if okT S k x then rT S k.toNatClampNeg x else (-1099511627776)) ∧ w' = w) := by
  refine MT.of [some (.ref m), some (.int k), some (.int x)] (by decide) rfl (nle rfl) rfl ?_
  intro E hC hR
  have hM := MB.rf hA
  refine j_aload_n hC dX10_told_0 rfl ?_
  refine j_iload_n hC dX10_told_1 rfl ?_
  refine j_callv (kc' := 0) (ks' := 0) (r := (RX10, TX10, 59)) hC (m_isNode K k hA) dX10_told_2 wX10_isNode lX10_154 i_yX10_isNode s_yX10_isNode hM.1.1 rfl rfl rfl (nle rfl) rfl (by decide) (by decide) (by decide) (kI fun r w' hp => ?_)
  obtain ⟨rfl, hw⟩ := hp
  rw [hw]
  clear hw w'
  refine j_if_eq hC 17 dX10_told_5 (by decide) (fun c_5 => ?_) (fun c_5 => ?_)
  · refine j_ldc2 hC dX10_told_17 nX10_221 ?_
    have hok : ¬ okT S k x := by simp [okT, c_5]
    exact j_lret hC hR dX10_told_20 rfl ⟨_, rfl, by rw [if_neg hok], rfl⟩
  · refine j_iload_n hC dX10_told_8 rfl ?_
    refine j_iconst hC (0) dX10_told_9 (by decide) ?_
    refine j_iconst hC (3) dX10_told_10 (by decide) ?_
    refine j_calls (kc' := 0) (ks' := 0) hC (m_is K x 0 3) dX10_told_11 wX10_is lX10_145 t_yX10_is rfl rfl (nle rfl) rfl (by decide) (by decide) (by decide) (kI fun r w' hp => ?_)
    obtain ⟨rfl, hw⟩ := hp
    rw [hw]
    clear hw w'
    refine j_if_ne hC 21 dX10_told_14 (by decide) (fun c_14 => ?_) (fun c_14 => ?_)
    · have hok : okT S k x := by simp [okT, c_5, c_14]
      obtain ⟨-, hlt, hx⟩ := isn h1 c_5
      refine j_iload_n hC dX10_told_21 rfl ?_
      refine j_if_ne hC 34 dX10_told_22 (by decide) (fun c_22 => ?_) (fun c_22 => ?_)
      · refine j_iload_n hC dX10_told_34 rfl ?_
        refine j_iconst hC (1) dX10_told_35 (by decide) ?_
        refine j_icmp_ne hC 47 dX10_told_36 (by decide) (fun c_36 => ?_) (fun c_36 => ?_)
        · refine j_iload_n hC dX10_told_47 rfl ?_
          refine j_iconst hC (2) dX10_told_48 (by decide) ?_
          refine j_icmp_ne hC 61 dX10_told_49 (by decide) (fun c_49 => ?_) (fun c_49 => ?_)
          · refine j_aload_n hC dX10_told_61 rfl ?_
            refine m_get hC hM dX10_told_62 fX10_29 (by decide) (mFg_8 _ _) ?_
            refine j_iload_n hC dX10_told_65 rfl ?_
            refine m_ldJ hC hM (by decide) dX10_told_66 (hx) ?_
            exact j_lret hC hR dX10_told_67 rfl ⟨_, rfl, by rw [if_pos hok]; simp [rT, c_22, c_36, c_49], rfl⟩
          · refine j_aload_n hC dX10_told_52 rfl ?_
            refine m_get hC hM dX10_told_53 fX10_26 (by decide) (mFg_7 _ _) ?_
            refine j_iload_n hC dX10_told_56 rfl ?_
            refine m_ldJ hC hM (by decide) dX10_told_57 (hx) ?_
            refine j_goto hC 67 dX10_told_58 (by decide) ?_
            exact j_lret hC hR dX10_told_67 rfl ⟨_, rfl, by rw [if_pos hok]; simp [rT, c_22, c_36, c_49], rfl⟩
        · refine j_aload_n hC dX10_told_39 rfl ?_
          refine j_iload_n hC dX10_told_40 rfl ?_
          refine j_callv (kc' := 0) (ks' := 0) (r := (RX10, TX10, 59)) hC (m_levelOf K k hA hx (hro _ hlt)) dX10_told_41 wX10_levelOf lX10_184 i_yX10_levelOf s_yX10_levelOf hM.1.1 rfl rfl rfl (nle rfl) rfl (by decide) (by decide) (by decide) (kL fun r w' hp => ?_)
          obtain ⟨rfl, hw⟩ := hp
          rw [hw]
          clear hw w'
          refine j_goto hC 67 dX10_told_44 (by decide) ?_
          exact j_lret hC hR dX10_told_67 rfl ⟨_, rfl, by rw [if_pos hok]; simp [rT, c_22, c_36], rfl⟩
      · refine j_aload_n hC dX10_told_25 rfl ?_
        refine m_get hC hM dX10_told_26 fX10_22 (by decide) (mFg_6 _ _) ?_
        refine j_iload_n hC dX10_told_29 rfl ?_
        refine m_ldJ hC hM (by decide) dX10_told_30 (hx) ?_
        refine j_goto hC 67 dX10_told_31 (by decide) ?_
        exact j_lret hC hR dX10_told_67 rfl ⟨_, rfl, by rw [if_pos hok]; simp [rT, c_22], rfl⟩
    · refine j_ldc2 hC dX10_told_17 nX10_221 ?_
      have hok : ¬ okT S k x := by simp [okT, c_5, c_14]
      exact j_lret hC hR dX10_told_20 rfl ⟨_, rfl, by rw [if_neg hok], rfl⟩

set_option maxRecDepth 100000 in
set_option maxHeartbeats 4000000 in
theorem m_flow (K : Kx) {w : Wd} {m : Nat} {ad : Nat → Nat} {S : Ast} (k x : Int32) (hA : MA K.2.1 w m ad S) (h2 : CN S 10 40) : MT K mX10_flow 1 0 0 [.ref m, .int k, .int x] w (PL fun r w' => r = (if okF S k x then rF S k.toNatClampNeg x else (-1152921504606846976)) ∧ w' = w) := by
  refine MT.of [some (.ref m), some (.int k), some (.int x)] (by decide) rfl (nle rfl) rfl ?_
  intro E hC hR
  have hM := MB.rf hA
  refine j_iload_n hC dX10_flow_0 rfl ?_
  refine j_iconst hC (0) dX10_flow_1 (by decide) ?_
  refine j_aload_n hC dX10_flow_2 rfl ?_
  refine m_get hC hM dX10_flow_3 fX10_151 (by decide) (mFg_10 _ _) ?_
  refine j_iconst hC (1) dX10_flow_6 (by decide) ?_
  refine j_isub hC dX10_flow_7 ?_
  refine j_calls (kc' := 0) (ks' := 0) hC (m_is K k 0 (S.1 10 0 - 1)) dX10_flow_8 wX10_is lX10_145 t_yX10_is rfl rfl (nle rfl) rfl (by decide) (by decide) (by decide) (kI fun r w' hp => ?_)
  obtain ⟨rfl, hw⟩ := hp
  rw [hw]
  clear hw w'
  refine j_if_eq hC 23 dX10_flow_11 (by decide) (fun c_11 => ?_) (fun c_11 => ?_)
  · refine j_ldc2 hC dX10_flow_23 nX10_223 ?_
    have hok : ¬ okF S k x := by simp [okF, c_11]
    exact j_lret hC hR dX10_flow_26 rfl ⟨_, rfl, by rw [if_neg hok], rfl⟩
  · refine j_iload_n hC dX10_flow_14 rfl ?_
    refine j_iconst hC (0) dX10_flow_15 (by decide) ?_
    refine j_iconst hC (2) dX10_flow_16 (by decide) ?_
    refine j_calls (kc' := 0) (ks' := 0) hC (m_is K x 0 2) dX10_flow_17 wX10_is lX10_145 t_yX10_is rfl rfl (nle rfl) rfl (by decide) (by decide) (by decide) (kI fun r w' hp => ?_)
    obtain ⟨rfl, hw⟩ := hp
    rw [hw]
    clear hw w'
    refine j_if_ne hC 27 dX10_flow_20 (by decide) (fun c_20 => ?_) (fun c_20 => ?_)
    · have hok : okF S k x := by simp [okF, c_11, c_20]
      obtain ⟨-, hlt, hx⟩ := wI_ix h2.2 (by omega) (show ¬ wI k 0 (nI (cn S 10) - 1) = 0 by rw [← h2.1]; exact c_11)
      refine j_iload_n hC dX10_flow_27 rfl ?_
      refine j_if_ne hC 40 dX10_flow_28 (by decide) (fun c_28 => ?_) (fun c_28 => ?_)
      · refine j_iload_n hC dX10_flow_40 rfl ?_
        refine j_iconst hC (1) dX10_flow_41 (by decide) ?_
        refine j_icmp_ne hC 54 dX10_flow_42 (by decide) (fun c_42 => ?_) (fun c_42 => ?_)
        · refine j_aload_n hC dX10_flow_54 rfl ?_
          refine m_get hC hM dX10_flow_55 fX10_47 (by decide) (mFg_15 _ _) ?_
          refine j_iload_n hC dX10_flow_58 rfl ?_
          refine m_ldJ hC hM (by decide) dX10_flow_59 (hx) ?_
          exact j_lret hC hR dX10_flow_60 rfl ⟨_, rfl, by rw [if_pos hok]; simp [rF, c_28, c_42], rfl⟩
        · refine j_aload_n hC dX10_flow_45 rfl ?_
          refine m_get hC hM dX10_flow_46 fX10_53 (by decide) (mFg_17 _ _) ?_
          refine j_iload_n hC dX10_flow_49 rfl ?_
          refine m_ldJ hC hM (by decide) dX10_flow_50 (hx) ?_
          refine j_goto hC 60 dX10_flow_51 (by decide) ?_
          exact j_lret hC hR dX10_flow_60 rfl ⟨_, rfl, by rw [if_pos hok]; simp [rF, c_28, c_42], rfl⟩
      · refine j_aload_n hC dX10_flow_31 rfl ?_
        refine m_get hC hM dX10_flow_32 fX10_50 (by decide) (mFg_16 _ _) ?_
        refine j_iload_n hC dX10_flow_35 rfl ?_
        refine m_ldJ hC hM (by decide) dX10_flow_36 (hx) ?_
        refine j_goto hC 60 dX10_flow_37 (by decide) ?_
        exact j_lret hC hR dX10_flow_60 rfl ⟨_, rfl, by rw [if_pos hok]; simp [rF, c_28], rfl⟩
    · refine j_ldc2 hC dX10_flow_23 nX10_223 ?_
      have hok : ¬ okF S k x := by simp [okF, c_11, c_20]
      exact j_lret hC hR dX10_flow_26 rfl ⟨_, rfl, by rw [if_neg hok], rfl⟩

set_option maxRecDepth 100000 in
set_option maxHeartbeats 4000000 in
theorem m_cell (K : Kx) {w : Wd} {m : Nat} {ad : Nat → Nat} {S : Ast} (k : Int32) (hA : MA K.2.1 w m ad S)  : MT K mX10_cell 1 0 0 [.ref m, .int k] w (PL fun r w' => r = (if wI k 0 7 = 0 then (-1) else S.2 39 k.toNatClampNeg) ∧ w' = w) := by
  refine MT.of [some (.ref m), some (.int k)] (by decide) rfl (nle rfl) rfl ?_
  intro E hC hR
  have hM := MB.rf hA
  refine j_iload_n hC dX10_cell_0 rfl ?_
  refine j_iconst hC (0) dX10_cell_1 (by decide) ?_
  refine j_bipush hC (7) dX10_cell_2 (by decide) ?_
  refine j_calls (kc' := 0) (ks' := 0) hC (m_is K k 0 7) dX10_cell_4 wX10_is lX10_145 t_yX10_is rfl rfl (nle rfl) rfl (by decide) (by decide) (by decide) (kI fun r w' hp => ?_)
  obtain ⟨rfl, hw⟩ := hp
  rw [hw]
  clear hw w'
  refine j_if_eq hC 19 dX10_cell_7 (by decide) (fun c_7 => ?_) (fun c_7 => ?_)
  · refine j_ldc2 hC dX10_cell_19 nX10_225 ?_
    exact j_lret hC hR dX10_cell_22 rfl ⟨_, rfl, by simp [c_7], rfl⟩
  · have hx := (wI_ix (n := 8) (b := 8) (Nat.le_refl _) (by omega) (show ¬ wI k 0 (nI 8 - 1) = 0 from c_7)).2.2
    refine j_aload_n hC dX10_cell_10 rfl ?_
    refine m_get hC hM dX10_cell_11 fX10_108 (by decide) (mFg_39 _ _) ?_
    refine j_iload_n hC dX10_cell_14 rfl ?_
    refine m_ldJ hC hM (by decide) dX10_cell_15 (hx) ?_
    refine j_goto hC 22 dX10_cell_16 (by decide) ?_
    exact j_lret hC hR dX10_cell_22 rfl ⟨_, rfl, by simp [c_7], rfl⟩

set_option maxRecDepth 100000 in
set_option maxHeartbeats 4000000 in
theorem m_pumps (K : Kx) {w : Wd} {m : Nat} {ad : Nat → Nat} {S : Ast} (k : Int32) (hA : MA K.2.1 w m ad S) (h2 : CN S 24 8) : MT K mX10_pumps 1 0 0 [.ref m, .int k] w (PI fun r w' => r = (if wI k 0 (S.1 24 0 - 1) = 0 then (-1) else if S.1 30 k.toNatClampNeg = 0 then 0 else 1) ∧ w' = w) := by
  refine MT.of [some (.ref m), some (.int k)] (by decide) rfl (nle rfl) rfl ?_
  intro E hC hR
  have hM := MB.rf hA
  refine j_iload_n hC dX10_pumps_0 rfl ?_
  refine j_iconst hC (0) dX10_pumps_1 (by decide) ?_
  refine j_aload_n hC dX10_pumps_2 rfl ?_
  refine m_get hC hM dX10_pumps_3 fX10_162 (by decide) (mFg_24 _ _) ?_
  refine j_iconst hC (1) dX10_pumps_6 (by decide) ?_
  refine j_isub hC dX10_pumps_7 ?_
  refine j_calls (kc' := 0) (ks' := 0) hC (m_is K k 0 (S.1 24 0 - 1)) dX10_pumps_8 wX10_is lX10_145 t_yX10_is rfl rfl (nle rfl) rfl (by decide) (by decide) (by decide) (kI fun r w' hp => ?_)
  obtain ⟨rfl, hw⟩ := hp
  rw [hw]
  clear hw w'
  refine j_if_ne hC 18 dX10_pumps_11 (by decide) (fun c_11 => ?_) (fun c_11 => ?_)
  · have hx := (wI_ix h2.2 (by omega) (show ¬ wI k 0 (nI (cn S 24) - 1) = 0 by rw [← h2.1]; exact c_11)).2.2
    refine j_aload_n hC dX10_pumps_18 rfl ?_
    refine m_get hC hM dX10_pumps_19 fX10_86 (by decide) (mFg_30 _ _) ?_
    refine j_iload_n hC dX10_pumps_22 rfl ?_
    refine m_ldZ hC hM dX10_pumps_23 (hx) ?_
    refine j_if_eq hC 31 dX10_pumps_24 (by decide) (fun c_24 => ?_) (fun c_24 => ?_)
    · refine j_iconst hC (0) dX10_pumps_31 (by decide) ?_
      exact j_iret hC hR dX10_pumps_32 rfl ⟨_, rfl, by simp [c_11, c_24], rfl⟩
    · refine j_iconst hC (1) dX10_pumps_27 (by decide) ?_
      refine j_goto hC 32 dX10_pumps_28 (by decide) ?_
      exact j_iret hC hR dX10_pumps_32 rfl ⟨_, rfl, by simp [c_11, c_24], rfl⟩
  · refine j_iconst hC (-1) dX10_pumps_14 (by decide) ?_
    refine j_goto hC 32 dX10_pumps_15 (by decide) ?_
    exact j_iret hC hR dX10_pumps_32 rfl ⟨_, rfl, by simp [c_11], rfl⟩

set_option maxRecDepth 100000 in
set_option maxHeartbeats 4000000 in
theorem m_inNodes (K : Kx) {w : Wd} {m : Nat} {ad : Nat → Nat} {S : Ast} (hA : MA K.2.1 w m ad S) (h1 : CN S 1 24) : MT K mX10_inNodes 0 0 0 [.ref m] w (PL fun r w' => r = smJ (S.2 6) (cn S 1) ∧ w' = w) := by
  refine MT.of [some (.ref m), none, none, none] (by decide) rfl (nle rfl) rfl ?_
  intro E hC hR
  have hM := MB.rf hA
  have loop : ∀ n i : Nat, i + n = cn S 1 → J K cX10_inNodes E 0 0 w 4 [some (.ref m), some (.long (smJ (S.2 6) i)), none, some (.int (nI i))] [] := by
    intro n
    induction n with
    | zero =>
      intro i hi
      have hi2 : i = cn S 1 := by omega
      subst hi2
      refine j_iload_n hC dX10_inNodes_4 rfl ?_
      refine j_aload_n hC dX10_inNodes_5 rfl ?_
      refine m_get hC hM dX10_inNodes_6 fX10_142 (by decide) (mFg_1 _ _) ?_
      refine j_icmp_ge hC 27 dX10_inNodes_9 (by decide) (fun c_9 => ?_) (fun c_9 => ?_)
      · refine j_lload_n hC dX10_inNodes_27 rfl ?_
        exact j_lret hC hR dX10_inNodes_28 rfl ⟨_, rfl, rfl, rfl⟩
      · exact absurd (by rw [h1.1]; exact (nI_leI (by have := h1.2; omega) (by have := h1.2; omega)).mpr (Nat.le_refl _)) c_9
    | succ n ih =>
      intro i hi
      refine j_iload_n hC dX10_inNodes_4 rfl ?_
      refine j_aload_n hC dX10_inNodes_5 rfl ?_
      refine m_get hC hM dX10_inNodes_6 fX10_142 (by decide) (mFg_1 _ _) ?_
      refine j_icmp_ge hC 27 dX10_inNodes_9 (by decide) (fun c_9 => ?_) (fun c_9 => ?_)
      · exact absurd ((nI_leI (a := cn S 1) (b := i) (by have := h1.2; omega) (by have := h1.2; omega)).mp (h1.1 ▸ c_9)) (by omega)
      · refine j_lload_n hC dX10_inNodes_12 rfl ?_
        refine j_aload_n hC dX10_inNodes_13 rfl ?_
        refine m_get hC hM dX10_inNodes_14 fX10_22 (by decide) (mFg_6 _ _) ?_
        refine j_iload_n hC dX10_inNodes_17 rfl ?_
        refine m_ldJ hC hM (by decide) dX10_inNodes_18 (ix_nI (n := 24) (by have := h1.2; omega) (by omega)) ?_
        refine j_ladd hC dX10_inNodes_19 ?_
        refine j_lstore_n (lv' := [some _, some _, none, some _]) hC dX10_inNodes_20 (nlt rfl) rfl ?_
        refine j_iinc (v := nI (i + 1)) (lv' := [some _, some _, none, some _]) hC dX10_inNodes_21 rfl (nI_i1 i) (nlt rfl) rfl ?_
        refine j_goto hC 4 dX10_inNodes_24 (by decide) ?_
        exact ih (i + 1) (by omega)
  refine j_lconst hC (0) dX10_inNodes_0 (by decide) ?_
  refine j_lstore_n (lv' := [some _, some _, none, none]) hC dX10_inNodes_1 (nlt rfl) rfl ?_
  refine j_iconst hC (0) dX10_inNodes_2 (by decide) ?_
  refine j_istore_n (lv' := [some _, some _, none, some _]) hC dX10_inNodes_3 (nlt rfl) rfl ?_
  exact loop (cn S 1) 0 (by omega)

set_option maxRecDepth 100000 in
set_option maxHeartbeats 4000000 in
theorem m_inCells (K : Kx) {w : Wd} {m : Nat} {ad : Nat → Nat} {S : Ast} (hA : MA K.2.1 w m ad S)  : MT K mX10_inCells 0 0 0 [.ref m] w (PL fun r w' => r = smJ (S.2 39) (8) ∧ w' = w) := by
  refine MT.of [some (.ref m), none, none, none] (by decide) rfl (nle rfl) rfl ?_
  intro E hC hR
  have hM := MB.rf hA
  have loop : ∀ n i : Nat, i + n = 8 → J K cX10_inCells E 0 0 w 4 [some (.ref m), some (.long (smJ (S.2 39) i)), none, some (.int (nI i))] [] := by
    intro n
    induction n with
    | zero =>
      intro i hi
      have hi2 : i = 8 := by omega
      subst hi2
      refine j_iload_n hC dX10_inCells_4 rfl ?_
      refine j_bipush hC (8) dX10_inCells_5 (by decide) ?_
      refine j_icmp_ge hC 25 dX10_inCells_7 (by decide) (fun c_7 => ?_) (fun c_7 => ?_)
      · refine j_lload_n hC dX10_inCells_25 rfl ?_
        exact j_lret hC hR dX10_inCells_26 rfl ⟨_, rfl, rfl, rfl⟩
      · exact absurd (by decide) c_7
    | succ n ih =>
      intro i hi
      refine j_iload_n hC dX10_inCells_4 rfl ?_
      refine j_bipush hC (8) dX10_inCells_5 (by decide) ?_
      refine j_icmp_ge hC 25 dX10_inCells_7 (by decide) (fun c_7 => ?_) (fun c_7 => ?_)
      · exact absurd ((nI_leI (a := 8) (b := i) (by omega) (by omega)).mp c_7) (by omega)
      · refine j_lload_n hC dX10_inCells_10 rfl ?_
        refine j_aload_n hC dX10_inCells_11 rfl ?_
        refine m_get hC hM dX10_inCells_12 fX10_108 (by decide) (mFg_39 _ _) ?_
        refine j_iload_n hC dX10_inCells_15 rfl ?_
        refine m_ldJ hC hM (by decide) dX10_inCells_16 (ix_nI (n := 8) (by omega) (by omega)) ?_
        refine j_ladd hC dX10_inCells_17 ?_
        refine j_lstore_n (lv' := [some _, some _, none, some _]) hC dX10_inCells_18 (nlt rfl) rfl ?_
        refine j_iinc (v := nI (i + 1)) (lv' := [some _, some _, none, some _]) hC dX10_inCells_19 rfl (nI_i1 i) (nlt rfl) rfl ?_
        refine j_goto hC 4 dX10_inCells_22 (by decide) ?_
        exact ih (i + 1) (by omega)
  refine j_lconst hC (0) dX10_inCells_0 (by decide) ?_
  refine j_lstore_n (lv' := [some _, some _, none, none]) hC dX10_inCells_1 (nlt rfl) rfl ?_
  refine j_iconst hC (0) dX10_inCells_2 (by decide) ?_
  refine j_istore_n (lv' := [some _, some _, none, some _]) hC dX10_inCells_3 (nlt rfl) rfl ?_
  exact loop (8) 0 (by omega)
end
section

theorem l0 : (0 : Int64).toInt = 0 := by decide
theorem gOut_0 {ra ab : Int64} (h : ab ≤ 0) (hr : 0 < ra) : gOut ra ab = 0 := by
  unfold gOut
  have h1 := Int64.le_iff_toInt_le.mp h
  have h2 := Int64.lt_iff_toInt_lt.mp hr
  rw [l0] at h1 h2
  have e : ab < ra := Int64.lt_iff_toInt_lt.mpr (by omega)
  simp only [if_pos e]
  by_cases h3 : ab < 0
  · rw [if_pos h3]
  · rw [if_neg h3]
    have := Int64.not_lt.mp h3
    exact Int64.le_antisymm h this
theorem gOut_1 {ra ab : Int64} (h : ¬ ab ≤ 0) (hr : 0 < ra) : gOut ra ab = if ra < ab then ra else ab := by
  unfold gOut
  have h1 := Int64.lt_iff_toInt_lt.mp (Int64.not_le.mp h)
  have h2 := Int64.lt_iff_toInt_lt.mp hr
  rw [l0] at h1 h2
  have h3 : ¬ (if ab < ra then ab else ra) < 0 := by
    intro q
    have q' := Int64.lt_iff_toInt_lt.mp q
    rw [l0] at q'
    split at q' <;> omega
  rw [if_neg h3]
  by_cases h4 : ab < ra
  · rw [if_pos h4, if_neg (fun q => absurd (Int64.lt_iff_toInt_lt.mp h4) (by have := Int64.lt_iff_toInt_lt.mp q; omega))]
  · rw [if_neg h4]
    by_cases h5 : ra < ab
    · rw [if_pos h5]
    · rw [if_neg h5]
      exact Int64.le_antisymm (Int64.not_lt.mp h4) (Int64.not_lt.mp h5)
theorem gTake_0 {ra hd lf : Int64} (h : lf ≤ 0) (hr : 0 ≤ ra) (hh : 0 ≤ hd) : gTake ra hd lf = 0 := by
  unfold gTake
  have h1 := Int64.le_iff_toInt_le.mp h
  have h2 := Int64.le_iff_toInt_le.mp hr
  have h3 := Int64.le_iff_toInt_le.mp hh
  rw [l0] at h1 h2 h3
  have e : (if lf < 0 then 0 else lf) = (0 : Int64) := by
    by_cases h4 : lf < 0
    · rw [if_pos h4]
    · rw [if_neg h4]; exact Int64.le_antisymm h (Int64.not_lt.mp h4)
  rw [e]
  by_cases h5 : (0 : Int64) < (if hd < ra then hd else ra)
  · rw [if_pos h5]
  · rw [if_neg h5]
    have h6 := Int64.not_lt.mp h5
    refine Int64.le_antisymm h6 (Int64.le_iff_toInt_le.mpr ?_)
    rw [l0]
    split <;> omega
theorem gTake_1 {ra hd lf : Int64} (h : ¬ lf ≤ 0) : gTake ra hd lf = if (if hd < ra then hd else ra) < lf then (if hd < ra then hd else ra) else lf := by
  unfold gTake
  have h1 := Int64.not_le.mp h
  have e : ¬ lf < 0 := fun q => Int64.lt_irrefl (Int64.lt_trans h1 q)
  rw [if_neg e]
  generalize (if hd < ra then hd else ra) = q
  by_cases h4 : lf < q
  · rw [if_pos h4, if_neg (fun z => Int64.lt_irrefl (Int64.lt_trans h4 z))]
  · rw [if_neg h4]
    by_cases h5 : q < lf
    · rw [if_pos h5]
    · rw [if_neg h5]; exact Int64.le_antisymm (Int64.not_lt.mp h4) (Int64.not_lt.mp h5)

set_option maxRecDepth 100000 in
set_option maxHeartbeats 4000000 in
theorem m_rainOf (K : Kx) {w : Wd} {m : Nat} {ad : Nat → Nat} {S : Ast} {k j : Nat} (mi : Int32) (hA : MA K.2.1 w m ad S) (hk : k < 24) (hj : ix mi 1440 j) (hn : ix (S.1 19 k) 24 (S.1 19 k).toNatClampNeg) : MT K mX10_rainOf 0 0 0 [.ref m, .int (nI k), .int mi] w (PV fun w' => MB K.2.1 w w' m ad (fRain S k j)) := by
  refine MT.of [some (.ref m), some (.int (nI k)), some (.int mi), none, none] (by decide) rfl (nle rfl) rfl ?_
  intro E hC hR
  have hM := MB.rf hA
  refine j_aload_n hC dX10_rainOf_0 rfl ?_
  refine m_get hC hM dX10_rainOf_1 fX10_65 (by decide) (mFg_22 _ _) ?_
  refine j_iload_n hC dX10_rainOf_4 rfl ?_
  refine j_dup2_11 hC dX10_rainOf_5 rfl rfl ?_
  refine m_ldJ hC hM (by decide) dX10_rainOf_6 (ix_nI (n := 24) hk (by omega)) ?_
  refine j_aload_n hC dX10_rainOf_7 rfl ?_
  refine m_get hC hM dX10_rainOf_8 fX10_59 (by decide) (mFg_20 _ _) ?_
  refine j_iload_n hC dX10_rainOf_11 rfl ?_
  refine m_ldI hC hM (by decide) dX10_rainOf_12 (ix_nI (n := 24) hk (by omega)) ?_
  refine j_i2l hC dX10_rainOf_13 ?_
  refine j_aload_n hC dX10_rainOf_14 rfl ?_
  refine m_get hC hM dX10_rainOf_15 fX10_68 (by decide) (mFg_23 _ _) ?_
  refine j_iload_n hC dX10_rainOf_18 rfl ?_
  refine m_ldI hC hM (by decide) dX10_rainOf_19 (hj) ?_
  refine j_i2l hC dX10_rainOf_20 ?_
  refine j_lmul hC dX10_rainOf_21 ?_
  refine j_sipush hC (1000) dX10_rainOf_22 (by decide) ?_
  refine j_aload_n hC dX10_rainOf_25 rfl ?_
  refine m_get hC hM dX10_rainOf_26 fX10_62 (by decide) (mFg_21 _ _) ?_
  refine j_iload_n hC dX10_rainOf_29 rfl ?_
  refine m_ldI hC hM (by decide) dX10_rainOf_30 (ix_nI (n := 24) hk (by omega)) ?_
  refine j_isub hC dX10_rainOf_31 ?_
  refine j_i2l hC dX10_rainOf_32 ?_
  refine j_lmul hC dX10_rainOf_33 ?_
  refine j_ladd hC dX10_rainOf_34 ?_
  refine m_stJ hC hM (by decide) dX10_rainOf_35 (ix_nI (n := 24) hk (by omega)) (fun w1 hM => ?_)
  refine j_aload_n hC dX10_rainOf_36 rfl ?_
  refine m_get hC hM dX10_rainOf_37 fX10_65 (by decide) (mFg_22 _ _) ?_
  refine j_iload_n hC dX10_rainOf_40 rfl ?_
  refine m_ldJ hC hM (by decide) dX10_rainOf_41 (ix_nI (n := 24) hk (by omega)) ?_
  refine j_ldc2 hC dX10_rainOf_42 nX10_172 ?_
  refine j_ldiv hC dX10_rainOf_45 (by decide) ?_
  refine j_lstore_n (lv' := [some _, some _, some _, some _, none]) hC dX10_rainOf_46 (nlt rfl) rfl ?_
  refine j_aload_n hC dX10_rainOf_47 rfl ?_
  refine m_get hC hM dX10_rainOf_48 fX10_65 (by decide) (mFg_22 _ _) ?_
  refine j_iload_n hC dX10_rainOf_51 rfl ?_
  refine j_dup2_11 hC dX10_rainOf_52 rfl rfl ?_
  refine m_ldJ hC hM (by decide) dX10_rainOf_53 (ix_nI (n := 24) hk (by omega)) ?_
  refine j_lload_n hC dX10_rainOf_54 rfl ?_
  refine j_ldc2 hC dX10_rainOf_55 nX10_172 ?_
  refine j_lmul hC dX10_rainOf_58 ?_
  refine j_lsub hC dX10_rainOf_59 ?_
  refine m_stJ hC hM (by decide) dX10_rainOf_60 (ix_nI (n := 24) hk (by omega)) (fun w2 hM => ?_)
  refine j_aload_n hC dX10_rainOf_61 rfl ?_
  refine m_get hC hM dX10_rainOf_62 fX10_22 (by decide) (mFg_6 _ _) ?_
  refine j_aload_n hC dX10_rainOf_65 rfl ?_
  refine m_get hC hM dX10_rainOf_66 fX10_56 (by decide) (mFg_19 _ _) ?_
  refine j_iload_n hC dX10_rainOf_69 rfl ?_
  refine m_ldI hC hM (by decide) dX10_rainOf_70 (ix_nI (n := 24) hk (by omega)) ?_
  refine j_dup2_11 hC dX10_rainOf_71 rfl rfl ?_
  refine m_ldJ hC hM (by decide) dX10_rainOf_72 (hn) ?_
  refine j_lload_n hC dX10_rainOf_73 rfl ?_
  refine j_ladd hC dX10_rainOf_74 ?_
  refine m_stJ hC hM (by decide) dX10_rainOf_75 (hn) (fun w3 hM => ?_)
  refine j_aload_n hC dX10_rainOf_76 rfl ?_
  refine j_dup hC dX10_rainOf_77 rfl ?_
  refine m_get hC hM dX10_rainOf_78 fX10_174 (by decide) (mFg_41 _ _) ?_
  refine j_lload_n hC dX10_rainOf_81 rfl ?_
  refine j_ladd hC dX10_rainOf_82 ?_
  refine m_putJ hC hM (by decide) dX10_rainOf_83 fX10_174 rfl (by decide) rfl rfl (mFs_41 _ _ _) (fun w4 hM => ?_)
  exact j_vret hC hR dX10_rainOf_86 rfl ⟨rfl, MB.cast hM (by simp [fRain, uJ_at, uJ_uJ, uJ_1, uJ_2n])⟩

set_option maxRecDepth 100000 in
set_option maxHeartbeats 4000000 in
theorem m_flowOf (K : Kx) {w : Wd} {m : Nat} {ad : Nat → Nat} {S : Ast} {k : Nat} (hA : MA K.2.1 w m ad S) (hk : k < 40) (hf : ix (S.1 11 k) 24 (S.1 11 k).toNatClampNeg) (ht : ix (S.1 12 k) 24 (S.1 12 k).toNatClampNeg) (hft : (S.1 12 k).toNatClampNeg ≠ (S.1 11 k).toNatClampNeg) (hB : ¬ wB S k = 0) : MT K mX10_flowOf 1 0 0 [.ref m, .int (nI k)] w (PV fun w' => MB K.2.1 w w' m ad (fFlow S k)) := by
  refine MT.of [some (.ref m), some (.int (nI k)), none, none, none, none, none, none, none, none] (by decide) rfl (nle rfl) rfl ?_
  intro E hC hR
  have hM := MB.rf hA
  refine j_aload_n hC dX10_flowOf_0 rfl ?_
  refine m_get hC hM dX10_flowOf_1 fX10_35 (by decide) (mFg_11 _ _) ?_
  refine j_iload_n hC dX10_flowOf_4 rfl ?_
  refine m_ldI hC hM (by decide) dX10_flowOf_5 (ix_nI (n := 40) hk (by omega)) ?_
  refine j_istore_n (lv' := [some _, some _, some _, none, none, none, none, none, none, none]) hC dX10_flowOf_6 (nlt rfl) rfl ?_
  refine j_aload_n hC dX10_flowOf_7 rfl ?_
  refine m_get hC hM dX10_flowOf_8 fX10_38 (by decide) (mFg_12 _ _) ?_
  refine j_iload_n hC dX10_flowOf_11 rfl ?_
  refine m_ldI hC hM (by decide) dX10_flowOf_12 (ix_nI (n := 40) hk (by omega)) ?_
  refine j_istore_n (lv' := [some _, some _, some _, some _, none, none, none, none, none, none]) hC dX10_flowOf_13 (nlt rfl) rfl ?_
  refine j_aload_n hC dX10_flowOf_14 rfl ?_
  refine m_get hC hM dX10_flowOf_15 fX10_47 (by decide) (mFg_15 _ _) ?_
  refine j_iload_n hC dX10_flowOf_18 rfl ?_
  refine j_dup2_11 hC dX10_flowOf_19 rfl rfl ?_
  refine m_ldJ hC hM (by decide) dX10_flowOf_20 (ix_nI (n := 40) hk (by omega)) ?_
  refine j_aload_n hC dX10_flowOf_21 rfl ?_
  refine m_get hC hM dX10_flowOf_22 fX10_44 (by decide) (mFg_14 _ _) ?_
  refine j_iload_n hC dX10_flowOf_25 rfl ?_
  refine m_ldI hC hM (by decide) dX10_flowOf_26 (ix_nI (n := 40) hk (by omega)) ?_
  refine j_i2l hC dX10_flowOf_27 ?_
  refine j_aload_n hC dX10_flowOf_28 rfl ?_
  refine m_get hC hM dX10_flowOf_29 fX10_44 (by decide) (mFg_14 _ _) ?_
  refine j_iload_n hC dX10_flowOf_32 rfl ?_
  refine m_ldI hC hM (by decide) dX10_flowOf_33 (ix_nI (n := 40) hk (by omega)) ?_
  refine j_i2l hC dX10_flowOf_34 ?_
  refine j_lmul hC dX10_flowOf_35 ?_
  refine j_aload_n hC dX10_flowOf_36 rfl ?_
  refine m_get hC hM dX10_flowOf_37 fX10_32 (by decide) (mFg_9 _ _) ?_
  refine j_iload_n hC dX10_flowOf_40 rfl ?_
  refine m_ldJ hC hM (by decide) dX10_flowOf_41 (hf) ?_
  refine j_aload_n hC dX10_flowOf_42 rfl ?_
  refine m_get hC hM dX10_flowOf_43 fX10_32 (by decide) (mFg_9 _ _) ?_
  refine j_iload_n hC dX10_flowOf_46 rfl ?_
  refine m_ldJ hC hM (by decide) dX10_flowOf_47 (ht) ?_
  refine j_lsub hC dX10_flowOf_48 ?_
  refine j_lmul hC dX10_flowOf_49 ?_
  refine j_ladd hC dX10_flowOf_50 ?_
  refine m_stJ hC hM (by decide) dX10_flowOf_51 (ix_nI (n := 40) hk (by omega)) (fun w1 hM => ?_)
  refine j_ldc2 hC dX10_flowOf_52 nX10_178 ?_
  refine j_aload_n hC dX10_flowOf_55 rfl ?_
  refine m_get hC hM dX10_flowOf_56 fX10_41 (by decide) (mFg_13 _ _) ?_
  refine j_iload_n hC dX10_flowOf_59 rfl ?_
  refine m_ldI hC hM (by decide) dX10_flowOf_60 (ix_nI (n := 40) hk (by omega)) ?_
  refine j_i2l hC dX10_flowOf_61 ?_
  refine j_lmul hC dX10_flowOf_62 ?_
  refine j_lstore (lv' := [some _, some _, some _, some _, some _, none, none, none, none, none]) hC dX10_flowOf_63 (nlt rfl) rfl ?_
  refine j_aload_n hC dX10_flowOf_65 rfl ?_
  refine m_get hC hM dX10_flowOf_66 fX10_47 (by decide) (mFg_15 _ _) ?_
  refine j_iload_n hC dX10_flowOf_69 rfl ?_
  refine m_ldJ hC hM (by decide) dX10_flowOf_70 (ix_nI (n := 40) hk (by omega)) ?_
  refine j_lload hC dX10_flowOf_71 rfl ?_
  refine j_ldiv hC dX10_flowOf_73 (hB) ?_
  refine J.toL (y := wR S k / wB S k) (by rw [uJ_at]; rfl) ?_
  refine j_lstore (lv' := [some _, some _, some _, some _, some _, none, some _, none, none, none]) hC dX10_flowOf_74 (nlt rfl) rfl ?_
  refine j_aload_n hC dX10_flowOf_76 rfl ?_
  refine m_get hC hM dX10_flowOf_77 fX10_47 (by decide) (mFg_15 _ _) ?_
  refine j_iload_n hC dX10_flowOf_80 rfl ?_
  refine j_dup2_11 hC dX10_flowOf_81 rfl rfl ?_
  refine m_ldJ hC hM (by decide) dX10_flowOf_82 (ix_nI (n := 40) hk (by omega)) ?_
  refine j_lload hC dX10_flowOf_83 rfl ?_
  refine j_lload hC dX10_flowOf_85 rfl ?_
  refine j_lmul hC dX10_flowOf_87 ?_
  refine j_lsub hC dX10_flowOf_88 ?_
  refine m_stJ hC hM (by decide) dX10_flowOf_89 (ix_nI (n := 40) hk (by omega)) (fun w2 hM => ?_)
  refine j_lload hC dX10_flowOf_90 rfl ?_
  refine j_lconst hC (0) dX10_flowOf_92 (by decide) ?_
  refine j_lcmp_lt hC 111 dX10_flowOf_93 dX10_flowOf_94 (by decide) (fun c_93 => ?_) (fun c_93 => ?_)
  · refine j_lload hC dX10_flowOf_111 rfl ?_
    refine j_lneg hC dX10_flowOf_113 ?_
    refine j_aload_n hC dX10_flowOf_114 rfl ?_
    refine m_get hC hM dX10_flowOf_115 fX10_22 (by decide) (mFg_6 _ _) ?_
    refine j_iload_n hC dX10_flowOf_118 rfl ?_
    refine m_ldJ hC hM (by decide) dX10_flowOf_119 (ht) ?_
    refine j_calls (kc' := 0) (ks' := 0) hC (m_less K (-(wR S k / wB S k)) (S.2 6 (S.1 12 k).toNatClampNeg)) dX10_flowOf_120 wX10_less lX10_180 t_yX10_less rfl rfl (nle rfl) rfl (by decide) (by decide) (by decide) (kL fun r w' hp => ?_)
    obtain ⟨rfl, hw⟩ := hp
    rw [hw]
    clear hw w'
    refine j_lneg hC dX10_flowOf_123 ?_
    refine J.toL (y := wM S k) (by first | exact (show wM S k = _ from if_neg c_93).symm | exact (show wM S k = _ from if_pos c_93).symm) ?_
    refine j_lstore (lv' := [some _, some _, some _, some _, some _, none, some _, none, some _, none]) hC dX10_flowOf_124 (nlt rfl) rfl ?_
    refine j_aload_n hC dX10_flowOf_126 rfl ?_
    refine m_get hC hM dX10_flowOf_127 fX10_22 (by decide) (mFg_6 _ _) ?_
    refine j_iload_n hC dX10_flowOf_130 rfl ?_
    refine j_dup2_11 hC dX10_flowOf_131 rfl rfl ?_
    refine m_ldJ hC hM (by decide) dX10_flowOf_132 (hf) ?_
    refine j_lload hC dX10_flowOf_133 rfl ?_
    refine j_lsub hC dX10_flowOf_135 ?_
    refine m_stJ hC hM (by decide) dX10_flowOf_136 (hf) (fun w3 hM => ?_)
    refine j_aload_n hC dX10_flowOf_137 rfl ?_
    refine m_get hC hM dX10_flowOf_138 fX10_22 (by decide) (mFg_6 _ _) ?_
    refine j_iload_n hC dX10_flowOf_141 rfl ?_
    refine j_dup2_11 hC dX10_flowOf_142 rfl rfl ?_
    refine m_ldJ hC hM (by decide) dX10_flowOf_143 (ht) ?_
    refine j_lload hC dX10_flowOf_144 rfl ?_
    refine j_ladd hC dX10_flowOf_146 ?_
    refine m_stJ hC hM (by decide) dX10_flowOf_147 (ht) (fun w4 hM => ?_)
    refine j_aload_n hC dX10_flowOf_148 rfl ?_
    refine m_get hC hM dX10_flowOf_149 fX10_50 (by decide) (mFg_16 _ _) ?_
    refine j_iload_n hC dX10_flowOf_152 rfl ?_
    refine j_lload hC dX10_flowOf_153 rfl ?_
    refine m_stJ hC hM (by decide) dX10_flowOf_155 (ix_nI (n := 40) hk (by omega)) (fun w5 hM => ?_)
    refine j_aload_n hC dX10_flowOf_156 rfl ?_
    refine m_get hC hM dX10_flowOf_157 fX10_53 (by decide) (mFg_17 _ _) ?_
    refine j_iload_n hC dX10_flowOf_160 rfl ?_
    refine j_dup2_11 hC dX10_flowOf_161 rfl rfl ?_
    refine m_ldJ hC hM (by decide) dX10_flowOf_162 (ix_nI (n := 40) hk (by omega)) ?_
    refine j_lload hC dX10_flowOf_163 rfl ?_
    refine j_ladd hC dX10_flowOf_165 ?_
    refine m_stJ hC hM (by decide) dX10_flowOf_166 (ix_nI (n := 40) hk (by omega)) (fun w6 hM => ?_)
    exact j_vret hC hR dX10_flowOf_167 rfl ⟨rfl, MB.cast hM (by simp [fFlow, uJ_at, uJ_uJ, uJ_1, uJ_2n, uJ_i hft, wR, wB])⟩
  · refine j_lload hC dX10_flowOf_97 rfl ?_
    refine j_aload_n hC dX10_flowOf_99 rfl ?_
    refine m_get hC hM dX10_flowOf_100 fX10_22 (by decide) (mFg_6 _ _) ?_
    refine j_iload_n hC dX10_flowOf_103 rfl ?_
    refine m_ldJ hC hM (by decide) dX10_flowOf_104 (hf) ?_
    refine j_calls (kc' := 0) (ks' := 0) hC (m_less K (wR S k / wB S k) (S.2 6 (S.1 11 k).toNatClampNeg)) dX10_flowOf_105 wX10_less lX10_180 t_yX10_less rfl rfl (nle rfl) rfl (by decide) (by decide) (by decide) (kL fun r w' hp => ?_)
    obtain ⟨rfl, hw⟩ := hp
    rw [hw]
    clear hw w'
    refine j_goto hC 124 dX10_flowOf_108 (by decide) ?_
    refine J.toL (y := wM S k) (by first | exact (show wM S k = _ from if_neg c_93).symm | exact (show wM S k = _ from if_pos c_93).symm) ?_
    refine j_lstore (lv' := [some _, some _, some _, some _, some _, none, some _, none, some _, none]) hC dX10_flowOf_124 (nlt rfl) rfl ?_
    refine j_aload_n hC dX10_flowOf_126 rfl ?_
    refine m_get hC hM dX10_flowOf_127 fX10_22 (by decide) (mFg_6 _ _) ?_
    refine j_iload_n hC dX10_flowOf_130 rfl ?_
    refine j_dup2_11 hC dX10_flowOf_131 rfl rfl ?_
    refine m_ldJ hC hM (by decide) dX10_flowOf_132 (hf) ?_
    refine j_lload hC dX10_flowOf_133 rfl ?_
    refine j_lsub hC dX10_flowOf_135 ?_
    refine m_stJ hC hM (by decide) dX10_flowOf_136 (hf) (fun w7 hM => ?_)
    refine j_aload_n hC dX10_flowOf_137 rfl ?_
    refine m_get hC hM dX10_flowOf_138 fX10_22 (by decide) (mFg_6 _ _) ?_
    refine j_iload_n hC dX10_flowOf_141 rfl ?_
    refine j_dup2_11 hC dX10_flowOf_142 rfl rfl ?_
    refine m_ldJ hC hM (by decide) dX10_flowOf_143 (ht) ?_
    refine j_lload hC dX10_flowOf_144 rfl ?_
    refine j_ladd hC dX10_flowOf_146 ?_
    refine m_stJ hC hM (by decide) dX10_flowOf_147 (ht) (fun w8 hM => ?_)
    refine j_aload_n hC dX10_flowOf_148 rfl ?_
    refine m_get hC hM dX10_flowOf_149 fX10_50 (by decide) (mFg_16 _ _) ?_
    refine j_iload_n hC dX10_flowOf_152 rfl ?_
    refine j_lload hC dX10_flowOf_153 rfl ?_
    refine m_stJ hC hM (by decide) dX10_flowOf_155 (ix_nI (n := 40) hk (by omega)) (fun w9 hM => ?_)
    refine j_aload_n hC dX10_flowOf_156 rfl ?_
    refine m_get hC hM dX10_flowOf_157 fX10_53 (by decide) (mFg_17 _ _) ?_
    refine j_iload_n hC dX10_flowOf_160 rfl ?_
    refine j_dup2_11 hC dX10_flowOf_161 rfl rfl ?_
    refine m_ldJ hC hM (by decide) dX10_flowOf_162 (ix_nI (n := 40) hk (by omega)) ?_
    refine j_lload hC dX10_flowOf_163 rfl ?_
    refine j_ladd hC dX10_flowOf_165 ?_
    refine m_stJ hC hM (by decide) dX10_flowOf_166 (ix_nI (n := 40) hk (by omega)) (fun w10 hM => ?_)
    exact j_vret hC hR dX10_flowOf_167 rfl ⟨rfl, MB.cast hM (by simp [fFlow, uJ_at, uJ_uJ, uJ_1, uJ_2n, uJ_i hft, wR, wB])⟩

set_option maxRecDepth 100000 in
set_option maxHeartbeats 4000000 in
theorem m_pumpOf (K : Kx) {w : Wd} {m : Nat} {ad : Nat → Nat} {S : Ast} {k : Nat} (hA : MA K.2.1 w m ad S) (hk : k < 8) (hn : ix (S.1 25 k) 24 (S.1 25 k).toNatClampNeg) (ht : ix (S.1 26 k) 24 (S.1 26 k).toNatClampNeg) (hnt : (S.1 26 k).toNatClampNeg ≠ (S.1 25 k).toNatClampNeg) (hro : ¬ (S.1 4 (S.1 25 k).toNatClampNeg).toInt64 = 0) : MT K mX10_pumpOf 1 0 0 [.ref m, .int (nI k)] w (PV fun w' => MB K.2.1 w w' m ad (fPump S k)) := by
  refine MT.of [some (.ref m), some (.int (nI k)), none, none, none, none] (by decide) rfl (nle rfl) rfl ?_
  intro E hC hR
  have hM := MB.rf hA
  refine j_aload_n hC dX10_pumpOf_0 rfl ?_
  refine j_aload_n hC dX10_pumpOf_1 rfl ?_
  refine m_get hC hM dX10_pumpOf_2 fX10_71 (by decide) (mFg_25 _ _) ?_
  refine j_iload_n hC dX10_pumpOf_5 rfl ?_
  refine m_ldI hC hM (by decide) dX10_pumpOf_6 (ix_nI (n := 8) hk (by omega)) ?_
  refine j_callv (kc' := 0) (ks' := 0) (r := (RX10, TX10, 59)) hC (m_levelOf K (S.1 25 k) hA hn hro) dX10_pumpOf_7 wX10_levelOf lX10_184 i_yX10_levelOf s_yX10_levelOf hM.1.1 rfl rfl rfl (nle rfl) rfl (by decide) (by decide) (by decide) (kL fun r w' hp => ?_)
  obtain ⟨rfl, hw⟩ := hp
  rw [hw]
  clear hw w'
  refine j_lstore_n (lv' := [some _, some _, some _, none, none, none]) hC dX10_pumpOf_10 (nlt rfl) rfl ?_
  refine j_lload_n hC dX10_pumpOf_11 rfl ?_
  refine j_aload_n hC dX10_pumpOf_12 rfl ?_
  refine m_get hC hM dX10_pumpOf_13 fX10_77 (by decide) (mFg_27 _ _) ?_
  refine j_iload_n hC dX10_pumpOf_16 rfl ?_
  refine m_ldI hC hM (by decide) dX10_pumpOf_17 (ix_nI (n := 8) hk (by omega)) ?_
  refine j_i2l hC dX10_pumpOf_18 ?_
  refine j_lcmp_lt hC 33 dX10_pumpOf_19 dX10_pumpOf_20 (by decide) (fun c_19 => ?_) (fun c_19 => ?_)
  · refine j_lload_n hC dX10_pumpOf_33 rfl ?_
    refine j_aload_n hC dX10_pumpOf_34 rfl ?_
    refine m_get hC hM dX10_pumpOf_35 fX10_80 (by decide) (mFg_28 _ _) ?_
    refine j_iload_n hC dX10_pumpOf_38 rfl ?_
    refine m_ldI hC hM (by decide) dX10_pumpOf_39 (ix_nI (n := 8) hk (by omega)) ?_
    refine j_i2l hC dX10_pumpOf_40 ?_
    refine j_lcmp_gt hC 52 dX10_pumpOf_41 dX10_pumpOf_42 (by decide) (fun c_41 => ?_) (fun c_41 => ?_)
    · have hM := MB.cast (T := uI S 30 k (uO S k)) hM (by first | (rw [show uO S k = 1 from if_neg c_19]; done) | (rw [show uO S k = S.1 30 k from (if_pos c_19).trans (if_pos c_41), uI_id]; done) | (rw [show uO S k = 0 from (if_pos c_19).trans (if_neg c_41)]; done))
      refine j_aload_n hC dX10_pumpOf_52 rfl ?_
      refine m_get hC hM dX10_pumpOf_53 fX10_86 (by decide) (mFg_30 _ _) ?_
      refine j_iload_n hC dX10_pumpOf_56 rfl ?_
      refine m_ldZ hC hM dX10_pumpOf_57 (ix_nI (n := 8) hk (by omega)) ?_
      refine J.toI (y := uO S k) uI_at ?_
      refine j_if_eq hC 85 dX10_pumpOf_58 (by decide) (fun c_58 => ?_) (fun c_58 => ?_)
      · refine j_lconst hC (0) dX10_pumpOf_85 (by decide) ?_
        refine J.toL (y := uG S k) (by first | exact (show uG S k = _ from if_neg c_58).symm | exact (show uG S k = _ from if_pos c_58).symm) ?_
        refine j_lstore (lv' := [some _, some _, some _, none, some _, none]) hC dX10_pumpOf_86 (nlt rfl) rfl ?_
        refine j_aload_n hC dX10_pumpOf_88 rfl ?_
        refine m_get hC hM dX10_pumpOf_89 fX10_22 (by decide) (mFg_6 _ _) ?_
        refine j_aload_n hC dX10_pumpOf_92 rfl ?_
        refine m_get hC hM dX10_pumpOf_93 fX10_71 (by decide) (mFg_25 _ _) ?_
        refine j_iload_n hC dX10_pumpOf_96 rfl ?_
        refine m_ldI hC hM (by decide) dX10_pumpOf_97 (ix_nI (n := 8) hk (by omega)) ?_
        refine j_dup2_11 hC dX10_pumpOf_98 rfl rfl ?_
        refine m_ldJ hC hM (by decide) dX10_pumpOf_99 (hn) ?_
        refine j_lload hC dX10_pumpOf_100 rfl ?_
        refine j_lsub hC dX10_pumpOf_102 ?_
        refine m_stJ hC hM (by decide) dX10_pumpOf_103 (hn) (fun w1 hM => ?_)
        refine j_aload_n hC dX10_pumpOf_104 rfl ?_
        refine m_get hC hM dX10_pumpOf_105 fX10_22 (by decide) (mFg_6 _ _) ?_
        refine j_aload_n hC dX10_pumpOf_108 rfl ?_
        refine m_get hC hM dX10_pumpOf_109 fX10_74 (by decide) (mFg_26 _ _) ?_
        refine j_iload_n hC dX10_pumpOf_112 rfl ?_
        refine m_ldI hC hM (by decide) dX10_pumpOf_113 (ix_nI (n := 8) hk (by omega)) ?_
        refine j_dup2_11 hC dX10_pumpOf_114 rfl rfl ?_
        refine m_ldJ hC hM (by decide) dX10_pumpOf_115 (ht) ?_
        refine j_lload hC dX10_pumpOf_116 rfl ?_
        refine j_ladd hC dX10_pumpOf_118 ?_
        refine m_stJ hC hM (by decide) dX10_pumpOf_119 (ht) (fun w2 hM => ?_)
        exact j_vret hC hR dX10_pumpOf_120 rfl ⟨rfl, MB.cast hM (by simp [fPump, uJ_1, uI_2, uJ_i hnt])⟩
      · refine j_aload_n hC dX10_pumpOf_61 rfl ?_
        refine m_get hC hM dX10_pumpOf_62 fX10_83 (by decide) (mFg_29 _ _) ?_
        refine j_iload_n hC dX10_pumpOf_65 rfl ?_
        refine m_ldI hC hM (by decide) dX10_pumpOf_66 (ix_nI (n := 8) hk (by omega)) ?_
        refine j_i2l hC dX10_pumpOf_67 ?_
        refine j_aload_n hC dX10_pumpOf_68 rfl ?_
        refine m_get hC hM dX10_pumpOf_69 fX10_22 (by decide) (mFg_6 _ _) ?_
        refine j_aload_n hC dX10_pumpOf_72 rfl ?_
        refine m_get hC hM dX10_pumpOf_73 fX10_71 (by decide) (mFg_25 _ _) ?_
        refine j_iload_n hC dX10_pumpOf_76 rfl ?_
        refine m_ldI hC hM (by decide) dX10_pumpOf_77 (ix_nI (n := 8) hk (by omega)) ?_
        refine m_ldJ hC hM (by decide) dX10_pumpOf_78 (hn) ?_
        refine j_calls (kc' := 0) (ks' := 0) hC (m_less K (S.1 29 k).toInt64 (S.2 6 (S.1 25 k).toNatClampNeg)) dX10_pumpOf_79 wX10_less lX10_180 t_yX10_less rfl rfl (nle rfl) rfl (by decide) (by decide) (by decide) (kL fun r w' hp => ?_)
        obtain ⟨rfl, hw⟩ := hp
        rw [hw]
        clear hw w'
        refine j_goto hC 86 dX10_pumpOf_82 (by decide) ?_
        refine J.toL (y := uG S k) (by first | exact (show uG S k = _ from if_neg c_58).symm | exact (show uG S k = _ from if_pos c_58).symm) ?_
        refine j_lstore (lv' := [some _, some _, some _, none, some _, none]) hC dX10_pumpOf_86 (nlt rfl) rfl ?_
        refine j_aload_n hC dX10_pumpOf_88 rfl ?_
        refine m_get hC hM dX10_pumpOf_89 fX10_22 (by decide) (mFg_6 _ _) ?_
        refine j_aload_n hC dX10_pumpOf_92 rfl ?_
        refine m_get hC hM dX10_pumpOf_93 fX10_71 (by decide) (mFg_25 _ _) ?_
        refine j_iload_n hC dX10_pumpOf_96 rfl ?_
        refine m_ldI hC hM (by decide) dX10_pumpOf_97 (ix_nI (n := 8) hk (by omega)) ?_
        refine j_dup2_11 hC dX10_pumpOf_98 rfl rfl ?_
        refine m_ldJ hC hM (by decide) dX10_pumpOf_99 (hn) ?_
        refine j_lload hC dX10_pumpOf_100 rfl ?_
        refine j_lsub hC dX10_pumpOf_102 ?_
        refine m_stJ hC hM (by decide) dX10_pumpOf_103 (hn) (fun w3 hM => ?_)
        refine j_aload_n hC dX10_pumpOf_104 rfl ?_
        refine m_get hC hM dX10_pumpOf_105 fX10_22 (by decide) (mFg_6 _ _) ?_
        refine j_aload_n hC dX10_pumpOf_108 rfl ?_
        refine m_get hC hM dX10_pumpOf_109 fX10_74 (by decide) (mFg_26 _ _) ?_
        refine j_iload_n hC dX10_pumpOf_112 rfl ?_
        refine m_ldI hC hM (by decide) dX10_pumpOf_113 (ix_nI (n := 8) hk (by omega)) ?_
        refine j_dup2_11 hC dX10_pumpOf_114 rfl rfl ?_
        refine m_ldJ hC hM (by decide) dX10_pumpOf_115 (ht) ?_
        refine j_lload hC dX10_pumpOf_116 rfl ?_
        refine j_ladd hC dX10_pumpOf_118 ?_
        refine m_stJ hC hM (by decide) dX10_pumpOf_119 (ht) (fun w4 hM => ?_)
        exact j_vret hC hR dX10_pumpOf_120 rfl ⟨rfl, MB.cast hM (by simp [fPump, uJ_1, uI_2, uJ_i hnt])⟩
    · refine j_aload_n hC dX10_pumpOf_45 rfl ?_
      refine m_get hC hM dX10_pumpOf_46 fX10_86 (by decide) (mFg_30 _ _) ?_
      refine j_iload_n hC dX10_pumpOf_49 rfl ?_
      refine j_iconst hC (0) dX10_pumpOf_50 (by decide) ?_
      refine m_stZ hC hM dX10_pumpOf_51 (ix_nI (n := 8) hk (by omega)) (by decide) (fun w5 hM => ?_)
      have hM := MB.cast (T := uI S 30 k (uO S k)) hM (by first | (rw [show uO S k = 1 from if_neg c_19]; done) | (rw [show uO S k = S.1 30 k from (if_pos c_19).trans (if_pos c_41), uI_id]; done) | (rw [show uO S k = 0 from (if_pos c_19).trans (if_neg c_41)]; done))
      refine j_aload_n hC dX10_pumpOf_52 rfl ?_
      refine m_get hC hM dX10_pumpOf_53 fX10_86 (by decide) (mFg_30 _ _) ?_
      refine j_iload_n hC dX10_pumpOf_56 rfl ?_
      refine m_ldZ hC hM dX10_pumpOf_57 (ix_nI (n := 8) hk (by omega)) ?_
      refine J.toI (y := uO S k) uI_at ?_
      refine j_if_eq hC 85 dX10_pumpOf_58 (by decide) (fun c_58 => ?_) (fun c_58 => ?_)
      · refine j_lconst hC (0) dX10_pumpOf_85 (by decide) ?_
        refine J.toL (y := uG S k) (by first | exact (show uG S k = _ from if_neg c_58).symm | exact (show uG S k = _ from if_pos c_58).symm) ?_
        refine j_lstore (lv' := [some _, some _, some _, none, some _, none]) hC dX10_pumpOf_86 (nlt rfl) rfl ?_
        refine j_aload_n hC dX10_pumpOf_88 rfl ?_
        refine m_get hC hM dX10_pumpOf_89 fX10_22 (by decide) (mFg_6 _ _) ?_
        refine j_aload_n hC dX10_pumpOf_92 rfl ?_
        refine m_get hC hM dX10_pumpOf_93 fX10_71 (by decide) (mFg_25 _ _) ?_
        refine j_iload_n hC dX10_pumpOf_96 rfl ?_
        refine m_ldI hC hM (by decide) dX10_pumpOf_97 (ix_nI (n := 8) hk (by omega)) ?_
        refine j_dup2_11 hC dX10_pumpOf_98 rfl rfl ?_
        refine m_ldJ hC hM (by decide) dX10_pumpOf_99 (hn) ?_
        refine j_lload hC dX10_pumpOf_100 rfl ?_
        refine j_lsub hC dX10_pumpOf_102 ?_
        refine m_stJ hC hM (by decide) dX10_pumpOf_103 (hn) (fun w6 hM => ?_)
        refine j_aload_n hC dX10_pumpOf_104 rfl ?_
        refine m_get hC hM dX10_pumpOf_105 fX10_22 (by decide) (mFg_6 _ _) ?_
        refine j_aload_n hC dX10_pumpOf_108 rfl ?_
        refine m_get hC hM dX10_pumpOf_109 fX10_74 (by decide) (mFg_26 _ _) ?_
        refine j_iload_n hC dX10_pumpOf_112 rfl ?_
        refine m_ldI hC hM (by decide) dX10_pumpOf_113 (ix_nI (n := 8) hk (by omega)) ?_
        refine j_dup2_11 hC dX10_pumpOf_114 rfl rfl ?_
        refine m_ldJ hC hM (by decide) dX10_pumpOf_115 (ht) ?_
        refine j_lload hC dX10_pumpOf_116 rfl ?_
        refine j_ladd hC dX10_pumpOf_118 ?_
        refine m_stJ hC hM (by decide) dX10_pumpOf_119 (ht) (fun w7 hM => ?_)
        exact j_vret hC hR dX10_pumpOf_120 rfl ⟨rfl, MB.cast hM (by simp [fPump, uJ_1, uI_2, uJ_i hnt])⟩
      · refine j_aload_n hC dX10_pumpOf_61 rfl ?_
        refine m_get hC hM dX10_pumpOf_62 fX10_83 (by decide) (mFg_29 _ _) ?_
        refine j_iload_n hC dX10_pumpOf_65 rfl ?_
        refine m_ldI hC hM (by decide) dX10_pumpOf_66 (ix_nI (n := 8) hk (by omega)) ?_
        refine j_i2l hC dX10_pumpOf_67 ?_
        refine j_aload_n hC dX10_pumpOf_68 rfl ?_
        refine m_get hC hM dX10_pumpOf_69 fX10_22 (by decide) (mFg_6 _ _) ?_
        refine j_aload_n hC dX10_pumpOf_72 rfl ?_
        refine m_get hC hM dX10_pumpOf_73 fX10_71 (by decide) (mFg_25 _ _) ?_
        refine j_iload_n hC dX10_pumpOf_76 rfl ?_
        refine m_ldI hC hM (by decide) dX10_pumpOf_77 (ix_nI (n := 8) hk (by omega)) ?_
        refine m_ldJ hC hM (by decide) dX10_pumpOf_78 (hn) ?_
        refine j_calls (kc' := 0) (ks' := 0) hC (m_less K (S.1 29 k).toInt64 (S.2 6 (S.1 25 k).toNatClampNeg)) dX10_pumpOf_79 wX10_less lX10_180 t_yX10_less rfl rfl (nle rfl) rfl (by decide) (by decide) (by decide) (kL fun r w' hp => ?_)
        obtain ⟨rfl, hw⟩ := hp
        rw [hw]
        clear hw w'
        refine j_goto hC 86 dX10_pumpOf_82 (by decide) ?_
        refine J.toL (y := uG S k) (by first | exact (show uG S k = _ from if_neg c_58).symm | exact (show uG S k = _ from if_pos c_58).symm) ?_
        refine j_lstore (lv' := [some _, some _, some _, none, some _, none]) hC dX10_pumpOf_86 (nlt rfl) rfl ?_
        refine j_aload_n hC dX10_pumpOf_88 rfl ?_
        refine m_get hC hM dX10_pumpOf_89 fX10_22 (by decide) (mFg_6 _ _) ?_
        refine j_aload_n hC dX10_pumpOf_92 rfl ?_
        refine m_get hC hM dX10_pumpOf_93 fX10_71 (by decide) (mFg_25 _ _) ?_
        refine j_iload_n hC dX10_pumpOf_96 rfl ?_
        refine m_ldI hC hM (by decide) dX10_pumpOf_97 (ix_nI (n := 8) hk (by omega)) ?_
        refine j_dup2_11 hC dX10_pumpOf_98 rfl rfl ?_
        refine m_ldJ hC hM (by decide) dX10_pumpOf_99 (hn) ?_
        refine j_lload hC dX10_pumpOf_100 rfl ?_
        refine j_lsub hC dX10_pumpOf_102 ?_
        refine m_stJ hC hM (by decide) dX10_pumpOf_103 (hn) (fun w8 hM => ?_)
        refine j_aload_n hC dX10_pumpOf_104 rfl ?_
        refine m_get hC hM dX10_pumpOf_105 fX10_22 (by decide) (mFg_6 _ _) ?_
        refine j_aload_n hC dX10_pumpOf_108 rfl ?_
        refine m_get hC hM dX10_pumpOf_109 fX10_74 (by decide) (mFg_26 _ _) ?_
        refine j_iload_n hC dX10_pumpOf_112 rfl ?_
        refine m_ldI hC hM (by decide) dX10_pumpOf_113 (ix_nI (n := 8) hk (by omega)) ?_
        refine j_dup2_11 hC dX10_pumpOf_114 rfl rfl ?_
        refine m_ldJ hC hM (by decide) dX10_pumpOf_115 (ht) ?_
        refine j_lload hC dX10_pumpOf_116 rfl ?_
        refine j_ladd hC dX10_pumpOf_118 ?_
        refine m_stJ hC hM (by decide) dX10_pumpOf_119 (ht) (fun w9 hM => ?_)
        exact j_vret hC hR dX10_pumpOf_120 rfl ⟨rfl, MB.cast hM (by simp [fPump, uJ_1, uI_2, uJ_i hnt])⟩
  · refine j_aload_n hC dX10_pumpOf_23 rfl ?_
    refine m_get hC hM dX10_pumpOf_24 fX10_86 (by decide) (mFg_30 _ _) ?_
    refine j_iload_n hC dX10_pumpOf_27 rfl ?_
    refine j_iconst hC (1) dX10_pumpOf_28 (by decide) ?_
    refine m_stZ hC hM dX10_pumpOf_29 (ix_nI (n := 8) hk (by omega)) (by decide) (fun w10 hM => ?_)
    refine j_goto hC 52 dX10_pumpOf_30 (by decide) ?_
    have hM := MB.cast (T := uI S 30 k (uO S k)) hM (by first | (rw [show uO S k = 1 from if_neg c_19]; done) | (rw [show uO S k = S.1 30 k from (if_pos c_19).trans (if_pos c_41), uI_id]; done) | (rw [show uO S k = 0 from (if_pos c_19).trans (if_neg c_41)]; done))
    refine j_aload_n hC dX10_pumpOf_52 rfl ?_
    refine m_get hC hM dX10_pumpOf_53 fX10_86 (by decide) (mFg_30 _ _) ?_
    refine j_iload_n hC dX10_pumpOf_56 rfl ?_
    refine m_ldZ hC hM dX10_pumpOf_57 (ix_nI (n := 8) hk (by omega)) ?_
    refine J.toI (y := uO S k) uI_at ?_
    refine j_if_eq hC 85 dX10_pumpOf_58 (by decide) (fun c_58 => ?_) (fun c_58 => ?_)
    · refine j_lconst hC (0) dX10_pumpOf_85 (by decide) ?_
      refine J.toL (y := uG S k) (by first | exact (show uG S k = _ from if_neg c_58).symm | exact (show uG S k = _ from if_pos c_58).symm) ?_
      refine j_lstore (lv' := [some _, some _, some _, none, some _, none]) hC dX10_pumpOf_86 (nlt rfl) rfl ?_
      refine j_aload_n hC dX10_pumpOf_88 rfl ?_
      refine m_get hC hM dX10_pumpOf_89 fX10_22 (by decide) (mFg_6 _ _) ?_
      refine j_aload_n hC dX10_pumpOf_92 rfl ?_
      refine m_get hC hM dX10_pumpOf_93 fX10_71 (by decide) (mFg_25 _ _) ?_
      refine j_iload_n hC dX10_pumpOf_96 rfl ?_
      refine m_ldI hC hM (by decide) dX10_pumpOf_97 (ix_nI (n := 8) hk (by omega)) ?_
      refine j_dup2_11 hC dX10_pumpOf_98 rfl rfl ?_
      refine m_ldJ hC hM (by decide) dX10_pumpOf_99 (hn) ?_
      refine j_lload hC dX10_pumpOf_100 rfl ?_
      refine j_lsub hC dX10_pumpOf_102 ?_
      refine m_stJ hC hM (by decide) dX10_pumpOf_103 (hn) (fun w11 hM => ?_)
      refine j_aload_n hC dX10_pumpOf_104 rfl ?_
      refine m_get hC hM dX10_pumpOf_105 fX10_22 (by decide) (mFg_6 _ _) ?_
      refine j_aload_n hC dX10_pumpOf_108 rfl ?_
      refine m_get hC hM dX10_pumpOf_109 fX10_74 (by decide) (mFg_26 _ _) ?_
      refine j_iload_n hC dX10_pumpOf_112 rfl ?_
      refine m_ldI hC hM (by decide) dX10_pumpOf_113 (ix_nI (n := 8) hk (by omega)) ?_
      refine j_dup2_11 hC dX10_pumpOf_114 rfl rfl ?_
      refine m_ldJ hC hM (by decide) dX10_pumpOf_115 (ht) ?_
      refine j_lload hC dX10_pumpOf_116 rfl ?_
      refine j_ladd hC dX10_pumpOf_118 ?_
      refine m_stJ hC hM (by decide) dX10_pumpOf_119 (ht) (fun w12 hM => ?_)
      exact j_vret hC hR dX10_pumpOf_120 rfl ⟨rfl, MB.cast hM (by simp [fPump, uJ_1, uI_2, uJ_i hnt])⟩
    · refine j_aload_n hC dX10_pumpOf_61 rfl ?_
      refine m_get hC hM dX10_pumpOf_62 fX10_83 (by decide) (mFg_29 _ _) ?_
      refine j_iload_n hC dX10_pumpOf_65 rfl ?_
      refine m_ldI hC hM (by decide) dX10_pumpOf_66 (ix_nI (n := 8) hk (by omega)) ?_
      refine j_i2l hC dX10_pumpOf_67 ?_
      refine j_aload_n hC dX10_pumpOf_68 rfl ?_
      refine m_get hC hM dX10_pumpOf_69 fX10_22 (by decide) (mFg_6 _ _) ?_
      refine j_aload_n hC dX10_pumpOf_72 rfl ?_
      refine m_get hC hM dX10_pumpOf_73 fX10_71 (by decide) (mFg_25 _ _) ?_
      refine j_iload_n hC dX10_pumpOf_76 rfl ?_
      refine m_ldI hC hM (by decide) dX10_pumpOf_77 (ix_nI (n := 8) hk (by omega)) ?_
      refine m_ldJ hC hM (by decide) dX10_pumpOf_78 (hn) ?_
      refine j_calls (kc' := 0) (ks' := 0) hC (m_less K (S.1 29 k).toInt64 (S.2 6 (S.1 25 k).toNatClampNeg)) dX10_pumpOf_79 wX10_less lX10_180 t_yX10_less rfl rfl (nle rfl) rfl (by decide) (by decide) (by decide) (kL fun r w' hp => ?_)
      obtain ⟨rfl, hw⟩ := hp
      rw [hw]
      clear hw w'
      refine j_goto hC 86 dX10_pumpOf_82 (by decide) ?_
      refine J.toL (y := uG S k) (by first | exact (show uG S k = _ from if_neg c_58).symm | exact (show uG S k = _ from if_pos c_58).symm) ?_
      refine j_lstore (lv' := [some _, some _, some _, none, some _, none]) hC dX10_pumpOf_86 (nlt rfl) rfl ?_
      refine j_aload_n hC dX10_pumpOf_88 rfl ?_
      refine m_get hC hM dX10_pumpOf_89 fX10_22 (by decide) (mFg_6 _ _) ?_
      refine j_aload_n hC dX10_pumpOf_92 rfl ?_
      refine m_get hC hM dX10_pumpOf_93 fX10_71 (by decide) (mFg_25 _ _) ?_
      refine j_iload_n hC dX10_pumpOf_96 rfl ?_
      refine m_ldI hC hM (by decide) dX10_pumpOf_97 (ix_nI (n := 8) hk (by omega)) ?_
      refine j_dup2_11 hC dX10_pumpOf_98 rfl rfl ?_
      refine m_ldJ hC hM (by decide) dX10_pumpOf_99 (hn) ?_
      refine j_lload hC dX10_pumpOf_100 rfl ?_
      refine j_lsub hC dX10_pumpOf_102 ?_
      refine m_stJ hC hM (by decide) dX10_pumpOf_103 (hn) (fun w13 hM => ?_)
      refine j_aload_n hC dX10_pumpOf_104 rfl ?_
      refine m_get hC hM dX10_pumpOf_105 fX10_22 (by decide) (mFg_6 _ _) ?_
      refine j_aload_n hC dX10_pumpOf_108 rfl ?_
      refine m_get hC hM dX10_pumpOf_109 fX10_74 (by decide) (mFg_26 _ _) ?_
      refine j_iload_n hC dX10_pumpOf_112 rfl ?_
      refine m_ldI hC hM (by decide) dX10_pumpOf_113 (ix_nI (n := 8) hk (by omega)) ?_
      refine j_dup2_11 hC dX10_pumpOf_114 rfl rfl ?_
      refine m_ldJ hC hM (by decide) dX10_pumpOf_115 (ht) ?_
      refine j_lload hC dX10_pumpOf_116 rfl ?_
      refine j_ladd hC dX10_pumpOf_118 ?_
      refine m_stJ hC hM (by decide) dX10_pumpOf_119 (ht) (fun w14 hM => ?_)
      exact j_vret hC hR dX10_pumpOf_120 rfl ⟨rfl, MB.cast hM (by simp [fPump, uJ_1, uI_2, uJ_i hnt])⟩

set_option maxRecDepth 100000 in
set_option maxHeartbeats 4000000 in
theorem m_gateOf (K : Kx) {w : Wd} {m : Nat} {ad : Nat → Nat} {S : Ast} {k : Nat} (hA : MA K.2.1 w m ad S) (hk : k < 8) (hn : ix (S.1 32 k) 24 (S.1 32 k).toNatClampNeg) (hr : 0 < (S.1 34 k).toInt64) : MT K mX10_gateOf 1 0 0 [.ref m, .int (nI k)] w (PV fun w' => MB K.2.1 w w' m ad (fGate S k)) := by
  refine MT.of [some (.ref m), some (.int (nI k)), none, none, none, none, none] (by decide) rfl (nle rfl) rfl ?_
  intro E hC hR
  have hM := MB.rf hA
  refine j_aload_n hC dX10_gateOf_0 rfl ?_
  refine m_get hC hM dX10_gateOf_1 fX10_90 (by decide) (mFg_32 _ _) ?_
  refine j_iload_n hC dX10_gateOf_4 rfl ?_
  refine m_ldI hC hM (by decide) dX10_gateOf_5 (ix_nI (n := 8) hk (by omega)) ?_
  refine j_istore_n (lv' := [some _, some _, some _, none, none, none, none]) hC dX10_gateOf_6 (nlt rfl) rfl ?_
  refine j_aload_n hC dX10_gateOf_7 rfl ?_
  refine m_get hC hM dX10_gateOf_8 fX10_22 (by decide) (mFg_6 _ _) ?_
  refine j_iload_n hC dX10_gateOf_11 rfl ?_
  refine m_ldJ hC hM (by decide) dX10_gateOf_12 (hn) ?_
  refine j_aload_n hC dX10_gateOf_13 rfl ?_
  refine m_get hC hM dX10_gateOf_14 fX10_93 (by decide) (mFg_33 _ _) ?_
  refine j_iload_n hC dX10_gateOf_17 rfl ?_
  refine m_ldI hC hM (by decide) dX10_gateOf_18 (ix_nI (n := 8) hk (by omega)) ?_
  refine j_i2l hC dX10_gateOf_19 ?_
  refine j_aload_n hC dX10_gateOf_20 rfl ?_
  refine m_get hC hM dX10_gateOf_21 fX10_16 (by decide) (mFg_4 _ _) ?_
  refine j_iload_n hC dX10_gateOf_24 rfl ?_
  refine m_ldI hC hM (by decide) dX10_gateOf_25 (hn) ?_
  refine j_i2l hC dX10_gateOf_26 ?_
  refine j_lmul hC dX10_gateOf_27 ?_
  refine j_lsub hC dX10_gateOf_28 ?_
  refine j_lstore_n (lv' := [some _, some _, some _, some _, none, none, none]) hC dX10_gateOf_29 (nlt rfl) rfl ?_
  refine j_lload_n hC dX10_gateOf_30 rfl ?_
  refine j_lconst hC (0) dX10_gateOf_31 (by decide) ?_
  refine j_lcmp_le hC 50 dX10_gateOf_32 dX10_gateOf_33 (by decide) (fun c_32 => ?_) (fun c_32 => ?_)
  · refine j_lconst hC (0) dX10_gateOf_50 (by decide) ?_
    refine J.toL (y := gG S k) (by first | exact (show gG S k = _ from gOut_1 c_32 hr).symm | exact (show gG S k = _ from gOut_0 c_32 hr).symm) ?_
    refine j_lstore (lv' := [some _, some _, some _, some _, none, some _, none]) hC dX10_gateOf_51 (nlt rfl) rfl ?_
    refine j_aload_n hC dX10_gateOf_53 rfl ?_
    refine m_get hC hM dX10_gateOf_54 fX10_22 (by decide) (mFg_6 _ _) ?_
    refine j_iload_n hC dX10_gateOf_57 rfl ?_
    refine j_dup2_11 hC dX10_gateOf_58 rfl rfl ?_
    refine m_ldJ hC hM (by decide) dX10_gateOf_59 (hn) ?_
    refine j_lload hC dX10_gateOf_60 rfl ?_
    refine j_lsub hC dX10_gateOf_62 ?_
    refine m_stJ hC hM (by decide) dX10_gateOf_63 (hn) (fun w1 hM => ?_)
    refine j_aload_n hC dX10_gateOf_64 rfl ?_
    refine m_get hC hM dX10_gateOf_65 fX10_29 (by decide) (mFg_8 _ _) ?_
    refine j_iload_n hC dX10_gateOf_68 rfl ?_
    refine j_dup2_11 hC dX10_gateOf_69 rfl rfl ?_
    refine m_ldJ hC hM (by decide) dX10_gateOf_70 (hn) ?_
    refine j_lload hC dX10_gateOf_71 rfl ?_
    refine j_ladd hC dX10_gateOf_73 ?_
    refine m_stJ hC hM (by decide) dX10_gateOf_74 (hn) (fun w2 hM => ?_)
    refine j_aload_n hC dX10_gateOf_75 rfl ?_
    refine j_dup hC dX10_gateOf_76 rfl ?_
    refine m_get hC hM dX10_gateOf_77 fX10_188 (by decide) (mFg_42 _ _) ?_
    refine j_lload hC dX10_gateOf_80 rfl ?_
    refine j_ladd hC dX10_gateOf_82 ?_
    refine m_putJ hC hM (by decide) dX10_gateOf_83 fX10_188 rfl (by decide) rfl rfl (mFs_42 _ _ _) (fun w3 hM => ?_)
    exact j_vret hC hR dX10_gateOf_86 rfl ⟨rfl, MB.cast hM (by simp [fGate, uJ_1, uJ_2n])⟩
  · refine j_lload_n hC dX10_gateOf_36 rfl ?_
    refine j_aload_n hC dX10_gateOf_37 rfl ?_
    refine m_get hC hM dX10_gateOf_38 fX10_96 (by decide) (mFg_34 _ _) ?_
    refine j_iload_n hC dX10_gateOf_41 rfl ?_
    refine m_ldI hC hM (by decide) dX10_gateOf_42 (ix_nI (n := 8) hk (by omega)) ?_
    refine j_i2l hC dX10_gateOf_43 ?_
    refine j_calls (kc' := 0) (ks' := 0) hC (m_less K (S.2 6 (S.1 32 k).toNatClampNeg - (S.1 33 k).toInt64 * (S.1 4 (S.1 32 k).toNatClampNeg).toInt64) (S.1 34 k).toInt64) dX10_gateOf_44 wX10_less lX10_180 t_yX10_less rfl rfl (nle rfl) rfl (by decide) (by decide) (by decide) (kL fun r w' hp => ?_)
    obtain ⟨rfl, hw⟩ := hp
    rw [hw]
    clear hw w'
    refine j_goto hC 51 dX10_gateOf_47 (by decide) ?_
    refine J.toL (y := gG S k) (by first | exact (show gG S k = _ from gOut_1 c_32 hr).symm | exact (show gG S k = _ from gOut_0 c_32 hr).symm) ?_
    refine j_lstore (lv' := [some _, some _, some _, some _, none, some _, none]) hC dX10_gateOf_51 (nlt rfl) rfl ?_
    refine j_aload_n hC dX10_gateOf_53 rfl ?_
    refine m_get hC hM dX10_gateOf_54 fX10_22 (by decide) (mFg_6 _ _) ?_
    refine j_iload_n hC dX10_gateOf_57 rfl ?_
    refine j_dup2_11 hC dX10_gateOf_58 rfl rfl ?_
    refine m_ldJ hC hM (by decide) dX10_gateOf_59 (hn) ?_
    refine j_lload hC dX10_gateOf_60 rfl ?_
    refine j_lsub hC dX10_gateOf_62 ?_
    refine m_stJ hC hM (by decide) dX10_gateOf_63 (hn) (fun w4 hM => ?_)
    refine j_aload_n hC dX10_gateOf_64 rfl ?_
    refine m_get hC hM dX10_gateOf_65 fX10_29 (by decide) (mFg_8 _ _) ?_
    refine j_iload_n hC dX10_gateOf_68 rfl ?_
    refine j_dup2_11 hC dX10_gateOf_69 rfl rfl ?_
    refine m_ldJ hC hM (by decide) dX10_gateOf_70 (hn) ?_
    refine j_lload hC dX10_gateOf_71 rfl ?_
    refine j_ladd hC dX10_gateOf_73 ?_
    refine m_stJ hC hM (by decide) dX10_gateOf_74 (hn) (fun w5 hM => ?_)
    refine j_aload_n hC dX10_gateOf_75 rfl ?_
    refine j_dup hC dX10_gateOf_76 rfl ?_
    refine m_get hC hM dX10_gateOf_77 fX10_188 (by decide) (mFg_42 _ _) ?_
    refine j_lload hC dX10_gateOf_80 rfl ?_
    refine j_ladd hC dX10_gateOf_82 ?_
    refine m_putJ hC hM (by decide) dX10_gateOf_83 fX10_188 rfl (by decide) rfl rfl (mFs_42 _ _ _) (fun w6 hM => ?_)
    exact j_vret hC hR dX10_gateOf_86 rfl ⟨rfl, MB.cast hM (by simp [fGate, uJ_1, uJ_2n])⟩

set_option maxRecDepth 100000 in
set_option maxHeartbeats 4000000 in
theorem m_gullyOf (K : Kx) {w : Wd} {m : Nat} {ad : Nat → Nat} {S : Ast} {k : Nat} (hA : MA K.2.1 w m ad S) (hk : k < 8) (hn : ix (S.1 37 k) 24 (S.1 37 k).toNatClampNeg) (hc : ix (S.1 36 k) 8 (S.1 36 k).toNatClampNeg) (hr : 0 ≤ (S.1 38 k).toInt64) (hh : 0 ≤ S.2 39 (S.1 36 k).toNatClampNeg) : MT K mX10_gullyOf 1 0 0 [.ref m, .int (nI k)] w (PV fun w' => MB K.2.1 w w' m ad (fGully S k)) := by
  refine MT.of [some (.ref m), some (.int (nI k)), none, none, none, none, none] (by decide) rfl (nle rfl) rfl ?_
  intro E hC hR
  have hM := MB.rf hA
  refine j_aload_n hC dX10_gullyOf_0 rfl ?_
  refine m_get hC hM dX10_gullyOf_1 fX10_102 (by decide) (mFg_37 _ _) ?_
  refine j_iload_n hC dX10_gullyOf_4 rfl ?_
  refine m_ldI hC hM (by decide) dX10_gullyOf_5 (ix_nI (n := 8) hk (by omega)) ?_
  refine j_istore_n (lv' := [some _, some _, some _, none, none, none, none]) hC dX10_gullyOf_6 (nlt rfl) rfl ?_
  refine j_aload_n hC dX10_gullyOf_7 rfl ?_
  refine j_iload_n hC dX10_gullyOf_8 rfl ?_
  refine j_callv (kc' := 0) (ks' := 0) (r := (RX10, TX10, 59)) hC (m_fullOf K (S.1 37 k) hA hn) dX10_gullyOf_9 wX10_fullOf lX10_191 i_yX10_fullOf s_yX10_fullOf hM.1.1 rfl rfl rfl (nle rfl) rfl (by decide) (by decide) (by decide) (kL fun r w' hp => ?_)
  obtain ⟨rfl, hw⟩ := hp
  rw [hw]
  clear hw w'
  refine j_aload_n hC dX10_gullyOf_12 rfl ?_
  refine m_get hC hM dX10_gullyOf_13 fX10_22 (by decide) (mFg_6 _ _) ?_
  refine j_iload_n hC dX10_gullyOf_16 rfl ?_
  refine m_ldJ hC hM (by decide) dX10_gullyOf_17 (hn) ?_
  refine j_lsub hC dX10_gullyOf_18 ?_
  refine j_lstore_n (lv' := [some _, some _, some _, some _, none, none, none]) hC dX10_gullyOf_19 (nlt rfl) rfl ?_
  refine j_lload_n hC dX10_gullyOf_20 rfl ?_
  refine j_lconst hC (0) dX10_gullyOf_21 (by decide) ?_
  refine j_lcmp_le hC 54 dX10_gullyOf_22 dX10_gullyOf_23 (by decide) (fun c_22 => ?_) (fun c_22 => ?_)
  · refine j_lconst hC (0) dX10_gullyOf_54 (by decide) ?_
    refine J.toL (y := lG S k) (by first | exact (show lG S k = _ from gTake_1 c_22).symm | exact (show lG S k = _ from gTake_0 c_22 hr hh).symm) ?_
    refine j_lstore (lv' := [some _, some _, some _, some _, none, some _, none]) hC dX10_gullyOf_55 (nlt rfl) rfl ?_
    refine j_aload_n hC dX10_gullyOf_57 rfl ?_
    refine m_get hC hM dX10_gullyOf_58 fX10_108 (by decide) (mFg_39 _ _) ?_
    refine j_aload_n hC dX10_gullyOf_61 rfl ?_
    refine m_get hC hM dX10_gullyOf_62 fX10_99 (by decide) (mFg_36 _ _) ?_
    refine j_iload_n hC dX10_gullyOf_65 rfl ?_
    refine m_ldI hC hM (by decide) dX10_gullyOf_66 (ix_nI (n := 8) hk (by omega)) ?_
    refine j_dup2_11 hC dX10_gullyOf_67 rfl rfl ?_
    refine m_ldJ hC hM (by decide) dX10_gullyOf_68 (hc) ?_
    refine j_lload hC dX10_gullyOf_69 rfl ?_
    refine j_lsub hC dX10_gullyOf_71 ?_
    refine m_stJ hC hM (by decide) dX10_gullyOf_72 (hc) (fun w1 hM => ?_)
    refine j_aload_n hC dX10_gullyOf_73 rfl ?_
    refine m_get hC hM dX10_gullyOf_74 fX10_22 (by decide) (mFg_6 _ _) ?_
    refine j_iload_n hC dX10_gullyOf_77 rfl ?_
    refine j_dup2_11 hC dX10_gullyOf_78 rfl rfl ?_
    refine m_ldJ hC hM (by decide) dX10_gullyOf_79 (hn) ?_
    refine j_lload hC dX10_gullyOf_80 rfl ?_
    refine j_ladd hC dX10_gullyOf_82 ?_
    refine m_stJ hC hM (by decide) dX10_gullyOf_83 (hn) (fun w2 hM => ?_)
    exact j_vret hC hR dX10_gullyOf_84 rfl ⟨rfl, MB.cast hM (by simp [fGully, uJ_1, uJ_2n])⟩
  · refine j_lload_n hC dX10_gullyOf_26 rfl ?_
    refine j_aload_n hC dX10_gullyOf_27 rfl ?_
    refine m_get hC hM dX10_gullyOf_28 fX10_105 (by decide) (mFg_38 _ _) ?_
    refine j_iload_n hC dX10_gullyOf_31 rfl ?_
    refine m_ldI hC hM (by decide) dX10_gullyOf_32 (ix_nI (n := 8) hk (by omega)) ?_
    refine j_i2l hC dX10_gullyOf_33 ?_
    refine j_aload_n hC dX10_gullyOf_34 rfl ?_
    refine m_get hC hM dX10_gullyOf_35 fX10_108 (by decide) (mFg_39 _ _) ?_
    refine j_aload_n hC dX10_gullyOf_38 rfl ?_
    refine m_get hC hM dX10_gullyOf_39 fX10_99 (by decide) (mFg_36 _ _) ?_
    refine j_iload_n hC dX10_gullyOf_42 rfl ?_
    refine m_ldI hC hM (by decide) dX10_gullyOf_43 (ix_nI (n := 8) hk (by omega)) ?_
    refine m_ldJ hC hM (by decide) dX10_gullyOf_44 (hc) ?_
    refine j_calls (kc' := 0) (ks' := 0) hC (m_less K (S.1 38 k).toInt64 (S.2 39 (S.1 36 k).toNatClampNeg)) dX10_gullyOf_45 wX10_less lX10_180 t_yX10_less rfl rfl (nle rfl) rfl (by decide) (by decide) (by decide) (kL fun r w' hp => ?_)
    obtain ⟨rfl, hw⟩ := hp
    rw [hw]
    clear hw w'
    refine j_calls (kc' := 0) (ks' := 0) hC (m_less K (ful S (S.1 37 k).toNatClampNeg - S.2 6 (S.1 37 k).toNatClampNeg) (if S.2 39 (S.1 36 k).toNatClampNeg < (S.1 38 k).toInt64 then S.2 39 (S.1 36 k).toNatClampNeg else (S.1 38 k).toInt64)) dX10_gullyOf_48 wX10_less lX10_180 t_yX10_less rfl rfl (nle rfl) rfl (by decide) (by decide) (by decide) (kL fun r w' hp => ?_)
    obtain ⟨rfl, hw⟩ := hp
    rw [hw]
    clear hw w'
    refine j_goto hC 55 dX10_gullyOf_51 (by decide) ?_
    refine J.toL (y := lG S k) (by first | exact (show lG S k = _ from gTake_1 c_22).symm | exact (show lG S k = _ from gTake_0 c_22 hr hh).symm) ?_
    refine j_lstore (lv' := [some _, some _, some _, some _, none, some _, none]) hC dX10_gullyOf_55 (nlt rfl) rfl ?_
    refine j_aload_n hC dX10_gullyOf_57 rfl ?_
    refine m_get hC hM dX10_gullyOf_58 fX10_108 (by decide) (mFg_39 _ _) ?_
    refine j_aload_n hC dX10_gullyOf_61 rfl ?_
    refine m_get hC hM dX10_gullyOf_62 fX10_99 (by decide) (mFg_36 _ _) ?_
    refine j_iload_n hC dX10_gullyOf_65 rfl ?_
    refine m_ldI hC hM (by decide) dX10_gullyOf_66 (ix_nI (n := 8) hk (by omega)) ?_
    refine j_dup2_11 hC dX10_gullyOf_67 rfl rfl ?_
    refine m_ldJ hC hM (by decide) dX10_gullyOf_68 (hc) ?_
    refine j_lload hC dX10_gullyOf_69 rfl ?_
    refine j_lsub hC dX10_gullyOf_71 ?_
    refine m_stJ hC hM (by decide) dX10_gullyOf_72 (hc) (fun w3 hM => ?_)
    refine j_aload_n hC dX10_gullyOf_73 rfl ?_
    refine m_get hC hM dX10_gullyOf_74 fX10_22 (by decide) (mFg_6 _ _) ?_
    refine j_iload_n hC dX10_gullyOf_77 rfl ?_
    refine j_dup2_11 hC dX10_gullyOf_78 rfl rfl ?_
    refine m_ldJ hC hM (by decide) dX10_gullyOf_79 (hn) ?_
    refine j_lload hC dX10_gullyOf_80 rfl ?_
    refine j_ladd hC dX10_gullyOf_82 ?_
    refine m_stJ hC hM (by decide) dX10_gullyOf_83 (hn) (fun w4 hM => ?_)
    exact j_vret hC hR dX10_gullyOf_84 rfl ⟨rfl, MB.cast hM (by simp [fGully, uJ_1, uJ_2n])⟩

set_option maxRecDepth 100000 in
set_option maxHeartbeats 4000000 in
theorem m_nodeOf (K : Kx) {w : Wd} {m : Nat} {ad : Nat → Nat} {S : Ast} {k : Nat} (hA : MA K.2.1 w m ad S) (hk : k < 24) (hc : ¬ S.1 5 k < 0 → ix (S.1 5 k) 8 (S.1 5 k).toNatClampNeg) : MT K mX10_nodeOf 1 0 0 [.ref m, .int (nI k)] w (PV fun w' => MB K.2.1 w w' m ad (fNode S k)) := by
  refine MT.of [some (.ref m), some (.int (nI k)), none, none] (by decide) rfl (nle rfl) rfl ?_
  intro E hC hR
  have hM := MB.rf hA
  refine j_aload_n hC dX10_nodeOf_0 rfl ?_
  refine m_get hC hM dX10_nodeOf_1 fX10_22 (by decide) (mFg_6 _ _) ?_
  refine j_iload_n hC dX10_nodeOf_4 rfl ?_
  refine m_ldJ hC hM (by decide) dX10_nodeOf_5 (ix_nI (n := 24) hk (by omega)) ?_
  refine j_aload_n hC dX10_nodeOf_6 rfl ?_
  refine j_iload_n hC dX10_nodeOf_7 rfl ?_
  refine j_callv (kc' := 0) (ks' := 0) (r := (RX10, TX10, 59)) hC (m_fullOf K (nI k) hA (by rw [nI_clamp (by omega)]; exact ix_nI (n := 24) hk (by omega))) dX10_nodeOf_8 wX10_fullOf lX10_191 i_yX10_fullOf s_yX10_fullOf hM.1.1 rfl rfl rfl (nle rfl) rfl (by decide) (by decide) (by decide) (kL fun r w' hp => ?_)
  obtain ⟨rfl, hw⟩ := hp
  rw [hw]
  clear hw w'
  refine J.toL (y := ful S k) (by rw [nI_clamp (by omega)]) ?_
  refine j_lsub hC dX10_nodeOf_11 ?_
  refine j_lstore_n (lv' := [some _, some _, some _, none]) hC dX10_nodeOf_12 (nlt rfl) rfl ?_
  refine j_lload_n hC dX10_nodeOf_13 rfl ?_
  refine j_lconst hC (0) dX10_nodeOf_14 (by decide) ?_
  refine j_lcmp_gt hC 20 dX10_nodeOf_15 dX10_nodeOf_16 (by decide) (fun c_15 => ?_) (fun c_15 => ?_)
  · have e0 : nS S k = S.2 6 k - ful S k := if_neg (fun h => Int64.lt_irrefl (Int64.lt_trans c_15 h))
    refine j_aload_n hC dX10_nodeOf_20 rfl ?_
    refine m_get hC hM dX10_nodeOf_21 fX10_22 (by decide) (mFg_6 _ _) ?_
    refine j_iload_n hC dX10_nodeOf_24 rfl ?_
    refine j_dup2_11 hC dX10_nodeOf_25 rfl rfl ?_
    refine m_ldJ hC hM (by decide) dX10_nodeOf_26 (ix_nI (n := 24) hk (by omega)) ?_
    refine j_lload_n hC dX10_nodeOf_27 rfl ?_
    refine j_lsub hC dX10_nodeOf_28 ?_
    refine m_stJ hC hM (by decide) dX10_nodeOf_29 (ix_nI (n := 24) hk (by omega)) (fun w1 hM => ?_)
    refine j_aload_n hC dX10_nodeOf_30 rfl ?_
    refine m_get hC hM dX10_nodeOf_31 fX10_26 (by decide) (mFg_7 _ _) ?_
    refine j_iload_n hC dX10_nodeOf_34 rfl ?_
    refine j_dup2_11 hC dX10_nodeOf_35 rfl rfl ?_
    refine m_ldJ hC hM (by decide) dX10_nodeOf_36 (ix_nI (n := 24) hk (by omega)) ?_
    refine j_lload_n hC dX10_nodeOf_37 rfl ?_
    refine j_ladd hC dX10_nodeOf_38 ?_
    refine m_stJ hC hM (by decide) dX10_nodeOf_39 (ix_nI (n := 24) hk (by omega)) (fun w2 hM => ?_)
    refine j_aload_n hC dX10_nodeOf_40 rfl ?_
    refine m_get hC hM dX10_nodeOf_41 fX10_19 (by decide) (mFg_5 _ _) ?_
    refine j_iload_n hC dX10_nodeOf_44 rfl ?_
    refine m_ldI hC hM (by decide) dX10_nodeOf_45 (ix_nI (n := 24) hk (by omega)) ?_
    refine j_if_lt hC 67 dX10_nodeOf_46 (by decide) (fun c_46 => ?_) (fun c_46 => ?_)
    · refine j_aload_n hC dX10_nodeOf_67 rfl ?_
      refine j_dup hC dX10_nodeOf_68 rfl ?_
      refine m_get hC hM dX10_nodeOf_69 fX10_194 (by decide) (mFg_43 _ _) ?_
      refine j_lload_n hC dX10_nodeOf_72 rfl ?_
      refine j_ladd hC dX10_nodeOf_73 ?_
      refine m_putJ hC hM (by decide) dX10_nodeOf_74 fX10_194 rfl (by decide) rfl rfl (mFs_43 _ _ _) (fun w3 hM => ?_)
      exact j_vret hC hR dX10_nodeOf_77 rfl ⟨rfl, MB.cast hM (by unfold fNode; rw [e0]; first | (rw [if_pos (show S.1 5 k < 0 from c_46)]; simp [uJ_1, uJ_2n]; done) | (rw [if_neg (show ¬ S.1 5 k < 0 from c_46)]; simp [uJ_1, uJ_2n]; done))⟩
    · refine j_aload_n hC dX10_nodeOf_49 rfl ?_
      refine m_get hC hM dX10_nodeOf_50 fX10_108 (by decide) (mFg_39 _ _) ?_
      refine j_aload_n hC dX10_nodeOf_53 rfl ?_
      refine m_get hC hM dX10_nodeOf_54 fX10_19 (by decide) (mFg_5 _ _) ?_
      refine j_iload_n hC dX10_nodeOf_57 rfl ?_
      refine m_ldI hC hM (by decide) dX10_nodeOf_58 (ix_nI (n := 24) hk (by omega)) ?_
      refine j_dup2_11 hC dX10_nodeOf_59 rfl rfl ?_
      refine m_ldJ hC hM (by decide) dX10_nodeOf_60 (hc c_46) ?_
      refine j_lload_n hC dX10_nodeOf_61 rfl ?_
      refine j_ladd hC dX10_nodeOf_62 ?_
      refine m_stJ hC hM (by decide) dX10_nodeOf_63 (hc c_46) (fun w4 hM => ?_)
      refine j_goto hC 77 dX10_nodeOf_64 (by decide) ?_
      exact j_vret hC hR dX10_nodeOf_77 rfl ⟨rfl, MB.cast hM (by unfold fNode; rw [e0]; first | (rw [if_pos (show S.1 5 k < 0 from c_46)]; simp [uJ_1, uJ_2n]; done) | (rw [if_neg (show ¬ S.1 5 k < 0 from c_46)]; simp [uJ_1, uJ_2n]; done))⟩
  · have e0 : nS S k = 0 := by
        unfold nS
        by_cases h : S.2 6 k - ful S k < 0
        · rw [if_pos h]
        · rw [if_neg h]; exact Int64.le_antisymm (Int64.not_lt.mp c_15) (Int64.not_lt.mp h)
    exact j_vret hC hR dX10_nodeOf_19 rfl ⟨rfl, MB.cast hM (by unfold fNode; rw [e0]; simp only [Int64.sub_zero, Int64.add_zero, uJ_id]; split <;> rfl)⟩
end
section

def itn {α : Type} (f : Nat → α → α) : Nat → α → α
  | 0, s => s
  | n + 1, s => f n (itn f n s)
def fLev (S : Ast) (k : Nat) : Ast := uJ S 9 k (lvl S k)
/-- the minute of a second -/
def mn (S : Ast) : Nat := (S.1 40 0 / 60).toNatClampNeg
def q1 (S : Ast) : Ast := itn (fun k T => fRain T k (mn S)) (cn S 18) S
def q2 (S : Ast) : Ast := itn (fun k T => fLev T k) (cn S 1) (q1 S)
def q3 (S : Ast) : Ast := itn (fun k T => fFlow T k) (cn S 10) (q2 S)
def q4 (S : Ast) : Ast := itn (fun k T => fPump T k) (cn S 24) (q3 S)
def q5 (S : Ast) : Ast := itn (fun k T => fGate T k) (cn S 31) (q4 S)
def q6 (S : Ast) : Ast := itn (fun k T => fGully T k) (cn S 35) (q5 S)
def q7 (S : Ast) : Ast := itn (fun k T => fNode T k) (cn S 1) (q6 S)
def fSec (S : Ast) : Ast := uI (q7 S) 40 0 (S.1 40 0 + 1)
def fRun (S : Ast) (n : Nat) : Ast := itn (fun _ T => fSec T) n S
theorem itn_1 {f : Nat → Ast → Ast} (h : ∀ k T, (f k T).1 = T.1) (n : Nat) (S : Ast) : (itn f n S).1 = S.1 := by
  induction n with
  | zero => rfl
  | succ n ih => exact (h n _).trans ih
theorem fNode_1 (S : Ast) (k : Nat) : (fNode S k).1 = S.1 := by
  unfold fNode
  split <;> rfl
theorem q1_1 (S : Ast) : (q1 S).1 = S.1 := itn_1 (f := fun k T => fRain T k (mn S)) (fun _ _ => rfl) _ _
theorem q2_1 (S : Ast) : (q2 S).1 = S.1 := (itn_1 (f := fun k T => fLev T k) (fun _ _ => rfl) _ _).trans (q1_1 S)
theorem q3_1 (S : Ast) : (q3 S).1 = S.1 := (itn_1 (f := fun k T => fFlow T k) (fun _ _ => rfl) _ _).trans (q2_1 S)
theorem itP_1 (n : Nat) (S : Ast) {j : Nat} (hj : j ≠ 30) : (itn (fun k T => fPump T k) n S).1 j = S.1 j := by
  induction n with
  | zero => rfl
  | succ n ih => exact (uI_1n hj).trans ih
theorem q4_1 (S : Ast) {j : Nat} (hj : j ≠ 30) : (q4 S).1 j = S.1 j := by
  unfold q4
  rw [itP_1 _ _ hj, q3_1]
theorem q5_1 (S : Ast) {j : Nat} (hj : j ≠ 30) : (q5 S).1 j = S.1 j := by
  unfold q5
  rw [itn_1 (f := fun k T => fGate T k) (fun _ _ => rfl), q4_1 S hj]
theorem q6_1 (S : Ast) {j : Nat} (hj : j ≠ 30) : (q6 S).1 j = S.1 j := by
  unfold q6
  rw [itn_1 (f := fun k T => fGully T k) (fun _ _ => rfl), q5_1 S hj]
theorem q7_1 (S : Ast) {j : Nat} (hj : j ≠ 30) : (q7 S).1 j = S.1 j := by
  unfold q7
  rw [itn_1 (fun k T => fNode_1 T k), q6_1 S hj]
theorem fSec_1 (S : Ast) {j : Nat} (hj : j ≠ 30) (h4 : j ≠ 40) : (fSec S).1 j = S.1 j := by
  unfold fSec
  rw [uI_1n h4, q7_1 S hj]
theorem fSec_40 (S : Ast) : (fSec S).1 40 0 = S.1 40 0 + 1 := uI_at
theorem fRun_1 (S : Ast) (n : Nat) {j : Nat} (hj : j ≠ 30) (h4 : j ≠ 40) : (fRun S n).1 j = S.1 j := by
  induction n with
  | zero => rfl
  | succ n ih => exact (fSec_1 _ hj h4).trans ih
theorem fRun_40 (S : Ast) {s : Nat} (h : S.1 40 0 = nI s) (n : Nat) : (fRun S n).1 40 0 = nI (s + n) := by
  induction n with
  | zero => exact h
  | succ n ih =>
    show (fSec (fRun S n)).1 40 0 = _
    rw [fSec_40, ih, nI_1]
    rfl
def rg (v : Int32) (lo hi : Int) : Prop := lo ≤ v.toInt ∧ v.toInt ≤ hi
def nodeOK (S : Ast) (i : Nat) : Prop := rg (S.1 2 i) (-100000) 100000 ∧ rg (S.1 3 i) (-100000) 100000 ∧ (S.1 3 i).toInt < (S.1 2 i).toInt ∧ rg (S.1 4 i) 1 100000 ∧ (S.1 5 i = -1 ∨ ix (S.1 5 i) 8 (S.1 5 i).toNatClampNeg)
def pipeOK (S : Ast) (i : Nat) : Prop := nd S (S.1 11 i) ∧ nd S (S.1 12 i) ∧ (S.1 12 i).toNatClampNeg ≠ (S.1 11 i).toNatClampNeg ∧ rg (S.1 13 i) 1 10000 ∧ rg (S.1 14 i) 10 3000
def areaOK (S : Ast) (i : Nat) : Prop := nd S (S.1 19 i) ∧ rg (S.1 20 i) 1 1000000 ∧ rg (S.1 21 i) 0 1000
def pumpOK (S : Ast) (i : Nat) : Prop := nd S (S.1 25 i) ∧ nd S (S.1 26 i) ∧ (S.1 26 i).toNatClampNeg ≠ (S.1 25 i).toNatClampNeg ∧ rg (S.1 29 i) 1 100000
def gateOK (S : Ast) (i : Nat) : Prop := nd S (S.1 32 i) ∧ rg (S.1 33 i) 0 200000 ∧ rg (S.1 34 i) 1 1000000
def gullyOK (S : Ast) (i : Nat) : Prop := ix (S.1 36 i) 8 (S.1 36 i).toNatClampNeg ∧ nd S (S.1 37 i) ∧ rg (S.1 38 i) 1 100000
/-- what the drains' whole numbers are -/
def WSt (S : Ast) : Prop := (CN S 1 24 ∧ CN S 10 40 ∧ CN S 18 24 ∧ CN S 24 8 ∧ CN S 31 8 ∧ CN S 35 8) ∧ (∀ i, i < cn S 1 → nodeOK S i) ∧ (∀ i, i < cn S 10 → pipeOK S i) ∧ (∀ i, i < cn S 18 → areaOK S i) ∧ (∀ i, i < cn S 24 → pumpOK S i) ∧ (∀ i, i < cn S 31 → gateOK S i) ∧ (∀ i, i < cn S 35 → gullyOK S i) ∧ (∀ i, i < 1440 → rg (S.1 23 i) 0 20000)
theorem WSt.cong {S T : Ast} (h : ∀ k, k ≠ 30 → k ≠ 40 → T.1 k = S.1 k) (hS : WSt S) : WSt T := by

  have e1 := h 1 (by decide) (by decide)
  have e10 := h 10 (by decide) (by decide)
  have e18 := h 18 (by decide) (by decide)
  have e24 := h 24 (by decide) (by decide)
  have e31 := h 31 (by decide) (by decide)
  have e35 := h 35 (by decide) (by decide)
  have e2 := h 2 (by decide) (by decide)
  have e3 := h 3 (by decide) (by decide)
  have e4 := h 4 (by decide) (by decide)
  have e5 := h 5 (by decide) (by decide)
  have e11 := h 11 (by decide) (by decide)
  have e12 := h 12 (by decide) (by decide)
  have e13 := h 13 (by decide) (by decide)
  have e14 := h 14 (by decide) (by decide)
  have e19 := h 19 (by decide) (by decide)
  have e20 := h 20 (by decide) (by decide)
  have e21 := h 21 (by decide) (by decide)
  have e23 := h 23 (by decide) (by decide)
  have e25 := h 25 (by decide) (by decide)
  have e26 := h 26 (by decide) (by decide)
  have e29 := h 29 (by decide) (by decide)
  have e32 := h 32 (by decide) (by decide)
  have e33 := h 33 (by decide) (by decide)
  have e34 := h 34 (by decide) (by decide)
  have e36 := h 36 (by decide) (by decide)
  have e37 := h 37 (by decide) (by decide)
  have e38 := h 38 (by decide) (by decide)
  simp only [WSt, CN, cn, nd, nodeOK, pipeOK, areaOK, pumpOK, gateOK, gullyOK, e1, e10, e18, e24, e31, e35, e2, e3, e4, e5, e11, e12, e13, e14, e19, e20, e21, e23, e25, e26, e29, e32, e33, e34, e36, e37, e38] at hS ⊢
  exact hS

theorem WSt.run {S : Ast} (h : WSt S) (n : Nat) : WSt (fRun S n) := h.cong (fun k h1 h2 => fRun_1 S n h1 h2)
theorem i64_ne {v : Int32} (h : v.toInt ≠ 0) : ¬ v.toInt64 = 0 := by
  intro q
  apply h
  rw [← Int32.toInt_toInt64, q]
  decide
theorem i64_pos {v : Int32} (h : 0 < v.toInt) : 0 < v.toInt64 := by
  rw [Int64.lt_iff_toInt_lt, Int32.toInt_toInt64, l0]
  exact h
theorem i64_nn {v : Int32} (h : 0 ≤ v.toInt) : 0 ≤ v.toInt64 := by
  rw [Int64.le_iff_toInt_le, Int32.toInt_toInt64, l0]
  exact h
theorem bmod_id {x : Int} (h1 : -9223372036854775808 ≤ x) (h2 : x < 9223372036854775808) : x.bmod (2 ^ 64) = x := by
  apply Int.bmod_eq_of_le <;> omega
theorem l_mul {a b : Int64} (h1 : -9223372036854775808 ≤ a.toInt * b.toInt) (h2 : a.toInt * b.toInt < 9223372036854775808) : (a * b).toInt = a.toInt * b.toInt := by
  rw [Int64.toInt_mul, bmod_id h1 h2]
theorem l_add {a b : Int64} (h1 : -9223372036854775808 ≤ a.toInt + b.toInt) (h2 : a.toInt + b.toInt < 9223372036854775808) : (a + b).toInt = a.toInt + b.toInt := by
  rw [Int64.toInt_add, bmod_id h1 h2]
theorem l_sub {a b : Int64} (h1 : -9223372036854775808 ≤ a.toInt - b.toInt) (h2 : a.toInt - b.toInt < 9223372036854775808) : (a - b).toInt = a.toInt - b.toInt := by
  rw [Int64.toInt_sub, bmod_id h1 h2]
theorem l1000 : (1000 : Int64).toInt = 1000 := by decide
theorem wB_int {S : Ast} {k : Nat} (h : rg (S.1 13 k) 1 10000) : (wB S k).toInt = 1000 * (S.1 13 k).toInt := by
  unfold wB
  have h1 := h.1
  have h2 := h.2
  rw [l_mul] <;> rw [l1000, Int32.toInt_toInt64] <;> omega
theorem wB_ne {S : Ast} {k : Nat} (h : rg (S.1 13 k) 1 10000) : ¬ wB S k = 0 := by
  intro q
  have h1 := wB_int h
  rw [q, l0] at h1
  have := h.1
  omega
theorem WSt.ro {S : Ast} (h : WSt S) {i : Nat} (hi : i < cn S 1) : ¬ (S.1 4 i).toInt64 = 0 := by
  apply i64_ne
  have := (h.2.1 i hi).2.2.2.1.1
  omega
/-- the cells hold no less than nothing -/
def NVc (S : Ast) : Prop := ∀ c, c < 8 → 0 ≤ S.2 39 c
theorem gTake_in {ra hd lf : Int64} (hr : 0 ≤ ra) (hh : 0 ≤ hd) : 0 ≤ gTake ra hd lf ∧ gTake ra hd lf ≤ hd := by
  have h2 := Int64.le_iff_toInt_le.mp hr
  have h3 := Int64.le_iff_toInt_le.mp hh
  rw [l0] at h2 h3
  rw [Int64.le_iff_toInt_le, Int64.le_iff_toInt_le, l0]
  unfold gTake
  have hq : 0 ≤ (if hd < ra then hd else ra).toInt ∧ (if hd < ra then hd else ra).toInt ≤ hd.toInt := by
    by_cases h4 : hd < ra
    · rw [if_pos h4]; omega
    · rw [if_neg h4]
      have := Int64.le_iff_toInt_le.mp (Int64.not_lt.mp h4)
      omega
  generalize (if hd < ra then hd else ra) = q at hq
  have hl : 0 ≤ (if lf < 0 then 0 else lf).toInt := by
    by_cases h4 : lf < 0
    · rw [if_pos h4, l0]; omega
    · rw [if_neg h4]
      have := Int64.le_iff_toInt_le.mp (Int64.not_lt.mp h4)
      rw [l0] at this
      exact this
  generalize (if lf < 0 then 0 else lf) = p at hl
  by_cases h5 : p < q
  · rw [if_pos h5]
    have := Int64.lt_iff_toInt_lt.mp h5
    omega
  · rw [if_neg h5]; exact hq
theorem NVc.gully {S : Ast} {k : Nat} (h : NVc S) (hk : gullyOK S k) : NVc (fGully S k) := by
  have hc : (S.1 36 k).toNatClampNeg < 8 := Nat.not_le.mp fun q => hk.1.1 (Or.inr q)
  have hr : 0 ≤ (S.1 38 k).toInt64 := i64_nn (by have := hk.2.2.1; omega)
  intro c hc8
  unfold fGully
  rw [uJ_2n (by decide)]
  by_cases he : c = (S.1 36 k).toNatClampNeg
  · rw [he, uJ_at]
    obtain ⟨h1, h2⟩ := gTake_in (lf := ful S (S.1 37 k).toNatClampNeg - S.2 6 (S.1 37 k).toNatClampNeg) hr (h _ hc)
    have h3 := h _ hc
    rw [Int64.le_iff_toInt_le] at h1 h2 h3 ⊢
    rw [l0] at h1 h3 ⊢
    show 0 ≤ (S.2 39 _ - gTake _ _ _).toInt
    have := Int64.toInt_lt (S.2 39 (S.1 36 k).toNatClampNeg)
    rw [l_sub] <;> omega
  · rw [uJ_i he]; exact h c hc8
theorem it_39 {f : Nat → Ast → Ast} (h : ∀ k T, (f k T).2 39 = T.2 39) (n : Nat) (S : Ast) : (itn f n S).2 39 = S.2 39 := by
  induction n with
  | zero => rfl
  | succ n ih => exact (h n _).trans ih
theorem q5_39 (S : Ast) : (q5 S).2 39 = S.2 39 := by
  unfold q5 q4 q3 q2 q1
  rw [it_39 (fun k T => ?_), it_39 (fun k T => ?_), it_39 (fun k T => ?_), it_39 (fun k T => ?_), it_39 (fun k T => ?_)]
  · unfold fRain; rw [uJ_2n (by decide), uJ_2n (by decide), uJ_2n (by decide)]
  · unfold fLev; rw [uJ_2n (by decide)]
  · unfold fFlow; rw [uJ_2n (by decide), uJ_2n (by decide), uJ_2n (by decide), uJ_2n (by decide), uJ_2n (by decide)]
  · unfold fPump; rw [uJ_2n (by decide), uJ_2n (by decide)]; rfl
  · unfold fGate; rw [uJ_2n (by decide), uJ_2n (by decide), uJ_2n (by decide)]
end
section

/-- lv' says no more than lv -/
def wkl : List (Option Value) → List (Option Value) → Prop
  | [], [] => True
  | none :: t', _ :: t => wkl t' t
  | some a :: t', b :: t => b = some a ∧ wkl t' t
  | _, _ => False
theorem wkl_len : ∀ (l' l : List (Option Value)), wkl l' l → l'.length = l.length
  | [], [], _ => rfl
  | none :: t', _ :: t, h => by rw [List.length_cons, List.length_cons, wkl_len t' t h]
  | some a :: t', b :: t, h => by rw [List.length_cons, List.length_cons, wkl_len t' t h.2]
  | [], _ :: _, h => by simp [wkl] at h
  | none :: _, [], h => by simp [wkl] at h
  | some _ :: _, [], h => by simp [wkl] at h
theorem wkl_get : ∀ (l' l : List (Option Value)), wkl l' l → ∀ (i : Nat) (v : Value), l'[i]? = some (some v) → l[i]? = some (some v)
  | [], _, _, i, v, e => by simp at e
  | none :: t', _ :: t, h, 0, v, e => by simp at e
  | none :: t', _ :: t, h, i + 1, v, e => by
    rw [List.getElem?_cons_succ] at e ⊢
    exact wkl_get t' t h i v e
  | some a :: t', b :: t, h, 0, v, e => by
    rw [List.getElem?_cons_zero] at e ⊢
    rw [h.1]; exact e
  | some a :: t', b :: t, h, i + 1, v, e => by
    rw [List.getElem?_cons_succ] at e ⊢
    exact wkl_get t' t h.2 i v e
  | none :: _, [], h, _, _, _ => by simp [wkl] at h
  | some _ :: _, [], h, _, _, _ => by simp [wkl] at h
theorem lok.weak {ls : Array Slot} {l' l : List (Option Value)} (h : wkl l' l) (hl : lok ls l) : lok ls l' := by
  refine ⟨by rw [wkl_len l' l h]; exact hl.1, hl.2.1, fun q hq => ?_⟩
  obtain ⟨j, u⟩ := q
  have := ((prs_iff l' 0 j u).mp hq).2
  exact hl.at (wkl_get l' l h j u (by simpa using this))
theorem J.weak {K : Kx} {cc : ByteArray} {E : Ex} {kc ks : Nat} {w : Wd} {pc : Nat} {l' l : List (Option Value)} {st : List Value} (h : wkl l' l) (k : J K cc E kc ks w pc l' st) : J K cc E kc ks w pc l st := by
  obtain ⟨p, e, R, s, m, args, below, meth, c, Q⟩ := E
  intro H locs cells slots ls h1 h2 h3 h4 h5 h6
  exact k H locs cells slots ls h1 h2 h3 h4 h5 (h6.weak h)

set_option maxRecDepth 100000 in
set_option maxHeartbeats 4000000 in
theorem run_L1 (K : Kx) {w0 : Wd} {m : Nat} {ad : Nat → Nat} {E : Ex} {S : Ast} {x1 x2 : Int32} {j mi : Nat} (hC : BX K RX10 cX10_run 4 2 E) (hW : WSt S) (hmi : S.1 40 0 / 60 = nI mi) (hj : j = mi) (hm : mi < 1440) : ∀ (n i : Nat) (w1 : Wd), i + n = cn S 18 → MB K.2.1 w0 w1 m ad (itn (fun k T => fRain T k j) i S) → (∀ w2 : Wd, MB K.2.1 w0 w2 m ad (itn (fun k T => fRain T k j) (cn S 18) S) → J K cX10_run E 0 0 w2 59 [some (.ref m), some (.int x1), some (.int x2), some (.int (nI (cn S 18)))] []) → J K cX10_run E 0 0 w1 33 [some (.ref m), some (.int x1), some (.int x2), some (.int (nI i))] [] := by
  have hb : CN S 18 24 := hW.1.2.2.1
  intro n
  induction n with
  | zero =>
    intro i w1 hi hM kk
    have hi2 : i = cn S 18 := by omega
    subst hi2
    refine j_iload_n hC dX10_run_33 rfl ?_
    refine j_aload_n hC dX10_run_34 rfl ?_
    refine m_get hC hM dX10_run_35 fX10_158 (by decide) (mFg_18 _ _) ?_
    refine J.toI (y := nI (cn S 18)) (by rw [itn_1 (f := fun k T => fRain T k j) (fun _ _ => rfl)]; exact hb.1) ?_
    refine j_icmp_ge hC 59 dX10_run_38 (by decide) (fun c_38 => ?_) (fun c_38 => ?_)
    · exact kk _ hM
    · exact absurd (nI_le (Nat.le_refl _) (by have := hb.2; omega)) c_38
  | succ n ih =>
    intro i w1 hi hM kk
    have hil : i < cn S 18 := by omega
    refine j_iload_n hC dX10_run_33 rfl ?_
    refine j_aload_n hC dX10_run_34 rfl ?_
    refine m_get hC hM dX10_run_35 fX10_158 (by decide) (mFg_18 _ _) ?_
    refine J.toI (y := nI (cn S 18)) (by rw [itn_1 (f := fun k T => fRain T k j) (fun _ _ => rfl)]; exact hb.1) ?_
    refine j_icmp_ge hC 59 dX10_run_38 (by decide) (fun c_38 => ?_) (fun c_38 => ?_)
    · exact absurd ((nI_leI (by have := hb.2; omega) (by have := hb.2; omega)).mp c_38) (by omega)
    · refine j_aload_n hC dX10_run_41 rfl ?_
      refine j_iload_n hC dX10_run_42 rfl ?_
      refine j_aload_n hC dX10_run_43 rfl ?_
      refine m_get hC hM dX10_run_44 fX10_197 (by decide) (mFg_40 _ _) ?_
      refine j_bipush hC (60) dX10_run_47 (by decide) ?_
      refine j_idiv hC dX10_run_49 (by decide) ?_
      refine J.toI (y := nI mi) (by rw [itn_1 (f := fun k T => fRain T k j) (fun _ _ => rfl)]; exact hmi) ?_
      refine j_callv (kc' := 0) (ks' := 0) (r := (RX10, TX10, 59)) hC (m_rainOf K (S := itn (fun k T => fRain T k j) i S) (k := i) (j := j) (nI mi) hM.1 (by have := hb.2; omega) (by rw [hj]; exact ix_nI (by omega) (by omega)) (by rw [itn_1 (f := fun k T => fRain T k j) (fun _ _ => rfl)]; exact (hW.2.2.2.1 i hil).1.1)) dX10_run_50 wX10_rainOf lX10_201 i_yX10_rainOf s_yX10_rainOf hM.1.1 rfl rfl rfl (nle rfl) rfl (by decide) (by decide) (by decide) (kV fun w' hp => ?_)
      have hM := hM.tr hp
      clear hp
      refine j_iinc (v := nI (i + 1)) (lv' := [some _, some _, some _, some _]) hC dX10_run_53 rfl (nI_i1 i) (nlt rfl) rfl ?_
      refine j_goto hC 33 dX10_run_56 (by decide) ?_
      exact ih (i + 1) _ (by omega) hM kk
theorem run_L1s (K : Kx) {w0 w1 : Wd} {m : Nat} {ad : Nat → Nat} {E : Ex} {S T : Ast} {x1 x2 : Int32} {j mi : Nat} (hC : BX K RX10 cX10_run 4 2 E) (hW : WSt S) (hmi : S.1 40 0 / 60 = nI mi) (hj : j = mi) (hm : mi < 1440) (hT : itn (fun k T => fRain T k j) (cn S 18) S = T) (hM : MB K.2.1 w0 w1 m ad S) (kk : ∀ (w2 : Wd) (x3 : Int32), MB K.2.1 w0 w2 m ad T → J K cX10_run E 0 0 w2 59 [some (.ref m), some (.int x1), some (.int x2), some (.int x3)] []) : J K cX10_run E 0 0 w1 33 [some (.ref m), some (.int x1), some (.int x2), some (.int (0))] [] := by
  subst hT
  rw [← nI_0]
  exact run_L1 K hC hW hmi hj hm (cn S 18) 0 w1 (by omega) hM (fun w2 h => kk w2 _ h)

set_option maxRecDepth 100000 in
set_option maxHeartbeats 4000000 in
theorem run_L2 (K : Kx) {w0 : Wd} {m : Nat} {ad : Nat → Nat} {E : Ex} {S : Ast} {x1 x2 : Int32}  (hC : BX K RX10 cX10_run 4 2 E) (hW : WSt S)  : ∀ (n i : Nat) (w1 : Wd), i + n = cn S 1 → MB K.2.1 w0 w1 m ad (itn (fun k T => fLev T k) i S) → (∀ w2 : Wd, MB K.2.1 w0 w2 m ad (itn (fun k T => fLev T k) (cn S 1) S) → J K cX10_run E 0 0 w2 86 [some (.ref m), some (.int x1), some (.int x2), some (.int (nI (cn S 1)))] []) → J K cX10_run E 0 0 w1 61 [some (.ref m), some (.int x1), some (.int x2), some (.int (nI i))] [] := by
  have hb : CN S 1 24 := hW.1.1
  intro n
  induction n with
  | zero =>
    intro i w1 hi hM kk
    have hi2 : i = cn S 1 := by omega
    subst hi2
    refine j_iload_n hC dX10_run_61 rfl ?_
    refine j_aload_n hC dX10_run_62 rfl ?_
    refine m_get hC hM dX10_run_63 fX10_142 (by decide) (mFg_1 _ _) ?_
    refine J.toI (y := nI (cn S 1)) (by rw [itn_1 (f := fun k T => fLev T k) (fun _ _ => rfl)]; exact hb.1) ?_
    refine j_icmp_ge hC 86 dX10_run_66 (by decide) (fun c_66 => ?_) (fun c_66 => ?_)
    · exact kk _ hM
    · exact absurd (nI_le (Nat.le_refl _) (by have := hb.2; omega)) c_66
  | succ n ih =>
    intro i w1 hi hM kk
    have hil : i < cn S 1 := by omega
    refine j_iload_n hC dX10_run_61 rfl ?_
    refine j_aload_n hC dX10_run_62 rfl ?_
    refine m_get hC hM dX10_run_63 fX10_142 (by decide) (mFg_1 _ _) ?_
    refine J.toI (y := nI (cn S 1)) (by rw [itn_1 (f := fun k T => fLev T k) (fun _ _ => rfl)]; exact hb.1) ?_
    refine j_icmp_ge hC 86 dX10_run_66 (by decide) (fun c_66 => ?_) (fun c_66 => ?_)
    · exact absurd ((nI_leI (by have := hb.2; omega) (by have := hb.2; omega)).mp c_66) (by omega)
    · refine j_aload_n hC dX10_run_69 rfl ?_
      refine m_get hC hM dX10_run_70 fX10_32 (by decide) (mFg_9 _ _) ?_
      refine j_iload_n hC dX10_run_73 rfl ?_
      refine j_aload_n hC dX10_run_74 rfl ?_
      refine j_iload_n hC dX10_run_75 rfl ?_
      refine j_callv (kc' := 0) (ks' := 0) (r := (RX10, TX10, 59)) hC (m_levelOf K (S := itn (fun k T => fLev T k) i S) (nI i) hM.1 (by rw [nI_clamp (by have := hb.2; omega)]; exact ix_nI (by have := hb.2; omega) (by omega)) (by rw [nI_clamp (by have := hb.2; omega), itn_1 (f := fun k T => fLev T k) (fun _ _ => rfl)]; exact hW.ro hil)) dX10_run_76 wX10_levelOf lX10_184 i_yX10_levelOf s_yX10_levelOf hM.1.1 rfl rfl rfl (nle rfl) rfl (by decide) (by decide) (by decide) (kL fun r w' hp => ?_)
      obtain ⟨rfl, hw⟩ := hp
      rw [hw]
      clear hw w'
      refine J.toL (y := lvl (itn (fun k T => fLev T k) i S) i) (by rw [nI_clamp (by have := hb.2; omega)]) ?_
      refine m_stJ hC hM (by decide) dX10_run_79 (ix_nI (n := 24) (by have := hb.2; omega) (by omega)) (fun w1 hM => ?_)
      refine j_iinc (v := nI (i + 1)) (lv' := [some _, some _, some _, some _]) hC dX10_run_80 rfl (nI_i1 i) (nlt rfl) rfl ?_
      refine j_goto hC 61 dX10_run_83 (by decide) ?_
      exact ih (i + 1) _ (by omega) hM kk
theorem run_L2s (K : Kx) {w0 w1 : Wd} {m : Nat} {ad : Nat → Nat} {E : Ex} {S T : Ast} {x1 x2 : Int32}  (hC : BX K RX10 cX10_run 4 2 E) (hW : WSt S)  (hT : itn (fun k T => fLev T k) (cn S 1) S = T) (hM : MB K.2.1 w0 w1 m ad S) (kk : ∀ (w2 : Wd) (x3 : Int32), MB K.2.1 w0 w2 m ad T → J K cX10_run E 0 0 w2 86 [some (.ref m), some (.int x1), some (.int x2), some (.int x3)] []) : J K cX10_run E 0 0 w1 61 [some (.ref m), some (.int x1), some (.int x2), some (.int (0))] [] := by
  subst hT
  rw [← nI_0]
  exact run_L2 K hC hW  (cn S 1) 0 w1 (by omega) hM (fun w2 h => kk w2 _ h)

set_option maxRecDepth 100000 in
set_option maxHeartbeats 4000000 in
theorem run_L3 (K : Kx) {w0 : Wd} {m : Nat} {ad : Nat → Nat} {E : Ex} {S : Ast} {x1 x2 : Int32}  (hC : BX K RX10 cX10_run 4 2 E) (hW : WSt S)  : ∀ (n i : Nat) (w1 : Wd), i + n = cn S 10 → MB K.2.1 w0 w1 m ad (itn (fun k T => fFlow T k) i S) → (∀ w2 : Wd, MB K.2.1 w0 w2 m ad (itn (fun k T => fFlow T k) (cn S 10) S) → J K cX10_run E 0 0 w2 107 [some (.ref m), some (.int x1), some (.int x2), some (.int (nI (cn S 10)))] []) → J K cX10_run E 0 0 w1 88 [some (.ref m), some (.int x1), some (.int x2), some (.int (nI i))] [] := by
  have hb : CN S 10 40 := hW.1.2.1
  intro n
  induction n with
  | zero =>
    intro i w1 hi hM kk
    have hi2 : i = cn S 10 := by omega
    subst hi2
    refine j_iload_n hC dX10_run_88 rfl ?_
    refine j_aload_n hC dX10_run_89 rfl ?_
    refine m_get hC hM dX10_run_90 fX10_151 (by decide) (mFg_10 _ _) ?_
    refine J.toI (y := nI (cn S 10)) (by rw [itn_1 (f := fun k T => fFlow T k) (fun _ _ => rfl)]; exact hb.1) ?_
    refine j_icmp_ge hC 107 dX10_run_93 (by decide) (fun c_93 => ?_) (fun c_93 => ?_)
    · exact kk _ hM
    · exact absurd (nI_le (Nat.le_refl _) (by have := hb.2; omega)) c_93
  | succ n ih =>
    intro i w1 hi hM kk
    have hil : i < cn S 10 := by omega
    refine j_iload_n hC dX10_run_88 rfl ?_
    refine j_aload_n hC dX10_run_89 rfl ?_
    refine m_get hC hM dX10_run_90 fX10_151 (by decide) (mFg_10 _ _) ?_
    refine J.toI (y := nI (cn S 10)) (by rw [itn_1 (f := fun k T => fFlow T k) (fun _ _ => rfl)]; exact hb.1) ?_
    refine j_icmp_ge hC 107 dX10_run_93 (by decide) (fun c_93 => ?_) (fun c_93 => ?_)
    · exact absurd ((nI_leI (by have := hb.2; omega) (by have := hb.2; omega)).mp c_93) (by omega)
    · refine j_aload_n hC dX10_run_96 rfl ?_
      refine j_iload_n hC dX10_run_97 rfl ?_
      refine j_callv (kc' := 0) (ks' := 0) (r := (RX10, TX10, 59)) hC (m_flowOf K (S := itn (fun k T => fFlow T k) i S) (k := i) hM.1 (by have := hb.2; omega) (by rw [itn_1 (f := fun k T => fFlow T k) (fun _ _ => rfl)]; exact (hW.2.2.1 i hil).1.1) (by rw [itn_1 (f := fun k T => fFlow T k) (fun _ _ => rfl)]; exact (hW.2.2.1 i hil).2.1.1) (by rw [itn_1 (f := fun k T => fFlow T k) (fun _ _ => rfl)]; exact (hW.2.2.1 i hil).2.2.1) (wB_ne (by rw [itn_1 (f := fun k T => fFlow T k) (fun _ _ => rfl)]; exact (hW.2.2.1 i hil).2.2.2.1))) dX10_run_98 wX10_flowOf lX10_205 i_yX10_flowOf s_yX10_flowOf hM.1.1 rfl rfl rfl (nle rfl) rfl (by decide) (by decide) (by decide) (kV fun w' hp => ?_)
      have hM := hM.tr hp
      clear hp
      refine j_iinc (v := nI (i + 1)) (lv' := [some _, some _, some _, some _]) hC dX10_run_101 rfl (nI_i1 i) (nlt rfl) rfl ?_
      refine j_goto hC 88 dX10_run_104 (by decide) ?_
      exact ih (i + 1) _ (by omega) hM kk
theorem run_L3s (K : Kx) {w0 w1 : Wd} {m : Nat} {ad : Nat → Nat} {E : Ex} {S T : Ast} {x1 x2 : Int32}  (hC : BX K RX10 cX10_run 4 2 E) (hW : WSt S)  (hT : itn (fun k T => fFlow T k) (cn S 10) S = T) (hM : MB K.2.1 w0 w1 m ad S) (kk : ∀ (w2 : Wd) (x3 : Int32), MB K.2.1 w0 w2 m ad T → J K cX10_run E 0 0 w2 107 [some (.ref m), some (.int x1), some (.int x2), some (.int x3)] []) : J K cX10_run E 0 0 w1 88 [some (.ref m), some (.int x1), some (.int x2), some (.int (0))] [] := by
  subst hT
  rw [← nI_0]
  exact run_L3 K hC hW  (cn S 10) 0 w1 (by omega) hM (fun w2 h => kk w2 _ h)

set_option maxRecDepth 100000 in
set_option maxHeartbeats 4000000 in
theorem run_L4 (K : Kx) {w0 : Wd} {m : Nat} {ad : Nat → Nat} {E : Ex} {S : Ast} {x1 x2 : Int32}  (hC : BX K RX10 cX10_run 4 2 E) (hW : WSt S)  : ∀ (n i : Nat) (w1 : Wd), i + n = cn S 24 → MB K.2.1 w0 w1 m ad (itn (fun k T => fPump T k) i S) → (∀ w2 : Wd, MB K.2.1 w0 w2 m ad (itn (fun k T => fPump T k) (cn S 24) S) → J K cX10_run E 0 0 w2 128 [some (.ref m), some (.int x1), some (.int x2), some (.int (nI (cn S 24)))] []) → J K cX10_run E 0 0 w1 109 [some (.ref m), some (.int x1), some (.int x2), some (.int (nI i))] [] := by
  have hb : CN S 24 8 := hW.1.2.2.2.1
  intro n
  induction n with
  | zero =>
    intro i w1 hi hM kk
    have hi2 : i = cn S 24 := by omega
    subst hi2
    refine j_iload_n hC dX10_run_109 rfl ?_
    refine j_aload_n hC dX10_run_110 rfl ?_
    refine m_get hC hM dX10_run_111 fX10_162 (by decide) (mFg_24 _ _) ?_
    refine J.toI (y := nI (cn S 24)) ((congrFun (itP_1 _ S (j := 24) (by decide)) 0).trans hb.1) ?_
    refine j_icmp_ge hC 128 dX10_run_114 (by decide) (fun c_114 => ?_) (fun c_114 => ?_)
    · exact kk _ hM
    · exact absurd (nI_le (Nat.le_refl _) (by have := hb.2; omega)) c_114
  | succ n ih =>
    intro i w1 hi hM kk
    have hil : i < cn S 24 := by omega
    refine j_iload_n hC dX10_run_109 rfl ?_
    refine j_aload_n hC dX10_run_110 rfl ?_
    refine m_get hC hM dX10_run_111 fX10_162 (by decide) (mFg_24 _ _) ?_
    refine J.toI (y := nI (cn S 24)) ((congrFun (itP_1 _ S (j := 24) (by decide)) 0).trans hb.1) ?_
    refine j_icmp_ge hC 128 dX10_run_114 (by decide) (fun c_114 => ?_) (fun c_114 => ?_)
    · exact absurd ((nI_leI (by have := hb.2; omega) (by have := hb.2; omega)).mp c_114) (by omega)
    · refine j_aload_n hC dX10_run_117 rfl ?_
      refine j_iload_n hC dX10_run_118 rfl ?_
      refine j_callv (kc' := 0) (ks' := 0) (r := (RX10, TX10, 59)) hC (m_pumpOf K (S := itn (fun k T => fPump T k) i S) (k := i) hM.1 (by have := hb.2; omega) (by rw [itP_1 i S (j := 25) (by decide)]; exact (hW.2.2.2.2.1 i hil).1.1) (by rw [itP_1 i S (j := 26) (by decide)]; exact (hW.2.2.2.2.1 i hil).2.1.1) (by rw [itP_1 i S (j := 26) (by decide), itP_1 i S (j := 25) (by decide)]; exact (hW.2.2.2.2.1 i hil).2.2.1) (by rw [itP_1 i S (j := 25) (by decide), itP_1 i S (j := 4) (by decide)]; exact hW.ro (hW.2.2.2.2.1 i hil).1.2)) dX10_run_119 wX10_pumpOf lX10_209 i_yX10_pumpOf s_yX10_pumpOf hM.1.1 rfl rfl rfl (nle rfl) rfl (by decide) (by decide) (by decide) (kV fun w' hp => ?_)
      have hM := hM.tr hp
      clear hp
      refine j_iinc (v := nI (i + 1)) (lv' := [some _, some _, some _, some _]) hC dX10_run_122 rfl (nI_i1 i) (nlt rfl) rfl ?_
      refine j_goto hC 109 dX10_run_125 (by decide) ?_
      exact ih (i + 1) _ (by omega) hM kk
theorem run_L4s (K : Kx) {w0 w1 : Wd} {m : Nat} {ad : Nat → Nat} {E : Ex} {S T : Ast} {x1 x2 : Int32}  (hC : BX K RX10 cX10_run 4 2 E) (hW : WSt S)  (hT : itn (fun k T => fPump T k) (cn S 24) S = T) (hM : MB K.2.1 w0 w1 m ad S) (kk : ∀ (w2 : Wd) (x3 : Int32), MB K.2.1 w0 w2 m ad T → J K cX10_run E 0 0 w2 128 [some (.ref m), some (.int x1), some (.int x2), some (.int x3)] []) : J K cX10_run E 0 0 w1 109 [some (.ref m), some (.int x1), some (.int x2), some (.int (0))] [] := by
  subst hT
  rw [← nI_0]
  exact run_L4 K hC hW  (cn S 24) 0 w1 (by omega) hM (fun w2 h => kk w2 _ h)

set_option maxRecDepth 100000 in
set_option maxHeartbeats 4000000 in
theorem run_L5 (K : Kx) {w0 : Wd} {m : Nat} {ad : Nat → Nat} {E : Ex} {S : Ast} {x1 x2 : Int32}  (hC : BX K RX10 cX10_run 4 2 E) (hW : WSt S)  : ∀ (n i : Nat) (w1 : Wd), i + n = cn S 31 → MB K.2.1 w0 w1 m ad (itn (fun k T => fGate T k) i S) → (∀ w2 : Wd, MB K.2.1 w0 w2 m ad (itn (fun k T => fGate T k) (cn S 31) S) → J K cX10_run E 0 0 w2 149 [some (.ref m), some (.int x1), some (.int x2), some (.int (nI (cn S 31)))] []) → J K cX10_run E 0 0 w1 130 [some (.ref m), some (.int x1), some (.int x2), some (.int (nI i))] [] := by
  have hb : CN S 31 8 := hW.1.2.2.2.2.1
  intro n
  induction n with
  | zero =>
    intro i w1 hi hM kk
    have hi2 : i = cn S 31 := by omega
    subst hi2
    refine j_iload_n hC dX10_run_130 rfl ?_
    refine j_aload_n hC dX10_run_131 rfl ?_
    refine m_get hC hM dX10_run_132 fX10_165 (by decide) (mFg_31 _ _) ?_
    refine J.toI (y := nI (cn S 31)) (by rw [itn_1 (f := fun k T => fGate T k) (fun _ _ => rfl)]; exact hb.1) ?_
    refine j_icmp_ge hC 149 dX10_run_135 (by decide) (fun c_135 => ?_) (fun c_135 => ?_)
    · exact kk _ hM
    · exact absurd (nI_le (Nat.le_refl _) (by have := hb.2; omega)) c_135
  | succ n ih =>
    intro i w1 hi hM kk
    have hil : i < cn S 31 := by omega
    refine j_iload_n hC dX10_run_130 rfl ?_
    refine j_aload_n hC dX10_run_131 rfl ?_
    refine m_get hC hM dX10_run_132 fX10_165 (by decide) (mFg_31 _ _) ?_
    refine J.toI (y := nI (cn S 31)) (by rw [itn_1 (f := fun k T => fGate T k) (fun _ _ => rfl)]; exact hb.1) ?_
    refine j_icmp_ge hC 149 dX10_run_135 (by decide) (fun c_135 => ?_) (fun c_135 => ?_)
    · exact absurd ((nI_leI (by have := hb.2; omega) (by have := hb.2; omega)).mp c_135) (by omega)
    · refine j_aload_n hC dX10_run_138 rfl ?_
      refine j_iload_n hC dX10_run_139 rfl ?_
      refine j_callv (kc' := 0) (ks' := 0) (r := (RX10, TX10, 59)) hC (m_gateOf K (S := itn (fun k T => fGate T k) i S) (k := i) hM.1 (by have := hb.2; omega) (by rw [itn_1 (f := fun k T => fGate T k) (fun _ _ => rfl)]; exact (hW.2.2.2.2.2.1 i hil).1.1) (by rw [itn_1 (f := fun k T => fGate T k) (fun _ _ => rfl)]; exact i64_pos (by have := (hW.2.2.2.2.2.1 i hil).2.2.1; omega))) dX10_run_140 wX10_gateOf lX10_212 i_yX10_gateOf s_yX10_gateOf hM.1.1 rfl rfl rfl (nle rfl) rfl (by decide) (by decide) (by decide) (kV fun w' hp => ?_)
      have hM := hM.tr hp
      clear hp
      refine j_iinc (v := nI (i + 1)) (lv' := [some _, some _, some _, some _]) hC dX10_run_143 rfl (nI_i1 i) (nlt rfl) rfl ?_
      refine j_goto hC 130 dX10_run_146 (by decide) ?_
      exact ih (i + 1) _ (by omega) hM kk
theorem run_L5s (K : Kx) {w0 w1 : Wd} {m : Nat} {ad : Nat → Nat} {E : Ex} {S T : Ast} {x1 x2 : Int32}  (hC : BX K RX10 cX10_run 4 2 E) (hW : WSt S)  (hT : itn (fun k T => fGate T k) (cn S 31) S = T) (hM : MB K.2.1 w0 w1 m ad S) (kk : ∀ (w2 : Wd) (x3 : Int32), MB K.2.1 w0 w2 m ad T → J K cX10_run E 0 0 w2 149 [some (.ref m), some (.int x1), some (.int x2), some (.int x3)] []) : J K cX10_run E 0 0 w1 130 [some (.ref m), some (.int x1), some (.int x2), some (.int (0))] [] := by
  subst hT
  rw [← nI_0]
  exact run_L5 K hC hW  (cn S 31) 0 w1 (by omega) hM (fun w2 h => kk w2 _ h)

theorem NVc.gullies {S : Ast} (h : NVc S) (hW : WSt S) : ∀ i, i ≤ cn S 35 → NVc (itn (fun k T => fGully T k) i S) := by
  intro i
  induction i with
  | zero => intro _; exact h
  | succ i ih =>
    intro hi
    refine (ih (by omega)).gully ?_
    have e : (itn (fun k T => fGully T k) i S).1 = S.1 := itn_1 (f := fun k T => fGully T k) (fun _ _ => rfl) i S
    have := hW.2.2.2.2.2.2.1 i (by omega)
    unfold gullyOK nd cn at this ⊢
    rw [e]
    exact this

set_option maxRecDepth 100000 in
set_option maxHeartbeats 4000000 in
theorem run_L6 (K : Kx) {w0 : Wd} {m : Nat} {ad : Nat → Nat} {E : Ex} {S : Ast} {x1 x2 : Int32}  (hC : BX K RX10 cX10_run 4 2 E) (hW : WSt S) (hNV : NVc S) : ∀ (n i : Nat) (w1 : Wd), i + n = cn S 35 → MB K.2.1 w0 w1 m ad (itn (fun k T => fGully T k) i S) → (∀ w2 : Wd, MB K.2.1 w0 w2 m ad (itn (fun k T => fGully T k) (cn S 35) S) → J K cX10_run E 0 0 w2 170 [some (.ref m), some (.int x1), some (.int x2), some (.int (nI (cn S 35)))] []) → J K cX10_run E 0 0 w1 151 [some (.ref m), some (.int x1), some (.int x2), some (.int (nI i))] [] := by
  have hb : CN S 35 8 := hW.1.2.2.2.2.2
  intro n
  induction n with
  | zero =>
    intro i w1 hi hM kk
    have hi2 : i = cn S 35 := by omega
    subst hi2
    refine j_iload_n hC dX10_run_151 rfl ?_
    refine j_aload_n hC dX10_run_152 rfl ?_
    refine m_get hC hM dX10_run_153 fX10_169 (by decide) (mFg_35 _ _) ?_
    refine J.toI (y := nI (cn S 35)) (by rw [itn_1 (f := fun k T => fGully T k) (fun _ _ => rfl)]; exact hb.1) ?_
    refine j_icmp_ge hC 170 dX10_run_156 (by decide) (fun c_156 => ?_) (fun c_156 => ?_)
    · exact kk _ hM
    · exact absurd (nI_le (Nat.le_refl _) (by have := hb.2; omega)) c_156
  | succ n ih =>
    intro i w1 hi hM kk
    have hil : i < cn S 35 := by omega
    refine j_iload_n hC dX10_run_151 rfl ?_
    refine j_aload_n hC dX10_run_152 rfl ?_
    refine m_get hC hM dX10_run_153 fX10_169 (by decide) (mFg_35 _ _) ?_
    refine J.toI (y := nI (cn S 35)) (by rw [itn_1 (f := fun k T => fGully T k) (fun _ _ => rfl)]; exact hb.1) ?_
    refine j_icmp_ge hC 170 dX10_run_156 (by decide) (fun c_156 => ?_) (fun c_156 => ?_)
    · exact absurd ((nI_leI (by have := hb.2; omega) (by have := hb.2; omega)).mp c_156) (by omega)
    · refine j_aload_n hC dX10_run_159 rfl ?_
      refine j_iload_n hC dX10_run_160 rfl ?_
      refine j_callv (kc' := 0) (ks' := 0) (r := (RX10, TX10, 59)) hC (m_gullyOf K (S := itn (fun k T => fGully T k) i S) (k := i) hM.1 (by have := hb.2; omega) (by rw [itn_1 (f := fun k T => fGully T k) (fun _ _ => rfl)]; exact (hW.2.2.2.2.2.2.1 i hil).2.1.1) (by rw [itn_1 (f := fun k T => fGully T k) (fun _ _ => rfl)]; exact (hW.2.2.2.2.2.2.1 i hil).1) (by rw [itn_1 (f := fun k T => fGully T k) (fun _ _ => rfl)]; exact i64_nn (by have := (hW.2.2.2.2.2.2.1 i hil).2.2.1; omega)) (hNV.gullies hW i (by omega) _ (by rw [itn_1 (f := fun k T => fGully T k) (fun _ _ => rfl)]; exact Nat.not_le.mp fun q => (hW.2.2.2.2.2.2.1 i hil).1.1 (Or.inr q)))) dX10_run_161 wX10_gullyOf lX10_215 i_yX10_gullyOf s_yX10_gullyOf hM.1.1 rfl rfl rfl (nle rfl) rfl (by decide) (by decide) (by decide) (kV fun w' hp => ?_)
      have hM := hM.tr hp
      clear hp
      refine j_iinc (v := nI (i + 1)) (lv' := [some _, some _, some _, some _]) hC dX10_run_164 rfl (nI_i1 i) (nlt rfl) rfl ?_
      refine j_goto hC 151 dX10_run_167 (by decide) ?_
      exact ih (i + 1) _ (by omega) hM kk
theorem run_L6s (K : Kx) {w0 w1 : Wd} {m : Nat} {ad : Nat → Nat} {E : Ex} {S T : Ast} {x1 x2 : Int32}  (hC : BX K RX10 cX10_run 4 2 E) (hW : WSt S) (hNV : NVc S) (hT : itn (fun k T => fGully T k) (cn S 35) S = T) (hM : MB K.2.1 w0 w1 m ad S) (kk : ∀ (w2 : Wd) (x3 : Int32), MB K.2.1 w0 w2 m ad T → J K cX10_run E 0 0 w2 170 [some (.ref m), some (.int x1), some (.int x2), some (.int x3)] []) : J K cX10_run E 0 0 w1 151 [some (.ref m), some (.int x1), some (.int x2), some (.int (0))] [] := by
  subst hT
  rw [← nI_0]
  exact run_L6 K hC hW hNV (cn S 35) 0 w1 (by omega) hM (fun w2 h => kk w2 _ h)

set_option maxRecDepth 100000 in
set_option maxHeartbeats 4000000 in
theorem run_L7 (K : Kx) {w0 : Wd} {m : Nat} {ad : Nat → Nat} {E : Ex} {S : Ast} {x1 x2 : Int32}  (hC : BX K RX10 cX10_run 4 2 E) (hW : WSt S)  : ∀ (n i : Nat) (w1 : Wd), i + n = cn S 1 → MB K.2.1 w0 w1 m ad (itn (fun k T => fNode T k) i S) → (∀ w2 : Wd, MB K.2.1 w0 w2 m ad (itn (fun k T => fNode T k) (cn S 1) S) → J K cX10_run E 0 0 w2 191 [some (.ref m), some (.int x1), some (.int x2), some (.int (nI (cn S 1)))] []) → J K cX10_run E 0 0 w1 172 [some (.ref m), some (.int x1), some (.int x2), some (.int (nI i))] [] := by
  have hb : CN S 1 24 := hW.1.1
  intro n
  induction n with
  | zero =>
    intro i w1 hi hM kk
    have hi2 : i = cn S 1 := by omega
    subst hi2
    refine j_iload_n hC dX10_run_172 rfl ?_
    refine j_aload_n hC dX10_run_173 rfl ?_
    refine m_get hC hM dX10_run_174 fX10_142 (by decide) (mFg_1 _ _) ?_
    refine J.toI (y := nI (cn S 1)) (by rw [itn_1 (f := fun k T => fNode T k) (fun k T => fNode_1 T k)]; exact hb.1) ?_
    refine j_icmp_ge hC 191 dX10_run_177 (by decide) (fun c_177 => ?_) (fun c_177 => ?_)
    · exact kk _ hM
    · exact absurd (nI_le (Nat.le_refl _) (by have := hb.2; omega)) c_177
  | succ n ih =>
    intro i w1 hi hM kk
    have hil : i < cn S 1 := by omega
    refine j_iload_n hC dX10_run_172 rfl ?_
    refine j_aload_n hC dX10_run_173 rfl ?_
    refine m_get hC hM dX10_run_174 fX10_142 (by decide) (mFg_1 _ _) ?_
    refine J.toI (y := nI (cn S 1)) (by rw [itn_1 (f := fun k T => fNode T k) (fun k T => fNode_1 T k)]; exact hb.1) ?_
    refine j_icmp_ge hC 191 dX10_run_177 (by decide) (fun c_177 => ?_) (fun c_177 => ?_)
    · exact absurd ((nI_leI (by have := hb.2; omega) (by have := hb.2; omega)).mp c_177) (by omega)
    · refine j_aload_n hC dX10_run_180 rfl ?_
      refine j_iload_n hC dX10_run_181 rfl ?_
      refine j_callv (kc' := 0) (ks' := 0) (r := (RX10, TX10, 59)) hC (m_nodeOf K (S := itn (fun k T => fNode T k) i S) (k := i) hM.1 (by have := hb.2; omega) (by rw [itn_1 (f := fun k T => fNode T k) (fun k T => fNode_1 T k)]; intro q; rcases (hW.2.1 i hil).2.2.2.2 with z | z; (· exact absurd (by rw [z]; decide) q); exact z)) dX10_run_182 wX10_nodeOf lX10_218 i_yX10_nodeOf s_yX10_nodeOf hM.1.1 rfl rfl rfl (nle rfl) rfl (by decide) (by decide) (by decide) (kV fun w' hp => ?_)
      have hM := hM.tr hp
      clear hp
      refine j_iinc (v := nI (i + 1)) (lv' := [some _, some _, some _, some _]) hC dX10_run_185 rfl (nI_i1 i) (nlt rfl) rfl ?_
      refine j_goto hC 172 dX10_run_188 (by decide) ?_
      exact ih (i + 1) _ (by omega) hM kk
theorem run_L7s (K : Kx) {w0 w1 : Wd} {m : Nat} {ad : Nat → Nat} {E : Ex} {S T : Ast} {x1 x2 : Int32}  (hC : BX K RX10 cX10_run 4 2 E) (hW : WSt S)  (hT : itn (fun k T => fNode T k) (cn S 1) S = T) (hM : MB K.2.1 w0 w1 m ad S) (kk : ∀ (w2 : Wd) (x3 : Int32), MB K.2.1 w0 w2 m ad T → J K cX10_run E 0 0 w2 191 [some (.ref m), some (.int x1), some (.int x2), some (.int x3)] []) : J K cX10_run E 0 0 w1 172 [some (.ref m), some (.int x1), some (.int x2), some (.int (0))] [] := by
  subst hT
  rw [← nI_0]
  exact run_L7 K hC hW  (cn S 1) 0 w1 (by omega) hM (fun w2 h => kk w2 _ h)

set_option maxRecDepth 100000 in
set_option maxHeartbeats 4000000 in
theorem run_sec (K : Kx) {w0 w1 : Wd} {m mi : Nat} {ad : Nat → Nat} {E : Ex} {S : Ast} {x1 x2 : Int32} (hC : BX K RX10 cX10_run 4 2 E) (hW : WSt S) (hN : NVc S) (hmi : S.1 40 0 / 60 = nI mi) (hm : mi < 1440) (hM : MB K.2.1 w0 w1 m ad S) (kk : ∀ (w2 : Wd) (x3 : Int32), MB K.2.1 w0 w2 m ad (fSec S) → J K cX10_run E 0 0 w2 201 [some (.ref m), some (.int x1), some (.int x2), some (.int x3)] []) : J K cX10_run E 0 0 w1 31 [some (.ref m), some (.int x1), some (.int x2), none] [] := by
  have h1W : WSt (q1 S) := hW.cong (fun k _ _ => by rw [q1_1])
  have h2W : WSt (q2 S) := hW.cong (fun k _ _ => by rw [q2_1])
  have h3W : WSt (q3 S) := hW.cong (fun k _ _ => by rw [q3_1])
  have h4W : WSt (q4 S) := hW.cong (fun k a _ => q4_1 S a)
  have h5W : WSt (q5 S) := hW.cong (fun k a _ => q5_1 S a)
  have h6W : WSt (q6 S) := hW.cong (fun k a _ => q6_1 S a)
  have h5N : NVc (q5 S) := fun c hc => by rw [q5_39]; exact hN c hc
  refine j_iconst hC (0) dX10_run_31 (by decide) ?_
  refine j_istore_n (lv' := [some _, some _, some _, some _]) hC dX10_run_32 (nlt rfl) rfl ?_
  have hT0 : itn (fun k T => fRain T k (mn S)) (cn (S) 18) (S) = q1 S := by unfold q1; rw [show cn (S) 18 = cn S 18 from rfl]
  refine run_L1s K (S := S) (T := q1 S) (j := mn S) (mi := mi) hC hW hmi (by unfold mn; rw [hmi]; exact nI_clamp (by omega)) hm hT0 hM (fun w0 x30 hM => ?_)
  refine j_iconst hC (0) dX10_run_59 (by decide) ?_
  refine j_istore_n (lv' := [some _, some _, some _, some _]) hC dX10_run_60 (nlt rfl) rfl ?_
  have hT1 : itn (fun k T => fLev T k) (cn (q1 S) 1) (q1 S) = q2 S := by unfold q2; rw [show cn (q1 S) 1 = cn S 1 from (by unfold cn; rw [q1_1])]
  refine run_L2s K (S := q1 S) (T := q2 S) hC h1W hT1 hM (fun w1 x31 hM => ?_)
  refine j_iconst hC (0) dX10_run_86 (by decide) ?_
  refine j_istore_n (lv' := [some _, some _, some _, some _]) hC dX10_run_87 (nlt rfl) rfl ?_
  have hT2 : itn (fun k T => fFlow T k) (cn (q2 S) 10) (q2 S) = q3 S := by unfold q3; rw [show cn (q2 S) 10 = cn S 10 from (by unfold cn; rw [q2_1])]
  refine run_L3s K (S := q2 S) (T := q3 S) hC h2W hT2 hM (fun w2 x32 hM => ?_)
  refine j_iconst hC (0) dX10_run_107 (by decide) ?_
  refine j_istore_n (lv' := [some _, some _, some _, some _]) hC dX10_run_108 (nlt rfl) rfl ?_
  have hT3 : itn (fun k T => fPump T k) (cn (q3 S) 24) (q3 S) = q4 S := by unfold q4; rw [show cn (q3 S) 24 = cn S 24 from (by unfold cn; rw [q3_1])]
  refine run_L4s K (S := q3 S) (T := q4 S) hC h3W hT3 hM (fun w3 x33 hM => ?_)
  refine j_iconst hC (0) dX10_run_128 (by decide) ?_
  refine j_istore_n (lv' := [some _, some _, some _, some _]) hC dX10_run_129 (nlt rfl) rfl ?_
  have hT4 : itn (fun k T => fGate T k) (cn (q4 S) 31) (q4 S) = q5 S := by unfold q5; rw [show cn (q4 S) 31 = cn S 31 from (by unfold cn; rw [q4_1 S (by decide)])]
  refine run_L5s K (S := q4 S) (T := q5 S) hC h4W hT4 hM (fun w4 x34 hM => ?_)
  refine j_iconst hC (0) dX10_run_149 (by decide) ?_
  refine j_istore_n (lv' := [some _, some _, some _, some _]) hC dX10_run_150 (nlt rfl) rfl ?_
  have hT5 : itn (fun k T => fGully T k) (cn (q5 S) 35) (q5 S) = q6 S := by unfold q6; rw [show cn (q5 S) 35 = cn S 35 from (by unfold cn; rw [q5_1 S (by decide)])]
  refine run_L6s K (S := q5 S) (T := q6 S) hC h5W h5N hT5 hM (fun w5 x35 hM => ?_)
  refine j_iconst hC (0) dX10_run_170 (by decide) ?_
  refine j_istore_n (lv' := [some _, some _, some _, some _]) hC dX10_run_171 (nlt rfl) rfl ?_
  have hT6 : itn (fun k T => fNode T k) (cn (q6 S) 1) (q6 S) = q7 S := by unfold q7; rw [show cn (q6 S) 1 = cn S 1 from (by unfold cn; rw [q6_1 S (by decide)])]
  refine run_L7s K (S := q6 S) (T := q7 S) hC h6W hT6 hM (fun w6 x36 hM => ?_)
  refine j_aload_n hC dX10_run_191 rfl ?_
  refine j_dup hC dX10_run_192 rfl ?_
  refine m_get hC hM dX10_run_193 fX10_197 (by decide) (mFg_40 _ _) ?_
  refine j_iconst hC (1) dX10_run_196 (by decide) ?_
  refine j_iadd hC dX10_run_197 ?_
  refine J.toI (y := S.1 40 0 + 1) (by rw [show (q7 S).1 40 = S.1 40 from q7_1 S (by decide)]) ?_
  refine m_putI hC hM (by decide) dX10_run_198 fX10_197 rfl (by decide) rfl rfl (mFs_40 _ _ _) (fun w1 hM => ?_)
  exact kk _ _ hM

abbrev okRun (S : Ast) (n : Int32) : Prop := ¬ wI n 1 600 = 0 ∧ ¬ 86400 < S.1 40 0 + n
theorem div60 {s : Nat} (h : s < 86400) : nI s / 60 = nI (s / 60) := by
  rw [show (60 : Int32) = nI 60 by decide]
  exact pk_div (by omega) (by omega) (by omega)
theorem okRun_n {S : Ast} {n : Int32} {s : Nat} (h40 : S.1 40 0 = nI s) (hs : s ≤ 86400) (hok : okRun S n) : n = nI n.toNatClampNeg ∧ 1 ≤ n.toNatClampNeg ∧ n.toNatClampNeg ≤ 600 ∧ s + n.toNatClampNeg ≤ 86400 := by
  obtain ⟨h1, h2⟩ := hok
  obtain ⟨h3, h4⟩ := wI_in h1
  have h5 : ¬ n < 0 := fun q => h3 (by
    rw [Int32.lt_iff_toInt_lt] at q ⊢
    have e0 : (0 : Int32).toInt = 0 := by decide
    have e1 : (1 : Int32).toInt = 1 := by decide
    omega)
  obtain ⟨j, hj, rfl⟩ := nI_of h5
  rw [nI_clamp hj]
  have e1 : ¬ nI j < nI 1 := h3
  have e2 : ¬ nI 600 < nI j := h4
  rw [nI_ltI hj (by omega)] at e1
  rw [nI_ltI (by omega) hj] at e2
  rw [h40, nI_add] at h2
  have e3 : ¬ nI 86400 < nI (s + j) := h2
  rw [nI_ltI (by omega) (by omega)] at e3
  exact ⟨rfl, by omega, by omega, by omega⟩

set_option maxRecDepth 100000 in
set_option maxHeartbeats 4000000 in
theorem m_run (K : Kx) {w : Wd} {m : Nat} {ad : Nat → Nat} {S : Ast} {s : Nat} (n : Int32) (hA : MA K.2.1 w m ad S) (hW : WSt S) (h40 : S.1 40 0 = nI s) (hs : s ≤ 86400) (hNV : ∀ t, t < n.toNatClampNeg → NVc (fRun S t)) : MT K mX10_run 2 0 0 [.ref m, .int n] w (PI fun r w' => r = (if okRun S n then (fRun S n.toNatClampNeg).1 40 0 else (-1)) ∧ MB K.2.1 w w' m ad (if okRun S n then fRun S n.toNatClampNeg else S)) := by
  refine MT.of [some (.ref m), some (.int n), none, none] (by decide) rfl (nle rfl) rfl ?_
  intro E hC hR
  have hM := MB.rf hA
  refine j_iload_n hC dX10_run_0 rfl ?_
  refine j_iconst hC (1) dX10_run_1 (by decide) ?_
  refine j_sipush hC (600) dX10_run_2 (by decide) ?_
  refine j_calls (kc' := 0) (ks' := 0) hC (m_is K n 1 600) dX10_run_5 wX10_is lX10_145 t_yX10_is rfl rfl (nle rfl) rfl (by decide) (by decide) (by decide) (kI fun r w' hp => ?_)
  obtain ⟨rfl, hw⟩ := hp
  rw [hw]
  clear hw w'
  refine j_if_eq hC 22 dX10_run_8 (by decide) (fun c_8 => ?_) (fun c_8 => ?_)
  · refine j_iconst hC (-1) dX10_run_22 (by decide) ?_
    have hok : ¬ okRun S n := by simp [okRun, c_8, Int32.not_le, Int32.not_lt]
    exact j_iret hC hR dX10_run_23 rfl ⟨_, rfl, by rw [if_neg hok], by rw [if_neg hok]; exact hM⟩
  · refine j_aload_n hC dX10_run_11 rfl ?_
    refine m_get hC hM dX10_run_12 fX10_197 (by decide) (mFg_40 _ _) ?_
    refine j_iload_n hC dX10_run_15 rfl ?_
    refine j_iadd hC dX10_run_16 ?_
    refine j_ldc hC dX10_run_17 nX10_200 ?_
    refine j_icmp_le hC 24 dX10_run_19 (by decide) (fun c_19 => ?_) (fun c_19 => ?_)
    · have hok : okRun S n := by simp [okRun, c_8, Int32.not_lt]; exact c_19
      obtain ⟨hn, hn1, hn6, hns⟩ := okRun_n h40 hs hok
      generalize n.toNatClampNeg = N at hn hn1 hn6 hns hNV
      subst hn
      refine j_iconst hC (0) dX10_run_24 (by decide) ?_
      refine j_istore_n (lv' := [some _, some _, some _, none]) hC dX10_run_25 (nlt rfl) rfl ?_
      have loop : ∀ (u t : Nat) (w1 : Wd), t + u = N → MB K.2.1 w w1 m ad (fRun S t) → J K cX10_run E 0 0 w1 26 [some (.ref m), some (.int (nI N)), some (.int (nI t)), none] [] := by
        intro u
        induction u with
        | zero =>
          intro t w1 ht hM
          have ht2 : t = N := by omega
          subst ht2
          refine j_iload_n hC dX10_run_26 rfl ?_
          refine j_iload_n hC dX10_run_27 rfl ?_
          refine j_icmp_ge hC 207 dX10_run_28 (by decide) (fun c_28 => ?_) (fun c_28 => ?_)
          · refine j_aload_n hC dX10_run_207 rfl ?_
            refine m_get hC hM dX10_run_208 fX10_197 (by decide) (mFg_40 _ _) ?_
            exact j_iret hC hR dX10_run_211 rfl ⟨_, rfl, by rw [if_pos hok, nI_clamp (by omega)], by rw [if_pos hok, nI_clamp (by omega)]; exact hM⟩
          · exact absurd (nI_le (Nat.le_refl _) (by omega)) c_28
        | succ u ih =>
          intro t w1 ht hM
          refine j_iload_n hC dX10_run_26 rfl ?_
          refine j_iload_n hC dX10_run_27 rfl ?_
          refine j_icmp_ge hC 207 dX10_run_28 (by decide) (fun c_28 => ?_) (fun c_28 => ?_)
          · exact absurd ((nI_leI (by omega) (by omega)).mp c_28) (by omega)
          · refine run_sec K (S := fRun S t) (mi := (s + t) / 60) hC (hW.run t) (hNV t (by omega)) (by rw [fRun_40 S h40 t]; exact div60 (by omega)) (by omega) hM (fun w2 x3 hM => ?_)
            refine j_iinc (v := nI (t + 1)) (lv' := [some _, some _, some _, some _]) hC dX10_run_201 rfl (nI_i1 t) (nlt rfl) rfl ?_
            refine j_goto hC 26 dX10_run_204 (by decide) ?_
            refine J.weak (l' := [some (.ref m), some (.int (nI N)), some (.int (nI (t + 1))), none]) ⟨rfl, rfl, rfl, trivial⟩ ?_
            exact ih (t + 1) _ (by omega) hM
      exact loop N 0 _ (by omega) hM
    · refine j_iconst hC (-1) dX10_run_22 (by decide) ?_
      have hok : ¬ okRun S n := by simp [okRun, c_8, c_19, Int32.not_le, Int32.not_lt]
      exact j_iret hC hR dX10_run_23 rfl ⟨_, rfl, by rw [if_neg hok], by rw [if_neg hok]; exact hM⟩
end
section

theorem out_ne {x : Int32} {N : Int} (h : x.toInt < 0 ∨ N < x.toInt) (v : Int32) (h1 : 0 ≤ v.toInt) (h2 : v.toInt ≤ N) : ¬ x = v := by
  intro q
  subst q
  omega
def rLit (S : Ast) (x : Int32) : Int64 := if x = 0 then S.2 41 0 else if x = 1 then smJ (S.2 6) (cn S 1) else if x = 2 then smJ (S.2 39) 8 else if x = 3 then S.2 42 0 else if x = 4 then S.2 43 0 else -1
def rCnt (S : Ast) (x : Int32) : Int32 := if x = 0 then S.1 1 0 else if x = 1 then S.1 10 0 else if x = 2 then S.1 18 0 else if x = 3 then S.1 24 0 else if x = 4 then S.1 31 0 else if x = 5 then S.1 35 0 else if x = 6 then S.1 44 0 else if x = 7 then S.1 50 0 else if x = 8 then S.1 40 0 else -1
def rKeep (S : Ast) : Int32 := if S.2 41 0 = smJ (S.2 6) (cn S 1) + smJ (S.2 39) 8 + S.2 42 0 + S.2 43 0 then 1 else 0
abbrev okLi (S : Ast) (wi pr : Int32) : Prop := ¬ S.1 44 0 = 6 ∧ ¬ wI wi 10 3000 = 0 ∧ ¬ wI pr 0 100000 = 0 ∧ (S.1 44 0 ≤ 0 ∨ S.1 45 (cn S 44 - 1) < wi)
def sLi (S : Ast) (wi pr : Int32) : Ast := uI (uI (uI (uI S 45 (cn S 44) wi) 46 (cn S 44) pr) 44 0 (S.1 44 0 + 1)) 55 0 0
abbrev okB (g b : Int32) : Prop := ¬ wI g (-100000) 100000 = 0 ∧ ¬ wI b (-100000) 100000 = 0
def sB (S : Ast) (g b : Int32) : Ast := uI (uI (uI (uI (uI S 47 0 1) 48 0 g) 49 0 b) 50 0 0) 55 0 0
abbrev okPc (S : Ast) (g l e : Int32) : Prop := ¬ S.1 47 0 = 0 ∧ ¬ S.1 50 0 = 10 ∧ ¬ wI g (-100000) 100000 = 0 ∧ ¬ wI l 1 10000 = 0 ∧ ¬ wI e 0 10000 = 0
def sPc (S : Ast) (g l e : Int32) : Ast := uI (uI (uI (uI (uI S 51 (cn S 50) g) 52 (cn S 50) l) 53 (cn S 50) e) 50 0 (S.1 50 0 + 1)) 55 0 0
abbrev okLd (S : Ast) (k x : Int32) : Prop := ¬ S.1 55 0 = 0 ∧ ¬ wI k 0 (S.1 50 0 - 1) = 0 ∧ ¬ wI x 0 2 = 0
def rLd (S : Ast) (j : Nat) (x : Int32) : Int32 := if x = 0 then S.1 56 j else if x = 1 then S.1 57 j else S.1 58 j

set_option maxRecDepth 100000 in
set_option maxHeartbeats 4000000 in
theorem m_litres (K : Kx) {w : Wd} {m : Nat} {ad : Nat → Nat} {S : Ast} (x : Int32) (hA : MA K.2.1 w m ad S) (h1 : CN S 1 24) : MT K mX10_litres 1 0 0 [.ref m, .int x] w (PL fun r w' => r = rLit S x ∧ w' = w) := by
  refine MT.of [some (.ref m), some (.int x)] (by decide) rfl (nle rfl) rfl ?_
  intro E hC hR
  have hM := MB.rf hA
  refine j_iload_n hC dX10_litres_0 rfl ?_
  rcases tab_cases x 5 (by omega) 4 (by decide) with h | ⟨j, hj, rfl⟩
  · refine j_tableOut hC 61 dX10_litres_1 h (by decide) ?_
    refine j_ldc2 hC dX10_litres_61 nX10_225 ?_
    exact j_lret hC hR dX10_litres_64 rfl ⟨_, rfl, by simp [rLit, out_ne h 0 (by decide) (by decide), out_ne h 1 (by decide) (by decide), out_ne h 2 (by decide) (by decide), out_ne h 3 (by decide) (by decide), out_ne h 4 (by decide) (by decide)], rfl⟩
  · rcases (show j = 0 ∨ j = 1 ∨ j = 2 ∨ j = 3 ∨ j = 4 by omega) with rfl | rfl | rfl | rfl | rfl
    · refine j_tableIn (off := 35) hC 36 dX10_litres_1 (by decide) (by decide) (by decide) (by decide) ?_
      refine j_aload_n hC dX10_litres_36 rfl ?_
      refine m_get hC hM dX10_litres_37 fX10_174 (by decide) (mFg_41 _ _) ?_
      exact j_lret hC hR dX10_litres_40 rfl ⟨_, rfl, rfl, rfl⟩
    · refine j_tableIn (off := 40) hC 41 dX10_litres_1 (by decide) (by decide) (by decide) (by decide) ?_
      refine j_aload_n hC dX10_litres_41 rfl ?_
      refine j_callv (kc' := 0) (ks' := 0) (r := (RX10, TX10, 59)) hC (m_inNodes K hA h1) dX10_litres_42 wX10_inNodes lX10_227 i_yX10_inNodes s_yX10_inNodes hM.1.1 rfl rfl rfl (nle rfl) rfl (by decide) (by decide) (by decide) (kL fun r w' hp => ?_)
      obtain ⟨rfl, hw⟩ := hp
      rw [hw]
      clear hw w'
      exact j_lret hC hR dX10_litres_45 rfl ⟨_, rfl, rfl, rfl⟩
    · refine j_tableIn (off := 45) hC 46 dX10_litres_1 (by decide) (by decide) (by decide) (by decide) ?_
      refine j_aload_n hC dX10_litres_46 rfl ?_
      refine j_callv (kc' := 0) (ks' := 0) (r := (RX10, TX10, 59)) hC (m_inCells K hA) dX10_litres_47 wX10_inCells lX10_231 i_yX10_inCells s_yX10_inCells hM.1.1 rfl rfl rfl (nle rfl) rfl (by decide) (by decide) (by decide) (kL fun r w' hp => ?_)
      obtain ⟨rfl, hw⟩ := hp
      rw [hw]
      clear hw w'
      exact j_lret hC hR dX10_litres_50 rfl ⟨_, rfl, rfl, rfl⟩
    · refine j_tableIn (off := 50) hC 51 dX10_litres_1 (by decide) (by decide) (by decide) (by decide) ?_
      refine j_aload_n hC dX10_litres_51 rfl ?_
      refine m_get hC hM dX10_litres_52 fX10_188 (by decide) (mFg_42 _ _) ?_
      exact j_lret hC hR dX10_litres_55 rfl ⟨_, rfl, rfl, rfl⟩
    · refine j_tableIn (off := 55) hC 56 dX10_litres_1 (by decide) (by decide) (by decide) (by decide) ?_
      refine j_aload_n hC dX10_litres_56 rfl ?_
      refine m_get hC hM dX10_litres_57 fX10_194 (by decide) (mFg_43 _ _) ?_
      exact j_lret hC hR dX10_litres_60 rfl ⟨_, rfl, rfl, rfl⟩

set_option maxRecDepth 100000 in
set_option maxHeartbeats 4000000 in
theorem m_count (K : Kx) {w : Wd} {m : Nat} {ad : Nat → Nat} {S : Ast} (x : Int32) (hA : MA K.2.1 w m ad S)  : MT K mX10_count 0 0 0 [.ref m, .int x] w (PI fun r w' => r = rCnt S x ∧ w' = w) := by
  refine MT.of [some (.ref m), some (.int x)] (by decide) rfl (nle rfl) rfl ?_
  intro E hC hR
  have hM := MB.rf hA
  refine j_iload_n hC dX10_count_0 rfl ?_
  rcases tab_cases x 9 (by omega) 8 (by decide) with h | ⟨j, hj, rfl⟩
  · refine j_tableOut hC 97 dX10_count_1 h (by decide) ?_
    refine j_iconst hC (-1) dX10_count_97 (by decide) ?_
    exact j_iret hC hR dX10_count_98 rfl ⟨_, rfl, by simp [rCnt, out_ne h 0 (by decide) (by decide), out_ne h 1 (by decide) (by decide), out_ne h 2 (by decide) (by decide), out_ne h 3 (by decide) (by decide), out_ne h 4 (by decide) (by decide), out_ne h 5 (by decide) (by decide), out_ne h 6 (by decide) (by decide), out_ne h 7 (by decide) (by decide), out_ne h 8 (by decide) (by decide)], rfl⟩
  · rcases (show j = 0 ∨ j = 1 ∨ j = 2 ∨ j = 3 ∨ j = 4 ∨ j = 5 ∨ j = 6 ∨ j = 7 ∨ j = 8 by omega) with rfl | rfl | rfl | rfl | rfl | rfl | rfl | rfl | rfl
    · refine j_tableIn (off := 51) hC 52 dX10_count_1 (by decide) (by decide) (by decide) (by decide) ?_
      refine j_aload_n hC dX10_count_52 rfl ?_
      refine m_get hC hM dX10_count_53 fX10_142 (by decide) (mFg_1 _ _) ?_
      exact j_iret hC hR dX10_count_56 rfl ⟨_, rfl, rfl, rfl⟩
    · refine j_tableIn (off := 56) hC 57 dX10_count_1 (by decide) (by decide) (by decide) (by decide) ?_
      refine j_aload_n hC dX10_count_57 rfl ?_
      refine m_get hC hM dX10_count_58 fX10_151 (by decide) (mFg_10 _ _) ?_
      exact j_iret hC hR dX10_count_61 rfl ⟨_, rfl, rfl, rfl⟩
    · refine j_tableIn (off := 61) hC 62 dX10_count_1 (by decide) (by decide) (by decide) (by decide) ?_
      refine j_aload_n hC dX10_count_62 rfl ?_
      refine m_get hC hM dX10_count_63 fX10_158 (by decide) (mFg_18 _ _) ?_
      exact j_iret hC hR dX10_count_66 rfl ⟨_, rfl, rfl, rfl⟩
    · refine j_tableIn (off := 66) hC 67 dX10_count_1 (by decide) (by decide) (by decide) (by decide) ?_
      refine j_aload_n hC dX10_count_67 rfl ?_
      refine m_get hC hM dX10_count_68 fX10_162 (by decide) (mFg_24 _ _) ?_
      exact j_iret hC hR dX10_count_71 rfl ⟨_, rfl, rfl, rfl⟩
    · refine j_tableIn (off := 71) hC 72 dX10_count_1 (by decide) (by decide) (by decide) (by decide) ?_
      refine j_aload_n hC dX10_count_72 rfl ?_
      refine m_get hC hM dX10_count_73 fX10_165 (by decide) (mFg_31 _ _) ?_
      exact j_iret hC hR dX10_count_76 rfl ⟨_, rfl, rfl, rfl⟩
    · refine j_tableIn (off := 76) hC 77 dX10_count_1 (by decide) (by decide) (by decide) (by decide) ?_
      refine j_aload_n hC dX10_count_77 rfl ?_
      refine m_get hC hM dX10_count_78 fX10_169 (by decide) (mFg_35 _ _) ?_
      exact j_iret hC hR dX10_count_81 rfl ⟨_, rfl, rfl, rfl⟩
    · refine j_tableIn (off := 81) hC 82 dX10_count_1 (by decide) (by decide) (by decide) (by decide) ?_
      refine j_aload_n hC dX10_count_82 rfl ?_
      refine m_get hC hM dX10_count_83 fX10_234 (by decide) (mFg_44 _ _) ?_
      exact j_iret hC hR dX10_count_86 rfl ⟨_, rfl, rfl, rfl⟩
    · refine j_tableIn (off := 86) hC 87 dX10_count_1 (by decide) (by decide) (by decide) (by decide) ?_
      refine j_aload_n hC dX10_count_87 rfl ?_
      refine m_get hC hM dX10_count_88 fX10_250 (by decide) (mFg_50 _ _) ?_
      exact j_iret hC hR dX10_count_91 rfl ⟨_, rfl, rfl, rfl⟩
    · refine j_tableIn (off := 91) hC 92 dX10_count_1 (by decide) (by decide) (by decide) (by decide) ?_
      refine j_aload_n hC dX10_count_92 rfl ?_
      refine m_get hC hM dX10_count_93 fX10_197 (by decide) (mFg_40 _ _) ?_
      exact j_iret hC hR dX10_count_96 rfl ⟨_, rfl, rfl, rfl⟩

set_option maxRecDepth 100000 in
set_option maxHeartbeats 4000000 in
theorem m_keeps (K : Kx) {w : Wd} {m : Nat} {ad : Nat → Nat} {S : Ast}  (hA : MA K.2.1 w m ad S) (h1 : CN S 1 24) : MT K mX10_keeps 1 0 0 [.ref m] w (PI fun r w' => r = rKeep S ∧ w' = w) := by
  refine MT.of [some (.ref m)] (by decide) rfl (nle rfl) rfl ?_
  intro E hC hR
  have hM := MB.rf hA
  refine j_aload_n hC dX10_keeps_0 rfl ?_
  refine m_get hC hM dX10_keeps_1 fX10_174 (by decide) (mFg_41 _ _) ?_
  refine j_aload_n hC dX10_keeps_4 rfl ?_
  refine j_callv (kc' := 0) (ks' := 0) (r := (RX10, TX10, 59)) hC (m_inNodes K hA h1) dX10_keeps_5 wX10_inNodes lX10_227 i_yX10_inNodes s_yX10_inNodes hM.1.1 rfl rfl rfl (nle rfl) rfl (by decide) (by decide) (by decide) (kL fun r w' hp => ?_)
  obtain ⟨rfl, hw⟩ := hp
  rw [hw]
  clear hw w'
  refine j_aload_n hC dX10_keeps_8 rfl ?_
  refine j_callv (kc' := 0) (ks' := 0) (r := (RX10, TX10, 59)) hC (m_inCells K hA) dX10_keeps_9 wX10_inCells lX10_231 i_yX10_inCells s_yX10_inCells hM.1.1 rfl rfl rfl (nle rfl) rfl (by decide) (by decide) (by decide) (kL fun r w' hp => ?_)
  obtain ⟨rfl, hw⟩ := hp
  rw [hw]
  clear hw w'
  refine j_ladd hC dX10_keeps_12 ?_
  refine j_aload_n hC dX10_keeps_13 rfl ?_
  refine m_get hC hM dX10_keeps_14 fX10_188 (by decide) (mFg_42 _ _) ?_
  refine j_ladd hC dX10_keeps_17 ?_
  refine j_aload_n hC dX10_keeps_18 rfl ?_
  refine m_get hC hM dX10_keeps_19 fX10_194 (by decide) (mFg_43 _ _) ?_
  refine j_ladd hC dX10_keeps_22 ?_
  refine j_lcmp_ne hC 31 dX10_keeps_23 dX10_keeps_24 (by decide) (fun c_23 => ?_) (fun c_23 => ?_)
  · refine j_iconst hC (0) dX10_keeps_31 (by decide) ?_
    exact j_zret hC hR dX10_keeps_32 rfl (by decide) ⟨_, rfl, by simp [rKeep, c_23], rfl⟩
  · refine j_iconst hC (1) dX10_keeps_27 (by decide) ?_
    refine j_goto hC 32 dX10_keeps_28 (by decide) ?_
    exact j_zret hC hR dX10_keeps_32 rfl (by decide) ⟨_, rfl, by simp [rKeep, c_23], rfl⟩

theorem ixp {S : Ast} {k b : Nat} (h : CN S k b) (hb : b < 2 ^ 31) (hp : ¬ S.1 k 0 ≤ 0) (hx : ix (S.1 k 0) b (cn S k)) : ix (S.1 k 0 - 1) b (cn S k - 1) := by
  have hc : cn S k < b := Nat.not_le.mp fun q => hx.1 (Or.inr (by rw [hx.2]; exact q))
  rw [h.1] at hp ⊢
  cases hn : cn S k with
  | zero => rw [hn] at hp; exact absurd (by decide) hp
  | succ n =>
    rw [nI_pred]
    exact ix_nI (by omega) hb
set_option maxRecDepth 100000 in
set_option maxHeartbeats 4000000 in
theorem m_list (K : Kx) {w : Wd} {m : Nat} {ad : Nat → Nat} {S : Ast} (wi pr : Int32) (hA : MA K.2.1 w m ad S) (h2 : CN S 44 6) : MT K mX10_list 1 0 0 [.ref m, .int wi, .int pr] w (PI fun rr w' => rr = (if okLi S wi pr then S.1 44 0 else (-1)) ∧ MB K.2.1 w w' m ad (if okLi S wi pr then sLi S wi pr else S)) := by
  refine MT.of [some (.ref m), some (.int wi), some (.int pr)] (by decide) rfl (nle rfl) rfl ?_
  intro E hC hR
  have hM := MB.rf hA
  refine j_aload_n hC dX10_list_0 rfl ?_
  refine m_get hC hM dX10_list_1 fX10_234 (by decide) (mFg_44 _ _) ?_
  refine j_bipush hC (6) dX10_list_4 (by decide) ?_
  refine j_icmp_eq hC 53 dX10_list_6 (by decide) (fun c_6 => ?_) (fun c_6 => ?_)
  · refine j_iconst hC (-1) dX10_list_53 (by decide) ?_
    have hok : ¬ okLi S wi pr := by simp [okLi, c_6, Int32.not_le, Int32.not_lt]
    exact j_iret hC hR dX10_list_54 rfl ⟨_, rfl, by rw [if_neg hok], by rw [if_neg hok]; exact hM⟩
  · refine j_iload_n hC dX10_list_9 rfl ?_
    refine j_bipush hC (10) dX10_list_10 (by decide) ?_
    refine j_sipush hC (3000) dX10_list_12 (by decide) ?_
    refine j_calls (kc' := 0) (ks' := 0) hC (m_is K wi 10 3000) dX10_list_15 wX10_is lX10_145 t_yX10_is rfl rfl (nle rfl) rfl (by decide) (by decide) (by decide) (kI fun r w' hp => ?_)
    obtain ⟨rfl, hw⟩ := hp
    rw [hw]
    clear hw w'
    refine j_if_eq hC 53 dX10_list_18 (by decide) (fun c_18 => ?_) (fun c_18 => ?_)
    · refine j_iconst hC (-1) dX10_list_53 (by decide) ?_
      have hok : ¬ okLi S wi pr := by simp [okLi, c_6, c_18, Int32.not_le, Int32.not_lt]
      exact j_iret hC hR dX10_list_54 rfl ⟨_, rfl, by rw [if_neg hok], by rw [if_neg hok]; exact hM⟩
    · refine j_iload_n hC dX10_list_21 rfl ?_
      refine j_iconst hC (0) dX10_list_22 (by decide) ?_
      refine j_ldc hC dX10_list_23 nX10_150 ?_
      refine j_calls (kc' := 0) (ks' := 0) hC (m_is K pr 0 100000) dX10_list_25 wX10_is lX10_145 t_yX10_is rfl rfl (nle rfl) rfl (by decide) (by decide) (by decide) (kI fun r w' hp => ?_)
      obtain ⟨rfl, hw⟩ := hp
      rw [hw]
      clear hw w'
      refine j_if_eq hC 53 dX10_list_28 (by decide) (fun c_28 => ?_) (fun c_28 => ?_)
      · refine j_iconst hC (-1) dX10_list_53 (by decide) ?_
        have hok : ¬ okLi S wi pr := by simp [okLi, c_6, c_18, c_28, Int32.not_le, Int32.not_lt]
        exact j_iret hC hR dX10_list_54 rfl ⟨_, rfl, by rw [if_neg hok], by rw [if_neg hok]; exact hM⟩
      · have hx : ix (S.1 44 0) 6 (cn S 44) := CN.ix h2 6 (by omega) (by decide) c_6
        refine j_aload_n hC dX10_list_31 rfl ?_
        refine m_get hC hM dX10_list_32 fX10_234 (by decide) (mFg_44 _ _) ?_
        refine j_if_le hC 55 dX10_list_35 (by decide) (fun c_35 => ?_) (fun c_35 => ?_)
        · refine j_aload_n hC dX10_list_55 rfl ?_
          refine m_get hC hM dX10_list_56 fX10_111 (by decide) (mFg_45 _ _) ?_
          refine j_aload_n hC dX10_list_59 rfl ?_
          refine m_get hC hM dX10_list_60 fX10_234 (by decide) (mFg_44 _ _) ?_
          refine j_iload_n hC dX10_list_63 rfl ?_
          refine m_stI hC hM (by decide) dX10_list_64 (hx) (fun w1 hM => ?_)
          refine j_aload_n hC dX10_list_65 rfl ?_
          refine m_get hC hM dX10_list_66 fX10_114 (by decide) (mFg_46 _ _) ?_
          refine j_aload_n hC dX10_list_69 rfl ?_
          refine m_get hC hM dX10_list_70 fX10_234 (by decide) (mFg_44 _ _) ?_
          refine j_iload_n hC dX10_list_73 rfl ?_
          refine m_stI hC hM (by decide) dX10_list_74 (hx) (fun w2 hM => ?_)
          refine j_aload_n hC dX10_list_75 rfl ?_
          refine j_dup hC dX10_list_76 rfl ?_
          refine m_get hC hM dX10_list_77 fX10_234 (by decide) (mFg_44 _ _) ?_
          refine j_iconst hC (1) dX10_list_80 (by decide) ?_
          refine j_iadd hC dX10_list_81 ?_
          refine m_putI hC hM (by decide) dX10_list_82 fX10_234 rfl (by decide) rfl rfl (mFs_44 _ _ _) (fun w3 hM => ?_)
          refine j_aload_n hC dX10_list_85 rfl ?_
          refine j_iconst hC (0) dX10_list_86 (by decide) ?_
          refine m_putI hC hM (by decide) dX10_list_87 fX10_237 rfl (by decide) rfl rfl (mFs_55 _ _ _) (fun w4 hM => ?_)
          refine j_aload_n hC dX10_list_90 rfl ?_
          refine m_get hC hM dX10_list_91 fX10_234 (by decide) (mFg_44 _ _) ?_
          refine j_iconst hC (1) dX10_list_94 (by decide) ?_
          refine j_isub hC dX10_list_95 ?_
          have hok : okLi S wi pr := by simp [okLi, c_6, c_18, c_28, c_35, Int32.not_le, Int32.not_lt]
          exact j_iret hC hR dX10_list_96 rfl ⟨_, rfl, by rw [if_pos hok]; exact Int32.add_sub_cancel _ _, by rw [if_pos hok]; exact hM⟩
        · refine j_iload_n hC dX10_list_38 rfl ?_
          refine j_aload_n hC dX10_list_39 rfl ?_
          refine m_get hC hM dX10_list_40 fX10_111 (by decide) (mFg_45 _ _) ?_
          refine j_aload_n hC dX10_list_43 rfl ?_
          refine m_get hC hM dX10_list_44 fX10_234 (by decide) (mFg_44 _ _) ?_
          refine j_iconst hC (1) dX10_list_47 (by decide) ?_
          refine j_isub hC dX10_list_48 ?_
          refine m_ldI hC hM (by decide) dX10_list_49 (ixp (b := 6) h2 (by omega) c_35 hx) ?_
          refine j_icmp_gt hC 55 dX10_list_50 (by decide) (fun c_50 => ?_) (fun c_50 => ?_)
          · refine j_aload_n hC dX10_list_55 rfl ?_
            refine m_get hC hM dX10_list_56 fX10_111 (by decide) (mFg_45 _ _) ?_
            refine j_aload_n hC dX10_list_59 rfl ?_
            refine m_get hC hM dX10_list_60 fX10_234 (by decide) (mFg_44 _ _) ?_
            refine j_iload_n hC dX10_list_63 rfl ?_
            refine m_stI hC hM (by decide) dX10_list_64 (hx) (fun w5 hM => ?_)
            refine j_aload_n hC dX10_list_65 rfl ?_
            refine m_get hC hM dX10_list_66 fX10_114 (by decide) (mFg_46 _ _) ?_
            refine j_aload_n hC dX10_list_69 rfl ?_
            refine m_get hC hM dX10_list_70 fX10_234 (by decide) (mFg_44 _ _) ?_
            refine j_iload_n hC dX10_list_73 rfl ?_
            refine m_stI hC hM (by decide) dX10_list_74 (hx) (fun w6 hM => ?_)
            refine j_aload_n hC dX10_list_75 rfl ?_
            refine j_dup hC dX10_list_76 rfl ?_
            refine m_get hC hM dX10_list_77 fX10_234 (by decide) (mFg_44 _ _) ?_
            refine j_iconst hC (1) dX10_list_80 (by decide) ?_
            refine j_iadd hC dX10_list_81 ?_
            refine m_putI hC hM (by decide) dX10_list_82 fX10_234 rfl (by decide) rfl rfl (mFs_44 _ _ _) (fun w7 hM => ?_)
            refine j_aload_n hC dX10_list_85 rfl ?_
            refine j_iconst hC (0) dX10_list_86 (by decide) ?_
            refine m_putI hC hM (by decide) dX10_list_87 fX10_237 rfl (by decide) rfl rfl (mFs_55 _ _ _) (fun w8 hM => ?_)
            refine j_aload_n hC dX10_list_90 rfl ?_
            refine m_get hC hM dX10_list_91 fX10_234 (by decide) (mFg_44 _ _) ?_
            refine j_iconst hC (1) dX10_list_94 (by decide) ?_
            refine j_isub hC dX10_list_95 ?_
            have hok : okLi S wi pr := by simp [okLi, c_6, c_18, c_28, c_35, c_50, Int32.not_le, Int32.not_lt]
            exact j_iret hC hR dX10_list_96 rfl ⟨_, rfl, by rw [if_pos hok]; exact Int32.add_sub_cancel _ _, by rw [if_pos hok]; exact hM⟩
          · refine j_iconst hC (-1) dX10_list_53 (by decide) ?_
            have hok : ¬ okLi S wi pr := by simp [okLi, c_6, c_18, c_28, c_35, c_50, Int32.not_le, Int32.not_lt]
            exact j_iret hC hR dX10_list_54 rfl ⟨_, rfl, by rw [if_neg hok], by rw [if_neg hok]; exact hM⟩

set_option maxRecDepth 100000 in
set_option maxHeartbeats 4000000 in
theorem m_begin (K : Kx) {w : Wd} {m : Nat} {ad : Nat → Nat} {S : Ast} (g b : Int32) (hA : MA K.2.1 w m ad S)  : MT K mX10_begin 1 0 0 [.ref m, .int g, .int b] w (PI fun rr w' => rr = (if okB g b then 1 else 0) ∧ MB K.2.1 w w' m ad (if okB g b then sB S g b else S)) := by
  refine MT.of [some (.ref m), some (.int g), some (.int b)] (by decide) rfl (nle rfl) rfl ?_
  intro E hC hR
  have hM := MB.rf hA
  refine j_iload_n hC dX10_begin_0 rfl ?_
  refine j_ldc hC dX10_begin_1 nX10_149 ?_
  refine j_ldc hC dX10_begin_3 nX10_150 ?_
  refine j_calls (kc' := 0) (ks' := 0) hC (m_is K g (-100000) 100000) dX10_begin_5 wX10_is lX10_145 t_yX10_is rfl rfl (nle rfl) rfl (by decide) (by decide) (by decide) (kI fun r w' hp => ?_)
  obtain ⟨rfl, hw⟩ := hp
  rw [hw]
  clear hw w'
  refine j_if_eq hC 22 dX10_begin_8 (by decide) (fun c_8 => ?_) (fun c_8 => ?_)
  · refine j_iconst hC (0) dX10_begin_22 (by decide) ?_
    have hok : ¬ okB g b := by simp [okB, c_8]
    exact j_zret hC hR dX10_begin_23 rfl (by decide) ⟨_, rfl, by rw [if_neg hok], by rw [if_neg hok]; exact hM⟩
  · refine j_iload_n hC dX10_begin_11 rfl ?_
    refine j_ldc hC dX10_begin_12 nX10_149 ?_
    refine j_ldc hC dX10_begin_14 nX10_150 ?_
    refine j_calls (kc' := 0) (ks' := 0) hC (m_is K b (-100000) 100000) dX10_begin_16 wX10_is lX10_145 t_yX10_is rfl rfl (nle rfl) rfl (by decide) (by decide) (by decide) (kI fun r w' hp => ?_)
    obtain ⟨rfl, hw⟩ := hp
    rw [hw]
    clear hw w'
    refine j_if_ne hC 24 dX10_begin_19 (by decide) (fun c_19 => ?_) (fun c_19 => ?_)
    · refine j_aload_n hC dX10_begin_24 rfl ?_
      refine j_iconst hC (1) dX10_begin_25 (by decide) ?_
      refine m_putI hC hM (by decide) dX10_begin_26 fX10_241 rfl (by decide) rfl rfl (mFs_47 _ _ _) (fun w1 hM => ?_)
      refine j_aload_n hC dX10_begin_29 rfl ?_
      refine j_iload_n hC dX10_begin_30 rfl ?_
      refine m_putI hC hM (by decide) dX10_begin_31 fX10_244 rfl (by decide) rfl rfl (mFs_48 _ _ _) (fun w2 hM => ?_)
      refine j_aload_n hC dX10_begin_34 rfl ?_
      refine j_iload_n hC dX10_begin_35 rfl ?_
      refine m_putI hC hM (by decide) dX10_begin_36 fX10_247 rfl (by decide) rfl rfl (mFs_49 _ _ _) (fun w3 hM => ?_)
      refine j_aload_n hC dX10_begin_39 rfl ?_
      refine j_iconst hC (0) dX10_begin_40 (by decide) ?_
      refine m_putI hC hM (by decide) dX10_begin_41 fX10_250 rfl (by decide) rfl rfl (mFs_50 _ _ _) (fun w4 hM => ?_)
      refine j_aload_n hC dX10_begin_44 rfl ?_
      refine j_iconst hC (0) dX10_begin_45 (by decide) ?_
      refine m_putI hC hM (by decide) dX10_begin_46 fX10_237 rfl (by decide) rfl rfl (mFs_55 _ _ _) (fun w5 hM => ?_)
      refine j_iconst hC (1) dX10_begin_49 (by decide) ?_
      have hok : okB g b := by simp [okB, c_8, c_19]
      exact j_zret hC hR dX10_begin_50 rfl (by decide) ⟨_, rfl, by rw [if_pos hok], by rw [if_pos hok]; exact hM⟩
    · refine j_iconst hC (0) dX10_begin_22 (by decide) ?_
      have hok : ¬ okB g b := by simp [okB, c_8, c_19]
      exact j_zret hC hR dX10_begin_23 rfl (by decide) ⟨_, rfl, by rw [if_neg hok], by rw [if_neg hok]; exact hM⟩

set_option maxRecDepth 100000 in
set_option maxHeartbeats 4000000 in
theorem m_piece (K : Kx) {w : Wd} {m : Nat} {ad : Nat → Nat} {S : Ast} (g l e : Int32) (hA : MA K.2.1 w m ad S) (h2 : CN S 50 10) : MT K mX10_piece 1 0 0 [.ref m, .int g, .int l, .int e] w (PI fun rr w' => rr = (if okPc S g l e then S.1 50 0 else (-1)) ∧ MB K.2.1 w w' m ad (if okPc S g l e then sPc S g l e else S)) := by
  refine MT.of [some (.ref m), some (.int g), some (.int l), some (.int e)] (by decide) rfl (nle rfl) rfl ?_
  intro E hC hR
  have hM := MB.rf hA
  refine j_aload_n hC dX10_piece_0 rfl ?_
  refine m_get hC hM dX10_piece_1 fX10_241 (by decide) (mFg_47 _ _) ?_
  refine j_if_eq hC 49 dX10_piece_4 (by decide) (fun c_4 => ?_) (fun c_4 => ?_)
  · refine j_iconst hC (-1) dX10_piece_49 (by decide) ?_
    have hok : ¬ okPc S g l e := by simp [okPc, c_4, Int32.not_le, Int32.not_lt]
    exact j_iret hC hR dX10_piece_50 rfl ⟨_, rfl, by rw [if_neg hok], by rw [if_neg hok]; exact hM⟩
  · refine j_aload_n hC dX10_piece_7 rfl ?_
    refine m_get hC hM dX10_piece_8 fX10_250 (by decide) (mFg_50 _ _) ?_
    refine j_bipush hC (10) dX10_piece_11 (by decide) ?_
    refine j_icmp_eq hC 49 dX10_piece_13 (by decide) (fun c_13 => ?_) (fun c_13 => ?_)
    · refine j_iconst hC (-1) dX10_piece_49 (by decide) ?_
      have hok : ¬ okPc S g l e := by simp [okPc, c_4, c_13, Int32.not_le, Int32.not_lt]
      exact j_iret hC hR dX10_piece_50 rfl ⟨_, rfl, by rw [if_neg hok], by rw [if_neg hok]; exact hM⟩
    · refine j_iload_n hC dX10_piece_16 rfl ?_
      refine j_ldc hC dX10_piece_17 nX10_149 ?_
      refine j_ldc hC dX10_piece_19 nX10_150 ?_
      refine j_calls (kc' := 0) (ks' := 0) hC (m_is K g (-100000) 100000) dX10_piece_21 wX10_is lX10_145 t_yX10_is rfl rfl (nle rfl) rfl (by decide) (by decide) (by decide) (kI fun r w' hp => ?_)
      obtain ⟨rfl, hw⟩ := hp
      rw [hw]
      clear hw w'
      refine j_if_eq hC 49 dX10_piece_24 (by decide) (fun c_24 => ?_) (fun c_24 => ?_)
      · refine j_iconst hC (-1) dX10_piece_49 (by decide) ?_
        have hok : ¬ okPc S g l e := by simp [okPc, c_4, c_13, c_24, Int32.not_le, Int32.not_lt]
        exact j_iret hC hR dX10_piece_50 rfl ⟨_, rfl, by rw [if_neg hok], by rw [if_neg hok]; exact hM⟩
      · refine j_iload_n hC dX10_piece_27 rfl ?_
        refine j_iconst hC (1) dX10_piece_28 (by decide) ?_
        refine j_sipush hC (10000) dX10_piece_29 (by decide) ?_
        refine j_calls (kc' := 0) (ks' := 0) hC (m_is K l 1 10000) dX10_piece_32 wX10_is lX10_145 t_yX10_is rfl rfl (nle rfl) rfl (by decide) (by decide) (by decide) (kI fun r w' hp => ?_)
        obtain ⟨rfl, hw⟩ := hp
        rw [hw]
        clear hw w'
        refine j_if_eq hC 49 dX10_piece_35 (by decide) (fun c_35 => ?_) (fun c_35 => ?_)
        · refine j_iconst hC (-1) dX10_piece_49 (by decide) ?_
          have hok : ¬ okPc S g l e := by simp [okPc, c_4, c_13, c_24, c_35, Int32.not_le, Int32.not_lt]
          exact j_iret hC hR dX10_piece_50 rfl ⟨_, rfl, by rw [if_neg hok], by rw [if_neg hok]; exact hM⟩
        · refine j_iload_n hC dX10_piece_38 rfl ?_
          refine j_iconst hC (0) dX10_piece_39 (by decide) ?_
          refine j_sipush hC (10000) dX10_piece_40 (by decide) ?_
          refine j_calls (kc' := 0) (ks' := 0) hC (m_is K e 0 10000) dX10_piece_43 wX10_is lX10_145 t_yX10_is rfl rfl (nle rfl) rfl (by decide) (by decide) (by decide) (kI fun r w' hp => ?_)
          obtain ⟨rfl, hw⟩ := hp
          rw [hw]
          clear hw w'
          refine j_if_ne hC 51 dX10_piece_46 (by decide) (fun c_46 => ?_) (fun c_46 => ?_)
          · have hx : ix (S.1 50 0) 10 (cn S 50) := CN.ix h2 10 (by omega) (by decide) c_13
            refine j_aload_n hC dX10_piece_51 rfl ?_
            refine m_get hC hM dX10_piece_52 fX10_117 (by decide) (mFg_51 _ _) ?_
            refine j_aload_n hC dX10_piece_55 rfl ?_
            refine m_get hC hM dX10_piece_56 fX10_250 (by decide) (mFg_50 _ _) ?_
            refine j_iload_n hC dX10_piece_59 rfl ?_
            refine m_stI hC hM (by decide) dX10_piece_60 (hx) (fun w1 hM => ?_)
            refine j_aload_n hC dX10_piece_61 rfl ?_
            refine m_get hC hM dX10_piece_62 fX10_120 (by decide) (mFg_52 _ _) ?_
            refine j_aload_n hC dX10_piece_65 rfl ?_
            refine m_get hC hM dX10_piece_66 fX10_250 (by decide) (mFg_50 _ _) ?_
            refine j_iload_n hC dX10_piece_69 rfl ?_
            refine m_stI hC hM (by decide) dX10_piece_70 (hx) (fun w2 hM => ?_)
            refine j_aload_n hC dX10_piece_71 rfl ?_
            refine m_get hC hM dX10_piece_72 fX10_123 (by decide) (mFg_53 _ _) ?_
            refine j_aload_n hC dX10_piece_75 rfl ?_
            refine m_get hC hM dX10_piece_76 fX10_250 (by decide) (mFg_50 _ _) ?_
            refine j_iload_n hC dX10_piece_79 rfl ?_
            refine m_stI hC hM (by decide) dX10_piece_80 (hx) (fun w3 hM => ?_)
            refine j_aload_n hC dX10_piece_81 rfl ?_
            refine j_dup hC dX10_piece_82 rfl ?_
            refine m_get hC hM dX10_piece_83 fX10_250 (by decide) (mFg_50 _ _) ?_
            refine j_iconst hC (1) dX10_piece_86 (by decide) ?_
            refine j_iadd hC dX10_piece_87 ?_
            refine m_putI hC hM (by decide) dX10_piece_88 fX10_250 rfl (by decide) rfl rfl (mFs_50 _ _ _) (fun w4 hM => ?_)
            refine j_aload_n hC dX10_piece_91 rfl ?_
            refine j_iconst hC (0) dX10_piece_92 (by decide) ?_
            refine m_putI hC hM (by decide) dX10_piece_93 fX10_237 rfl (by decide) rfl rfl (mFs_55 _ _ _) (fun w5 hM => ?_)
            refine j_aload_n hC dX10_piece_96 rfl ?_
            refine m_get hC hM dX10_piece_97 fX10_250 (by decide) (mFg_50 _ _) ?_
            refine j_iconst hC (1) dX10_piece_100 (by decide) ?_
            refine j_isub hC dX10_piece_101 ?_
            have hok : okPc S g l e := by simp [okPc, c_4, c_13, c_24, c_35, c_46, Int32.not_le, Int32.not_lt]
            exact j_iret hC hR dX10_piece_102 rfl ⟨_, rfl, by rw [if_pos hok]; exact Int32.add_sub_cancel _ _, by rw [if_pos hok]; exact hM⟩
          · refine j_iconst hC (-1) dX10_piece_49 (by decide) ?_
            have hok : ¬ okPc S g l e := by simp [okPc, c_4, c_13, c_24, c_35, c_46, Int32.not_le, Int32.not_lt]
            exact j_iret hC hR dX10_piece_50 rfl ⟨_, rfl, by rw [if_neg hok], by rw [if_neg hok]; exact hM⟩

set_option maxRecDepth 100000 in
set_option maxHeartbeats 4000000 in
theorem m_laid (K : Kx) {w : Wd} {m : Nat} {ad : Nat → Nat} {S : Ast} (k x : Int32) (hA : MA K.2.1 w m ad S) (h2 : CN S 50 10) : MT K mX10_laid 1 0 0 [.ref m, .int k, .int x] w (PI fun r w' => r = (if okLd S k x then rLd S k.toNatClampNeg x else (-1073741824)) ∧ w' = w) := by
  refine MT.of [some (.ref m), some (.int k), some (.int x)] (by decide) rfl (nle rfl) rfl ?_
  intro E hC hR
  have hM := MB.rf hA
  refine j_aload_n hC dX10_laid_0 rfl ?_
  refine m_get hC hM dX10_laid_1 fX10_237 (by decide) (mFg_55 _ _) ?_
  refine j_if_eq hC 30 dX10_laid_4 (by decide) (fun c_4 => ?_) (fun c_4 => ?_)
  · refine j_ldc_w hC dX10_laid_30 nX10_265 ?_
    have hok : ¬ okLd S k x := by simp [okLd, c_4]
    exact j_iret hC hR dX10_laid_33 rfl ⟨_, rfl, by rw [if_neg hok], rfl⟩
  · refine j_iload_n hC dX10_laid_7 rfl ?_
    refine j_iconst hC (0) dX10_laid_8 (by decide) ?_
    refine j_aload_n hC dX10_laid_9 rfl ?_
    refine m_get hC hM dX10_laid_10 fX10_250 (by decide) (mFg_50 _ _) ?_
    refine j_iconst hC (1) dX10_laid_13 (by decide) ?_
    refine j_isub hC dX10_laid_14 ?_
    refine j_calls (kc' := 0) (ks' := 0) hC (m_is K k 0 (S.1 50 0 - 1)) dX10_laid_15 wX10_is lX10_145 t_yX10_is rfl rfl (nle rfl) rfl (by decide) (by decide) (by decide) (kI fun r w' hp => ?_)
    obtain ⟨rfl, hw⟩ := hp
    rw [hw]
    clear hw w'
    refine j_if_eq hC 30 dX10_laid_18 (by decide) (fun c_18 => ?_) (fun c_18 => ?_)
    · refine j_ldc_w hC dX10_laid_30 nX10_265 ?_
      have hok : ¬ okLd S k x := by simp [okLd, c_4, c_18]
      exact j_iret hC hR dX10_laid_33 rfl ⟨_, rfl, by rw [if_neg hok], rfl⟩
    · refine j_iload_n hC dX10_laid_21 rfl ?_
      refine j_iconst hC (0) dX10_laid_22 (by decide) ?_
      refine j_iconst hC (2) dX10_laid_23 (by decide) ?_
      refine j_calls (kc' := 0) (ks' := 0) hC (m_is K x 0 2) dX10_laid_24 wX10_is lX10_145 t_yX10_is rfl rfl (nle rfl) rfl (by decide) (by decide) (by decide) (kI fun r w' hp => ?_)
      obtain ⟨rfl, hw⟩ := hp
      rw [hw]
      clear hw w'
      refine j_if_ne hC 34 dX10_laid_27 (by decide) (fun c_27 => ?_) (fun c_27 => ?_)
      · have hok : okLd S k x := by simp [okLd, c_4, c_18, c_27]
        obtain ⟨-, hlt, hx⟩ := wI_ix h2.2 (by omega) (show ¬ wI k 0 (nI (cn S 50) - 1) = 0 by rw [← h2.1]; exact c_18)
        refine j_iload_n hC dX10_laid_34 rfl ?_
        refine j_if_ne hC 47 dX10_laid_35 (by decide) (fun c_35 => ?_) (fun c_35 => ?_)
        · refine j_iload_n hC dX10_laid_47 rfl ?_
          refine j_iconst hC (1) dX10_laid_48 (by decide) ?_
          refine j_icmp_ne hC 61 dX10_laid_49 (by decide) (fun c_49 => ?_) (fun c_49 => ?_)
          · refine j_aload_n hC dX10_laid_61 rfl ?_
            refine m_get hC hM dX10_laid_62 fX10_135 (by decide) (mFg_58 _ _) ?_
            refine j_iload_n hC dX10_laid_65 rfl ?_
            refine m_ldI hC hM (by decide) dX10_laid_66 (hx) ?_
            exact j_iret hC hR dX10_laid_67 rfl ⟨_, rfl, by rw [if_pos hok]; simp [rLd, c_35, c_49], rfl⟩
          · refine j_aload_n hC dX10_laid_52 rfl ?_
            refine m_get hC hM dX10_laid_53 fX10_132 (by decide) (mFg_57 _ _) ?_
            refine j_iload_n hC dX10_laid_56 rfl ?_
            refine m_ldI hC hM (by decide) dX10_laid_57 (hx) ?_
            refine j_goto hC 67 dX10_laid_58 (by decide) ?_
            exact j_iret hC hR dX10_laid_67 rfl ⟨_, rfl, by rw [if_pos hok]; simp [rLd, c_35, c_49], rfl⟩
        · refine j_aload_n hC dX10_laid_38 rfl ?_
          refine m_get hC hM dX10_laid_39 fX10_129 (by decide) (mFg_56 _ _) ?_
          refine j_iload_n hC dX10_laid_42 rfl ?_
          refine m_ldI hC hM (by decide) dX10_laid_43 (hx) ?_
          refine j_goto hC 67 dX10_laid_44 (by decide) ?_
          exact j_iret hC hR dX10_laid_67 rfl ⟨_, rfl, by rw [if_pos hok]; simp [rLd, c_35], rfl⟩
      · refine j_ldc_w hC dX10_laid_30 nX10_265 ?_
        have hok : ¬ okLd S k x := by simp [okLd, c_4, c_18, c_27]
        exact j_iret hC hR dX10_laid_33 rfl ⟨_, rfl, by rw [if_neg hok], rfl⟩
end
section

abbrev Zx : Type := Int32 × Int32 × (Nat → Int64) × (Nat → Nat → Int64)
def cel (g : Gx) (ad : Nat → Nat → Nat) (z : Zx) (S : Ast) : Nat → Nat → va_E
  | 0, _ => .inr (10, [.int (S.1 0 0), .ref (ad 14 1), .ref (ad 14 2), .ref (ad 14 3), .ref (ad 14 4), .ref (ad 14 5), .ref (ad 14 6), .ref (ad 7 0), .ref (ad 8 0), .ref (ad 9 0), .int (S.1 40 0), .long (S.2 41 0), .long (S.2 42 0), .long (S.2 43 0)])
  | 1, i => oNode (S.1 3 i) (S.1 4 i) (ful S i) (S.2 6 i) (S.2 9 i) (S.2 7 i) (S.2 8 i) (S.1 5 i)
  | 2, i => oPipe (ad 1 (S.1 11 i).toNatClampNeg) (ad 1 (S.1 12 i).toNatClampNeg) ((S.1 14 i).toInt64 * (S.1 14 i).toInt64) (wB S i) (S.2 15 i) (S.2 16 i) (S.2 17 i)
  | 3, i => oArea (ad 1 (S.1 19 i).toNatClampNeg) ((S.1 20 i).toInt64 * (1000 - S.1 21 i).toInt64) (S.2 22 i)
  | 4, i => oPump (ad 1 (S.1 25 i).toNatClampNeg) (ad 1 (S.1 26 i).toNatClampNeg) (S.1 27 i) (S.1 28 i) (S.1 29 i) (S.1 30 i)
  | 5, i => oGate (ad 1 (S.1 32 i).toNatClampNeg) ((S.1 33 i).toInt64 * (S.1 4 (S.1 32 i).toNatClampNeg).toInt64) (S.1 34 i)
  | 6, i => oGully (S.1 36 i) (ad 1 (S.1 37 i).toNatClampNeg) (S.1 38 i)
  | 7, _ => aI g 1440 (S.1 23)
  | 8, _ => aJ g 8 (S.2 39)
  | 9, _ => .inr (5, [.ref (ad 14 10), .ref (ad 14 11), .ref (ad 12 0), .int (S.1 50 0), .int (S.1 47 0), .int (S.1 55 0), .int (S.1 48 0), .int (S.1 49 0), .int z.1, .int z.2.1])
  | 10, i => oEntry (S.1 45 i) (S.1 46 i)
  | 11, i => oPiece (ad 13 i) (S.1 51 i) (S.1 52 i) (S.1 53 i) (S.1 56 i) (S.1 57 i) (S.1 58 i)
  | 12, _ => aJ g 401 z.2.2.1
  | 13, i => aJ g ((40 * i + 1) * 6) (z.2.2.2 i)
  | _, _ => .inr (2, [])
/-- how many of a kind there are -/
def vN (S : Ast) (np : Nat) : Nat → Nat
  | 0 => 1 | 1 => cn S 1 | 2 => cn S 10 | 3 => cn S 18 | 4 => cn S 24 | 5 => cn S 31 | 6 => cn S 35 | 7 => 1 | 8 => 1 | 9 => 1 | 10 => cn S 44 | 11 => np | 12 => 1 | 13 => np | _ => 0
def LJ : List Nat := [1, 2, 3, 4, 5, 6, 10, 11]
def vk : va_E → Nat
  | .inl (_, _, .inl _) => 1
  | .inl (_, _, .inr (.inl _)) => 2
  | .inl (_, _, .inr (.inr (.inl _))) => 3
  | .inl (_, _, .inr (.inr (.inr (.inl _)))) => 4
  | .inl (_, _, .inr (.inr (.inr (.inr _)))) => 5
  | .inr _ => 6
theorem cel_nl (g : Gx) (ad : Nat → Nat → Nat) (z : Zx) (S : Ast) (k i : Nat) : (∀ fs : List Value, cel g ad z S k i ≠ .inr (0, fs)) ∧ ∀ (n : Nat) (f : Nat → Option Nat), cel g ad z S k i ≠ aO g n f := by
  match k with
  | 0 | 1 | 2 | 3 | 4 | 5 | 6 | 9 | 10 | 11 => exact ⟨fun fs h => (by cases h), fun n f h => (by cases h)⟩
  | 7 => exact ⟨fun fs h => (by cases h), fun n f h => absurd (show (1 : Nat) = 5 from congrArg vk h) (by decide)⟩
  | 8 | 12 | 13 => exact ⟨fun fs h => (by cases h), fun n f h => absurd (show (2 : Nat) = 5 from congrArg vk h) (by decide)⟩
  | _ + 14 => exact ⟨fun fs h => (by cases h), fun n f h => (by cases h)⟩
/-- the class's objects and rows, at ad (kind) (number), hold S; O: the addresses that are its own -/
def SA (g : Gx) (w : Wd) (O : Nat → Prop) (ad : Nat → Nat → Nat) (z : Zx) (np : Nat) (S : Ast) : Prop :=
  (∀ k i, i < vN S np k → w (ad k i) = some (cel g ad z S k i) ∧ O (ad k i)) ∧ (∀ k i k' i', i < vN S np k → i' < vN S np k' → ad k i = ad k' i' → k = k' ∧ i = i') ∧
  (∀ j ∈ LJ, Lst g w (ad 14 j) (ad 15 j) (vN S np j) (ad j) ∧ O (ad 14 j) ∧ (0 < vN S np j → O (ad 15 j))) ∧ (∀ j ∈ LJ, ∀ j' ∈ LJ, ad 14 j = ad 14 j' → j = j') ∧ ∀ j ∈ LJ, ∀ j' ∈ LJ, 0 < vN S np j → 0 < vN S np j' → ad 15 j = ad 15 j' → j = j'
/-- what a call may do to the rest of the world -/
def Fr (w : Wd) (O : Nat → Prop) (w' : Wd) (O' : Nat → Prop) : Prop := (∀ a, O' a → O a ∨ w a = none) ∧ ∀ a, ¬ O a → w a ≠ none → w' a = w a
theorem Fr.rf {w : Wd} {O : Nat → Prop} : Fr w O w O := ⟨fun _ h => Or.inl h, fun _ _ _ => rfl⟩
theorem Fr.tr {w w1 w2 : Wd} {O O1 O2 : Nat → Prop} (h : Fr w O w1 O1) (h' : Fr w1 O1 w2 O2) : Fr w O w2 O2 := by
  have key : ∀ a, O1 a → O a ∨ w a = none := h.1
  refine ⟨fun a ha => ?_, fun a h1 h2 => ?_⟩
  · rcases h'.1 a ha with q | q
    · exact h.1 a q
    · by_cases h3 : O a
      · exact Or.inl h3
      · right
        cases h4 : w a with
        | none => rfl
        | some e =>
          have := h.2 a h3 (by rw [h4]; exact fun z => by cases z)
          rw [q, h4] at this
          cases this
  · have h3 := h.2 a h1 h2
    rw [← h3]
    refine h'.2 a (fun q => ?_) (by rw [h3]; exact h2)
    rcases h.1 a q with q | q
    · exact h1 q
    · exact h2 q
theorem Fr.put {w : Wd} {O : Nat → Prop} {a : Nat} {e : va_E} (ha : O a) : Fr w O (wst w a e) O := ⟨fun _ h => Or.inl h, fun q h1 _ => wst_n (fun z => h1 (by rw [z]; exact ha))⟩
theorem Lst.row {g : Gx} {w : Wd} {l e n : Nat} {f : Nat → Nat} (h : Lst g w l e n f) (hn : 0 < n) : ∃ (N : Nat) (h : Nat → Option Nat), w e = some (aO g N h) ∧ n ≤ N ∧ 10 ≤ N ∧ N ≤ 60 ∧ ∀ i, i < n → h i = some (f i) := by
  obtain ⟨mc, N, h, h1, h2⟩ := h
  rcases h2 with ⟨h2, -⟩ | h2
  · omega
  · exact ⟨N, h, h2.2⟩
theorem Lst.cong0 {g : Gx} {w w' : Wd} {l e n : Nat} {f : Nat → Nat} (h : Lst g w l e n f) (hl : w' l = w l) (he : 0 < n → w' e = w e) : Lst g w' l e n f := by
  obtain ⟨mc, N, h, h1, h2⟩ := h
  refine ⟨mc, N, h, hl.trans h1, ?_⟩
  rcases h2 with h2 | ⟨h0, h2, h3⟩
  · exact Or.inl h2
  · exact Or.inr ⟨h0, (he h0).trans h2, h3⟩
section SAs
variable {g : Gx} {w : Wd} {O : Nat → Prop} {ad : Nat → Nat → Nat} {z : Zx} {np : Nat} {S : Ast}
theorem SA.at (h : SA g w O ad z np S) {k i : Nat} (hi : i < vN S np k) : w (ad k i) = some (cel g ad z S k i) := (h.1 k i hi).1
theorem SA.own (h : SA g w O ad z np S) {k i : Nat} (hi : i < vN S np k) : O (ad k i) := (h.1 k i hi).2
theorem SA.lst (h : SA g w O ad z np S) {j : Nat} (hj : j ∈ LJ) : Lst g w (ad 14 j) (ad 15 j) (vN S np j) (ad j) := (h.2.2.1 j hj).1
/-- one cell is written -/
theorem SA.up (h : SA g w O ad z np S) {k i : Nat} (hi : i < vN S np k) {e : va_E} (T : Ast) (y : Zx) (hN : ∀ j, vN T np j = vN S np j) (he : e = cel g ad y T k i) (hc : ∀ k' i', i' < vN S np k' → ¬ (k' = k ∧ i' = i) → cel g ad y T k' i' = cel g ad z S k' i') : SA g (wst w (ad k i) e) O ad y np T := by
  obtain ⟨h1, h2, h3, h4, h5⟩ := h
  have hw := (h1 k i hi).1
  have hl : ∀ j ∈ LJ, ad 14 j ≠ ad k i := by
    intro j hj q
    obtain ⟨mc, hm⟩ := (h3 j hj).1.sz
    rw [q, hw] at hm
    exact (cel_nl g ad z S k i).1 _ (Option.some.inj hm)
  have hr : ∀ j ∈ LJ, 0 < vN S np j → (wst w (ad k i) e) (ad 15 j) = w (ad 15 j) := by
    intro j hj hn
    apply wst_n
    intro q
    obtain ⟨N, f, q1, -⟩ := (h3 j hj).1.row hn
    rw [q, hw] at q1
    exact (cel_nl g ad z S k i).2 _ _ (Option.some.inj q1)
  refine ⟨fun k' i' hi' => ?_, fun a b c d q1 q2 => h2 a b c d (by rw [← hN]; exact q1) (by rw [← hN]; exact q2), fun j hj => ?_, h4, fun j hj j' hj' q1 q2 => ?_⟩
  · rw [hN] at hi'
    refine ⟨?_, (h1 k' i' hi').2⟩
    by_cases hk : k' = k ∧ i' = i
    · obtain ⟨rfl, rfl⟩ := hk
      rw [wst_s, he]
    · rw [wst_n (fun q => hk (h2 k' i' k i hi' hi q)), (h1 k' i' hi').1, hc k' i' hi' hk]
  · rw [hN]
    exact ⟨(h3 j hj).1.cong0 (wst_n (hl j hj)) (hr j hj), (h3 j hj).2.1, (h3 j hj).2.2⟩
  · rw [hN] at q1 q2
    exact h5 j hj j' hj' q1 q2
/-- another state that the class's cells don't tell from S -/
theorem SA.cong (h : SA g w O ad z np S) (T : Ast) (hN : ∀ j, vN T np j = vN S np j) (hc : ∀ k i, i < vN S np k → cel g ad z T k i = cel g ad z S k i) : SA g w O ad z np T := by
  obtain ⟨h1, h2, h3, h4, h5⟩ := h
  refine ⟨fun k i hi => ?_, fun a b c d q1 q2 => h2 a b c d (by rw [← hN]; exact q1) (by rw [← hN]; exact q2), fun j hj => ?_, h4, fun j hj j' hj' q1 q2 => ?_⟩
  · rw [hN] at hi
    rw [hc k i hi]
    exact h1 k i hi
  · rw [hN]; exact h3 j hj
  · rw [hN] at q1 q2
    exact h5 j hj j' hj' q1 q2
/-- nothing of the class's own was touched -/
theorem SA.kept {w' : Wd} (h : SA g w O ad z np S) (hw : ∀ a, O a → w' a = w a) : SA g w' O ad z np S := by
  obtain ⟨h1, h2, h3, h4, h5⟩ := h
  refine ⟨fun k i hi => ⟨(hw _ (h1 k i hi).2).trans (h1 k i hi).1, (h1 k i hi).2⟩, h2, fun j hj => ⟨(h3 j hj).1.cong0 (hw _ (h3 j hj).2.1) (fun q => hw _ ((h3 j hj).2.2 q)), (h3 j hj).2⟩, h4, h5⟩
end SAs
end
